/-! PAIRS: sheets, one place at a time -/
theorem in_1 {d : Nat} {v lo hi : Int64} {μ : Mem} {Q : QM} (h : lo.toInt ≤ v.toInt ∧ v.toInt ≤ hi.toInt) (hQ : Q (some (.int (nI 1))) μ) : MW kX6_in d [.long v, .long lo, .long hi] μ Q :=
  wp_X6_in (fun _ => hQ) (fun q => absurd q (by omega))
theorem in_0 {d : Nat} {v lo hi : Int64} {μ : Mem} {Q : QM} (h : v.toInt < lo.toInt ∨ hi.toInt < v.toInt) (hQ : Q (some (.int (nI 0))) μ) : MW kX6_in d [.long v, .long lo, .long hi] μ Q :=
  wp_X6_in (fun q => absurd q (by omega)) (fun _ => hQ)
theorem noSh_B {d : Nat} {k : Int32} {μ : Mem} {Q : QM} (hd : 1 ≤ d) (h : oob k 8) (hQ : Q (some (.int (-2))) μ) : MW kX6_noSheet d [.ref 73, .int k] μ Q := by
  unfold oob at h
  exact wp_X6_noSheet hd (fun _ => hQ) (fun j hj hk _ => absurd h (by rw [hk, nI_toInt (by omega)]; omega)) (fun j hj hk _ => absurd h (by rw [hk, nI_toInt (by omega)]; omega))
theorem nI_eq3 {a b : Nat} (h : nI a = nI b) (ha : a < 2 ^ 31) (hb : b < 2 ^ 31) : a = b := by
  have := congrArg Int32.toInt h
  rw [nI_toInt ha, nI_toInt hb] at this
  omega
theorem noSh_N {d j : Nat} {μ : Mem} {Q : QM} (hd : 1 ≤ d) (hj : j < 8) (h : μ.1 74 j = nI 0) (hQ : Q (some (.int (-10))) μ) : MW kX6_noSheet d [.ref 73, .int (nI j)] μ Q := by
  refine wp_X6_noSheet hd (fun q => absurd q (by unfold oob; rw [nI_toInt (by omega)]; omega)) (fun _ _ _ _ => hQ) (fun i hi hk q => ?_)
  obtain rfl : j = i := nI_eq3 hk (by omega) (by omega)
  rw [h] at q
  exact absurd (by decide) q
theorem noSh_F {d j : Nat} {μ : Mem} {Q : QM} (hd : 1 ≤ d) (hj : j < 8) (h : μ.1 74 j = nI 1) (hQ : Q (some (.int (nI 0))) μ) : MW kX6_noSheet d [.ref 73, .int (nI j)] μ Q := by
  refine wp_X6_noSheet hd (fun q => absurd q (by unfold oob; rw [nI_toInt (by omega)]; omega)) (fun i hi hk q => ?_) (fun _ _ _ _ => hQ)
  obtain rfl : j = i := nI_eq3 hk (by omega) (by omega)
  rw [h] at q
  exact absurd q (by decide)
theorem isRo_1 {d r : Nat} {μ : Mem} {Q : QM} (hd : 1 ≤ d) (hr : r < 6) (hQ : Q (some (.int (nI 1))) μ) : MW kX6_isRow d [.int (nI r)] μ Q :=
  wp_X6_isRow hd (fun _ _ _ => hQ) (fun q => absurd q (by unfold oob; rw [nI_toInt (by omega)]; omega))
theorem isRo_0 {d : Nat} {k : Int32} {μ : Mem} {Q : QM} (hd : 1 ≤ d) (h : oob k 6) (hQ : Q (some (.int (nI 0))) μ) : MW kX6_isRow d [.int k] μ Q := by
  unfold oob at h
  exact wp_X6_isRow hd (fun r hr hk => absurd h (by rw [hk, nI_toInt (by omega)]; omega)) (fun _ => hQ)
theorem pr_drop (k : Int32) : PR kX5_drop kX6_drop [.int k] := by
  intro N μ d c hd hc hN hrel
  have hth := hrel.th
  refine MW_of (by decide) [some (.ref 0), some (.int k), none] rfl (Nat.le_of_ble_eq_true rfl) ?_
  refine wa_aload_n dX5_drop_0 rfl ?_
  refine wa_iload_n dX5_drop_1 rfl ?_
  refine wa_callV1 (k' := kX5_sheetFailure) (d' := 1) dX5_drop_2 lmX5_52 kvX5_sheetFailure (by first | assumption | rfl) (by rfl) (by decide) (by omega) (Nat.le_of_ble_eq_true rfl) ?_
  refine wp_X5_sheetFailure (by omega) hth (fun hoob => ?_) (fun j_ hj_ hk_ h_ => ?_) (fun j_ hj_ hk_ h_ => ?_)
  · skip
    refine wa_istore_n dX5_drop_5 (by decide) ?_
    refine wa_iload_n dX5_drop_6 rfl ?_
    refine wa_if_eqF 12 dX5_drop_7 (by decide) (by decide) ?_
    refine wa_iload_n dX5_drop_10 rfl ?_
    refine wa_iret dX5_drop_11 rfl ?_
    skip
    refine MW_of (by decide) [some (.ref 73), some (.int k), none] rfl (Nat.le_of_ble_eq_true rfl) ?_
    refine wa_aload_n dX6_drop_0 rfl ?_
    refine wa_iload_n dX6_drop_1 rfl ?_
    refine wa_callV1 (k' := kX6_noSheet) (d' := 1) dX6_drop_2 lmX6_66 kvX6_noSheet (by first | assumption | rfl) (by rfl) (by decide) (by omega) (Nat.le_of_ble_eq_true rfl) ?_
    refine noSh_B (by omega) hoob ?_
    refine wa_istore_n dX6_drop_5 (by decide) ?_
    refine wa_iload_n dX6_drop_6 rfl ?_
    refine wa_if_geF 12 dX6_drop_7 (by decide) (by decide) ?_
    refine wa_iload_n dX6_drop_10 rfl ?_
    refine wa_iret dX6_drop_11 rfl ?_
    exact ⟨rfl, hrel.up⟩
  · skip
    refine wa_istore_n dX5_drop_5 (by decide) ?_
    refine wa_iload_n dX5_drop_6 rfl ?_
    refine wa_if_eqF 12 dX5_drop_7 (by decide) (by decide) ?_
    refine wa_iload_n dX5_drop_10 rfl ?_
    refine wa_iret dX5_drop_11 rfl ?_
    rw [hk_]
    obtain ⟨n_, s1_, s2_, s3_, s4_, s5_, s6_, s7_, s8_, s9_, s10_⟩ := hrel.1 j_ (by omega)
    have s5_ := s5_ (by omega)
    refine MW_of (by decide) [some (.ref 73), some (.int (nI j_)), none] rfl (Nat.le_of_ble_eq_true rfl) ?_
    refine wa_aload_n dX6_drop_0 rfl ?_
    refine wa_iload_n dX6_drop_1 rfl ?_
    refine wa_callV1 (k' := kX6_noSheet) (d' := 1) dX6_drop_2 lmX6_66 kvX6_noSheet (by first | assumption | rfl) (by rfl) (by decide) (by omega) (Nat.le_of_ble_eq_true rfl) ?_
    refine noSh_N (by omega) hj_ (s5_.trans h_) ?_
    refine wa_istore_n dX6_drop_5 (by decide) ?_
    refine wa_iload_n dX6_drop_6 rfl ?_
    refine wa_if_geF 12 dX6_drop_7 (by decide) (by decide) ?_
    refine wa_iload_n dX6_drop_10 rfl ?_
    refine wa_iret dX6_drop_11 rfl ?_
    exact ⟨rfl, hrel.up⟩
  · skip
    refine wa_istore_n dX5_drop_5 (by decide) ?_
    refine wa_iload_n dX5_drop_6 rfl ?_
    refine wa_if_eqT 12 dX5_drop_7 (by decide) (by decide) ?_
    refine wa_aload_n dX5_drop_12 rfl ?_
    refine wa_getR dX5_drop_13 fgX5_11 (by first | assumption | rfl) (by rfl) ?_
    refine wa_iload_n dX5_drop_16 rfl ?_
    refine wa_aalS _ dX5_drop_17 (by first | assumption | rfl) (by exact hk_) (by omega) ?_
    rw [show arf 1 j_ = 7 + 4 * j_ from rfl]; have hS_ := isS_k (show j_ < 9 by omega); have hsh_ := (isS_sh hS_).1
    refine wa_callV0 (k' := kX3_end) (d' := 0) dX5_drop_18 lmX5_56 kvX3_end (by first | assumption | rfl) (by rfl) (by decide) (by omega) (Nat.le_of_ble_eq_true rfl) ?_
    refine wp_X3_end (by assumption) ?_
    refine wa_iret dX5_drop_21 rfl ?_
    rw [hk_]
    obtain ⟨n_, s1_, s2_, s3_, s4_, s5_, s6_, s7_, s8_, s9_, s10_⟩ := hrel.1 j_ (by omega)
    have s5_ := s5_ (by omega)
    refine MW_of (by decide) [some (.ref 73), some (.int (nI j_)), none] rfl (Nat.le_of_ble_eq_true rfl) ?_
    refine wa_aload_n dX6_drop_0 rfl ?_
    refine wa_iload_n dX6_drop_1 rfl ?_
    refine wa_callV1 (k' := kX6_noSheet) (d' := 1) dX6_drop_2 lmX6_66 kvX6_noSheet (by first | assumption | rfl) (by rfl) (by decide) (by omega) (Nat.le_of_ble_eq_true rfl) ?_
    refine noSh_F (by omega) hj_ (by rw [sI_off (by omega)]; exact s5_.trans h_) ?_
    refine wa_istore_n dX6_drop_5 (by decide) ?_
    refine wa_iload_n dX6_drop_6 rfl ?_
    refine wa_if_geT 12 dX6_drop_7 (by decide) (by decide) ?_
    refine wa_aload_n dX6_drop_12 rfl ?_
    refine wa_getR dX6_drop_13 fgX6_7 (by first | assumption | rfl) (by rfl) ?_
    refine wa_iload_n dX6_drop_16 rfl ?_
    refine wa_iconst (nI 0) dX6_drop_17 (by decide) ?_
    refine wa_zast _ dX6_drop_18 (by first | assumption | rfl) (by first | with_reducible rfl | with_reducible assumption | with_reducible exact ix_ma _ _ _ | with_reducible exact ix_maa _ _ _ _ | with_reducible exact ix_a _ _ | with_reducible exact ix_mama _ _ _ _ _) (by omega) (Or.inl rfl) ?_
    refine wa_aload_n dX6_drop_19 rfl ?_
    refine wa_getR dX6_drop_20 fgX6_17 (by first | assumption | rfl) (by rfl) ?_
    refine wa_iload_n dX6_drop_23 rfl ?_
    refine wa_iald _ dX6_drop_24 (by first | assumption | rfl) (by first | with_reducible rfl | with_reducible assumption | with_reducible exact ix_ma _ _ _ | with_reducible exact ix_maa _ _ _ _ | with_reducible exact ix_a _ _ | with_reducible exact ix_mama _ _ _ _ _) (by omega) ?_
    refine wa_iret dX6_drop_25 rfl ?_
    refine ⟨?_, ?_⟩
    · rw [s3_, sI_off (by omega), sI_off (by omega), s7_]
    · skip
      refine Rel_S (k := j_) (n := n_) hrel ?rels ?fs ?fr ?fp ?fw ?fm
      case fs =>
        intro j_ hj_ hjk_
        refine ⟨?_, ?_, ?_, ?_, ?_, ?_, fun i_ hi_ => ?_, fun i_ hi_ => ?_⟩
        all_goals
          simp (disch := omega) only [sI_off, bI_off, sL_off, bL_off, r1l, r2l, rb1l, rb2l, r1m, r2m, rb1e, rb2e,r1e]
      case fr =>
        intro r_ hr_
        refine ⟨?_, ?_, ?_, fun i_ hi_ => ?_⟩
        all_goals
          simp (disch := omega) only [sI_off, bI_off, sL_off, bL_off, r1l, r2l, rb1l, rb2l, r1m, r2m, rb1e, rb2e,r1e]
      case fp =>
        refine ⟨?_, ?_, ?_, ?_, ?_⟩
        all_goals
          simp (disch := omega) only [sI_off, bI_off, sL_off, bL_off, r1l, r2l, rb1l, rb2l, r1m, r2m, rb1e, rb2e,r1e]
      case fw =>
        refine ⟨?_, fun q_ ha_ hb_ => ?_⟩
        all_goals
          simp (disch := omega) only [sI_off, bI_off, sL_off, bL_off, r1l, r2l, rb1l, rb2l, r1m, r2m, rb1e, rb2e,r1e]
      case fm =>
        refine ⟨?_, ?_, fun q_ ha_ hb_ => ?_⟩
        all_goals
          simp (disch := omega) only [sI_off, bI_off, sL_off, bL_off, r1l, r2l, rb1l, rb2l, r1m, r2m, rb1e, rb2e,r1e]
      case rels =>
        unfold RelS
        simp (disch := omega) only [sI_off, r1e, r1m]
        exact ⟨Or.inl trivial, s2_, s3_, s4_, fun _ => trivial, s6_, s7_, s8_, s9_, s10_⟩
