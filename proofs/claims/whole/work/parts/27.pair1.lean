/-! PAIRS: sheets, one place at a time -/
theorem in_1 {d : Nat} {v lo hi : Int64} {μ : Mem} {Q : QM} (h : lo.toInt ≤ v.toInt ∧ v.toInt ≤ hi.toInt) (hQ : Q (some (.int (nI 1))) μ) : MW kX6_in d [.long v, .long lo, .long hi] μ Q :=
  wp_X6_in (fun _ => hQ) (fun q => absurd q (by omega))
theorem in_0 {d : Nat} {v lo hi : Int64} {μ : Mem} {Q : QM} (h : v.toInt < lo.toInt ∨ hi.toInt < v.toInt) (hQ : Q (some (.int (nI 0))) μ) : MW kX6_in d [.long v, .long lo, .long hi] μ Q :=
  wp_X6_in (fun q => absurd q (by omega)) (fun _ => hQ)
theorem noSh_B {d : Nat} {k : Int32} {μ : Mem} {Q : QM} (hd : 1 ≤ d) (h : oob k 8) (hQ : Q (some (.int (-2))) μ) : MW kX6_noSheet d [.ref 73, .int k] μ Q := by
  unfold oob at h
  exact wp_X6_noSheet hd (fun _ => hQ) (fun j hj hk _ => absurd h (by rw [hk, nI_toInt (by omega)]; omega)) (fun j hj hk _ => absurd h (by rw [hk, nI_toInt (by omega)]; omega))
theorem nI_eq3 {a b : Nat} (h : nI a = nI b) (ha : a < 2 ^ 31) (hb : b < 2 ^ 31) : a = b := by
  have := congrArg Int32.toInt h
  rw [nI_toInt ha, nI_toInt hb] at this
  omega
theorem noSh_N {d j : Nat} {μ : Mem} {Q : QM} (hd : 1 ≤ d) (hj : j < 8) (h : μ.1 74 j = nI 0) (hQ : Q (some (.int (-10))) μ) : MW kX6_noSheet d [.ref 73, .int (nI j)] μ Q := by
  refine wp_X6_noSheet hd (fun q => absurd q (by unfold oob; rw [nI_toInt (by omega)]; omega)) (fun _ _ _ _ => hQ) (fun i hi hk q => ?_)
  obtain rfl : j = i := nI_eq3 hk (by omega) (by omega)
  rw [h] at q
  exact absurd (by decide) q
theorem noSh_F {d j : Nat} {μ : Mem} {Q : QM} (hd : 1 ≤ d) (hj : j < 8) (h : μ.1 74 j = nI 1) (hQ : Q (some (.int (nI 0))) μ) : MW kX6_noSheet d [.ref 73, .int (nI j)] μ Q := by
  refine wp_X6_noSheet hd (fun q => absurd q (by unfold oob; rw [nI_toInt (by omega)]; omega)) (fun i hi hk q => ?_) (fun _ _ _ _ => hQ)
  obtain rfl : j = i := nI_eq3 hk (by omega) (by omega)
  rw [h] at q
  exact absurd q (by decide)
theorem isRo_1 {d r : Nat} {μ : Mem} {Q : QM} (hd : 1 ≤ d) (hr : r < 6) (hQ : Q (some (.int (nI 1))) μ) : MW kX6_isRow d [.int (nI r)] μ Q :=
  wp_X6_isRow hd (fun _ _ _ => hQ) (fun q => absurd q (by unfold oob; rw [nI_toInt (by omega)]; omega))
theorem isRo_0 {d : Nat} {k : Int32} {μ : Mem} {Q : QM} (hd : 1 ≤ d) (h : oob k 6) (hQ : Q (some (.int (nI 0))) μ) : MW kX6_isRow d [.int k] μ Q := by
  unfold oob at h
  exact wp_X6_isRow hd (fun r hr hk => absurd h (by rw [hk, nI_toInt (by omega)]; omega)) (fun _ => hQ)
theorem pr_drop (k : Int32) : PR kX5_drop kX6_drop [.int k] := by
  intro N μ d c hd hc hN hrel
  have hth := hrel.th
  refine MW_of (by decide) [some (.ref 0), some (.int k), none] rfl (Nat.le_of_ble_eq_true rfl) ?_
  refine wa_aload_n dX5_drop_0 rfl ?_
  refine wa_iload_n dX5_drop_1 rfl ?_
  refine wa_callV1 (k' := kX5_sheetFailure) (d' := 1) dX5_drop_2 lmX5_52 kvX5_sheetFailure (by first | assumption | rfl) (by rfl) (by decide) (by omega) (Nat.le_of_ble_eq_true rfl) ?_
  refine wp_X5_sheetFailure (by omega) hth (fun hoob => ?_) (fun j_ hj_ hk_ h_ => ?_) (fun j_ hj_ hk_ h_ => ?_)
  · skip
    refine wa_istore_n dX5_drop_5 (by decide) ?_
    refine wa_iload_n dX5_drop_6 rfl ?_
    refine wa_if_eqF 12 dX5_drop_7 (by decide) (by decide) ?_
    refine wa_iload_n dX5_drop_10 rfl ?_
    refine wa_iret dX5_drop_11 rfl ?_
    skip
    refine MW_of (by decide) [some (.ref 73), some (.int k), none] rfl (Nat.le_of_ble_eq_true rfl) ?_
    refine wa_aload_n dX6_drop_0 rfl ?_
    refine wa_iload_n dX6_drop_1 rfl ?_
    refine wa_callV1 (k' := kX6_noSheet) (d' := 1) dX6_drop_2 lmX6_66 kvX6_noSheet (by first | assumption | rfl) (by rfl) (by decide) (by omega) (Nat.le_of_ble_eq_true rfl) ?_
    refine noSh_B (by omega) hoob ?_
    refine wa_istore_n dX6_drop_5 (by decide) ?_
    refine wa_iload_n dX6_drop_6 rfl ?_
    refine wa_if_geF 12 dX6_drop_7 (by decide) (by decide) ?_
    refine wa_iload_n dX6_drop_10 rfl ?_
    refine wa_iret dX6_drop_11 rfl ?_
    exact ⟨rfl, hrel.up⟩
  · skip
    refine wa_istore_n dX5_drop_5 (by decide) ?_
    refine wa_iload_n dX5_drop_6 rfl ?_
    refine wa_if_eqF 12 dX5_drop_7 (by decide) (by decide) ?_
    refine wa_iload_n dX5_drop_10 rfl ?_
    refine wa_iret dX5_drop_11 rfl ?_
    rw [hk_]
    obtain ⟨n_, s1_, s2_, s3_, s4_, s5_, s6_, s7_, s8_, s9_, s10_⟩ := hrel.1 j_ (by omega)
    have s5_ := s5_ (by omega)
    refine MW_of (by decide) [some (.ref 73), some (.int (nI j_)), none] rfl (Nat.le_of_ble_eq_true rfl) ?_
    refine wa_aload_n dX6_drop_0 rfl ?_
    refine wa_iload_n dX6_drop_1 rfl ?_
    refine wa_callV1 (k' := kX6_noSheet) (d' := 1) dX6_drop_2 lmX6_66 kvX6_noSheet (by first | assumption | rfl) (by rfl) (by decide) (by omega) (Nat.le_of_ble_eq_true rfl) ?_
    refine noSh_N (by omega) hj_ (s5_.trans h_) ?_
    refine wa_istore_n dX6_drop_5 (by decide) ?_
    refine wa_iload_n dX6_drop_6 rfl ?_
    refine wa_if_geF 12 dX6_drop_7 (by decide) (by decide) ?_
    refine wa_iload_n dX6_drop_10 rfl ?_
    refine wa_iret dX6_drop_11 rfl ?_
    exact ⟨rfl, hrel.up⟩
  · skip
    refine wa_istore_n dX5_drop_5 (by decide) ?_
    refine wa_iload_n dX5_drop_6 rfl ?_
    refine wa_if_eqT 12 dX5_drop_7 (by decide) (by decide) ?_
    refine wa_aload_n dX5_drop_12 rfl ?_
    refine wa_getR dX5_drop_13 fgX5_11 (by first | assumption | rfl) (by rfl) ?_
    refine wa_iload_n dX5_drop_16 rfl ?_
    refine wa_aalS _ dX5_drop_17 (by first | assumption | rfl) (by exact hk_) (by omega) ?_
    rw [show arf 1 j_ = 7 + 4 * j_ from rfl]; have hS_ := isS_k (show j_ < 9 by omega); have hsh_ := (isS_sh hS_).1
    refine wa_callV0 (k' := kX3_end) (d' := 0) dX5_drop_18 lmX5_56 kvX3_end (by first | assumption | rfl) (by rfl) (by decide) (by omega) (Nat.le_of_ble_eq_true rfl) ?_
    refine wp_X3_end (by assumption) ?_
    refine wa_iret dX5_drop_21 rfl ?_
    rw [hk_]
    obtain ⟨n_, s1_, s2_, s3_, s4_, s5_, s6_, s7_, s8_, s9_, s10_⟩ := hrel.1 j_ (by omega)
    have s5_ := s5_ (by omega)
    refine MW_of (by decide) [some (.ref 73), some (.int (nI j_)), none] rfl (Nat.le_of_ble_eq_true rfl) ?_
    refine wa_aload_n dX6_drop_0 rfl ?_
    refine wa_iload_n dX6_drop_1 rfl ?_
    refine wa_callV1 (k' := kX6_noSheet) (d' := 1) dX6_drop_2 lmX6_66 kvX6_noSheet (by first | assumption | rfl) (by rfl) (by decide) (by omega) (Nat.le_of_ble_eq_true rfl) ?_
    refine noSh_F (by omega) hj_ (by rw [sI_off (by omega)]; exact s5_.trans h_) ?_
    refine wa_istore_n dX6_drop_5 (by decide) ?_
    refine wa_iload_n dX6_drop_6 rfl ?_
    refine wa_if_geT 12 dX6_drop_7 (by decide) (by decide) ?_
    refine wa_aload_n dX6_drop_12 rfl ?_
    refine wa_getR dX6_drop_13 fgX6_7 (by first | assumption | rfl) (by rfl) ?_
    refine wa_iload_n dX6_drop_16 rfl ?_
    refine wa_iconst (nI 0) dX6_drop_17 (by decide) ?_
    refine wa_zast _ dX6_drop_18 (by first | assumption | rfl) (by first | with_reducible rfl | with_reducible assumption | with_reducible exact ix_ma _ _ _ | with_reducible exact ix_maa _ _ _ _ | with_reducible exact ix_a _ _ | with_reducible exact ix_mama _ _ _ _ _) (by omega) (Or.inl rfl) ?_
    refine wa_aload_n dX6_drop_19 rfl ?_
    refine wa_getR dX6_drop_20 fgX6_17 (by first | assumption | rfl) (by rfl) ?_
    refine wa_iload_n dX6_drop_23 rfl ?_
    refine wa_iald _ dX6_drop_24 (by first | assumption | rfl) (by first | with_reducible rfl | with_reducible assumption | with_reducible exact ix_ma _ _ _ | with_reducible exact ix_maa _ _ _ _ | with_reducible exact ix_a _ _ | with_reducible exact ix_mama _ _ _ _ _) (by omega) ?_
    refine wa_iret dX6_drop_25 rfl ?_
    refine ⟨?_, ?_⟩
    · rw [s3_, sI_off (by omega), sI_off (by omega), s7_]
    · skip
      refine Rel_S (k := j_) (n := n_) hrel ?rels ?fs ?fr ?fp ?fw ?fm
      case fs =>
        intro j_ hj_ hjk_
        refine ⟨?_, ?_, ?_, ?_, ?_, ?_, fun i_ hi_ => ?_, fun i_ hi_ => ?_⟩
        all_goals
          simp (disch := omega) only [sI_off, bI_off, sL_off, bL_off, r1l, r2l, rb1l, rb2l, r1m, r2m, rb1e, rb2e,r1e]
      case fr =>
        intro r_ hr_
        refine ⟨?_, ?_, ?_, fun i_ hi_ => ?_⟩
        all_goals
          simp (disch := omega) only [sI_off, bI_off, sL_off, bL_off, r1l, r2l, rb1l, rb2l, r1m, r2m, rb1e, rb2e,r1e]
      case fp =>
        refine ⟨?_, ?_, ?_, ?_, ?_⟩
        all_goals
          simp (disch := omega) only [sI_off, bI_off, sL_off, bL_off, r1l, r2l, rb1l, rb2l, r1m, r2m, rb1e, rb2e,r1e]
      case fw =>
        refine ⟨?_, fun q_ ha_ hb_ => ?_⟩
        all_goals
          simp (disch := omega) only [sI_off, bI_off, sL_off, bL_off, r1l, r2l, rb1l, rb2l, r1m, r2m, rb1e, rb2e,r1e]
      case fm =>
        refine ⟨?_, ?_, fun q_ ha_ hb_ => ?_⟩
        all_goals
          simp (disch := omega) only [sI_off, bI_off, sL_off, bL_off, r1l, r2l, rb1l, rb2l, r1m, r2m, rb1e, rb2e,r1e]
      case rels =>
        unfold RelS
        simp (disch := omega) only [sI_off, r1e, r1m]
        exact ⟨Or.inl trivial, s2_, s3_, s4_, fun _ => trivial, s6_, s7_, s8_, s9_, s10_⟩
def szF (μ : Mem) (j : Nat) : Nat := (μ.1 (7 + 4 * j) 2).toInt.toNat
theorem Rel.sz {N : Nat} {μ : Mem} (h : Rel N μ) : ∀ j, j < 8 → μ.1 (7 + 4 * j) 2 = nI (szF μ j) ∧ szF μ j ≤ 64 := by
  intro j hj
  obtain ⟨n, h1, h2, h3, h4, _⟩ := h.1 j (by omega)
  have e : szF μ j = n := by
    rw [szF, h3, nI_toInt (by omega)]
    omega
  rw [e]
  exact ⟨h3, h4⟩
theorem pm1 : ∀ n, n ≤ 64 → (nI n - nI 1).toInt = (n : Int) - 1 := by decide
theorem z_m5 : (-5000000000000000000 : Int64) + (-2 : Int32).toInt64 = -5000000000000000000 + (-2 : Int32).toInt64 := rfl
theorem pr_stands (k i : Int32) : PR kX5_stands kX6_stands [.int k, .int i] := by
  intro N μ d c hd hc hN hrel
  have hth := hrel.th
  refine MW_of (by decide) [some (.ref 0), some (.int k), some (.int i), none] rfl (Nat.le_of_ble_eq_true rfl) ?_
  refine wa_aload_n dX5_stands_0 rfl ?_
  refine wa_iload_n dX5_stands_1 rfl ?_
  refine wa_iload_n dX5_stands_2 rfl ?_
  refine wa_callV2 (k' := kX5_sampleFailure) (d' := 2) dX5_stands_3 lmX5_60 kvX5_sampleFailure (by first | assumption | rfl) (by rfl) (by decide) (by omega) (Nat.le_of_ble_eq_true rfl) ?_
  refine wp_X5_sampleFailure (by omega) hth hrel.sz (fun hoob => ?_) (fun j_ hj_ hk_ h_ => ?_) (fun j_ hj_ hk_ h_ hi_ => ?_) (fun j_ hj_ hk_ h_ a_ ha_ hi_ => ?_)
  · skip
    refine wa_istore_n dX5_stands_6 (by decide) ?_
    refine wa_iload_n dX5_stands_7 rfl ?_
    refine wa_if_eqF 13 dX5_stands_8 (by decide) (by decide) ?_
    refine wa_iload_n dX5_stands_11 rfl ?_
    refine wa_iret dX5_stands_12 rfl ?_
    skip
    refine MW_of (by decide) [some (.ref 73), some (.int k), some (.int i), none] rfl (Nat.le_of_ble_eq_true rfl) ?_
    refine wa_aload_n dX6_stands_0 rfl ?_
    refine wa_iload_n dX6_stands_1 rfl ?_
    refine wa_callV1 (k' := kX6_noSheet) (d' := 1) dX6_stands_2 lmX6_66 kvX6_noSheet (by first | assumption | rfl) (by rfl) (by decide) (by omega) (Nat.le_of_ble_eq_true rfl) ?_
    refine noSh_B (by omega) hoob ?_
    refine wa_istore_n dX6_stands_5 (by decide) ?_
    refine wa_iload_n dX6_stands_6 rfl ?_
    refine wa_if_geF 12 dX6_stands_7 (by decide) (by decide) ?_
    refine wa_iload_n dX6_stands_10 rfl ?_
    refine wa_iret dX6_stands_11 rfl ?_
    exact ⟨rfl, hrel.up⟩
  · skip
    refine wa_istore_n dX5_stands_6 (by decide) ?_
    refine wa_iload_n dX5_stands_7 rfl ?_
    refine wa_if_eqF 13 dX5_stands_8 (by decide) (by decide) ?_
    refine wa_iload_n dX5_stands_11 rfl ?_
    refine wa_iret dX5_stands_12 rfl ?_
    rw [hk_]
    obtain ⟨n_, s1_, s2_, s3_, s4_, s5_, s6_, s7_, s8_, s9_, s10_⟩ := hrel.1 j_ (by omega)
    have s5_ := s5_ (by omega)
    obtain rfl : n_ = szF μ j_ := by rw [szF, s3_, nI_toInt (by omega)]; omega
    refine MW_of (by decide) [some (.ref 73), some (.int (nI j_)), some (.int i), none] rfl (Nat.le_of_ble_eq_true rfl) ?_
    refine wa_aload_n dX6_stands_0 rfl ?_
    refine wa_iload_n dX6_stands_1 rfl ?_
    refine wa_callV1 (k' := kX6_noSheet) (d' := 1) dX6_stands_2 lmX6_66 kvX6_noSheet (by first | assumption | rfl) (by rfl) (by decide) (by omega) (Nat.le_of_ble_eq_true rfl) ?_
    refine noSh_N (by omega) hj_ (s5_.trans h_) ?_
    refine wa_istore_n dX6_stands_5 (by decide) ?_
    refine wa_iload_n dX6_stands_6 rfl ?_
    refine wa_if_geF 12 dX6_stands_7 (by decide) (by decide) ?_
    refine wa_iload_n dX6_stands_10 rfl ?_
    refine wa_iret dX6_stands_11 rfl ?_
    exact ⟨rfl, hrel.up⟩
  · skip
    refine wa_istore_n dX5_stands_6 (by decide) ?_
    refine wa_iload_n dX5_stands_7 rfl ?_
    refine wa_if_eqF 13 dX5_stands_8 (by decide) (by decide) ?_
    refine wa_iload_n dX5_stands_11 rfl ?_
    refine wa_iret dX5_stands_12 rfl ?_
    rw [hk_]
    obtain ⟨n_, s1_, s2_, s3_, s4_, s5_, s6_, s7_, s8_, s9_, s10_⟩ := hrel.1 j_ (by omega)
    have s5_ := s5_ (by omega)
    obtain rfl : n_ = szF μ j_ := by rw [szF, s3_, nI_toInt (by omega)]; omega
    refine MW_of (by decide) [some (.ref 73), some (.int (nI j_)), some (.int i), none] rfl (Nat.le_of_ble_eq_true rfl) ?_
    refine wa_aload_n dX6_stands_0 rfl ?_
    refine wa_iload_n dX6_stands_1 rfl ?_
    refine wa_callV1 (k' := kX6_noSheet) (d' := 1) dX6_stands_2 lmX6_66 kvX6_noSheet (by first | assumption | rfl) (by rfl) (by decide) (by omega) (Nat.le_of_ble_eq_true rfl) ?_
    refine noSh_F (by omega) hj_ (s5_.trans h_) ?_
    refine wa_istore_n dX6_stands_5 (by decide) ?_
    refine wa_iload_n dX6_stands_6 rfl ?_
    refine wa_if_geT 12 dX6_stands_7 (by decide) (by decide) ?_
    refine wa_iload_n dX6_stands_12 rfl ?_
    refine wa_i2l dX6_stands_13 ?_
    refine wa_lconst (0) dX6_stands_14 (by decide) ?_
    refine wa_aload_n dX6_stands_15 rfl ?_
    refine wa_getR dX6_stands_16 fgX6_17 (by first | assumption | rfl) (by rfl) ?_
    refine wa_iload_n dX6_stands_19 rfl ?_
    refine wa_iald _ dX6_stands_20 (by first | assumption | rfl) (by first | with_reducible rfl | with_reducible assumption | with_reducible exact ix_ma _ _ _ | with_reducible exact ix_maa _ _ _ _ | with_reducible exact ix_a _ _ | with_reducible exact ix_mama _ _ _ _ _) (by omega) ?_
    refine wa_iconst (nI 1) dX6_stands_21 (by decide) ?_
    refine wa_isub dX6_stands_22 ?_
    refine wa_i2l dX6_stands_23 ?_
    refine wa_callS3 (k' := kX6_in) (d' := 0) dX6_stands_24 lmX6_60 ksX6_in (by decide) (by omega) (Nat.le_of_ble_eq_true rfl) ?_
    refine in_0 (by simp (disch := omega) only [s7_, Int32.toInt_toInt64, pm1, nI_toInt, z64]; omega) ?_
    refine wa_if_eqT 44 dX6_stands_27 (by decide) (by decide) ?_
    refine wa_bipush (-13) dX6_stands_44 (by decide) ?_
    refine wa_iret dX6_stands_46 rfl ?_
    exact ⟨rfl, hrel.up⟩
  · skip
    have han_ := (hrel.sz j_ hj_).2
    refine wa_istore_n dX5_stands_6 (by decide) ?_
    refine wa_iload_n dX5_stands_7 rfl ?_
    refine wa_if_eqT 13 dX5_stands_8 (by decide) (by decide) ?_
    refine wa_aload_n dX5_stands_13 rfl ?_
    refine wa_getR dX5_stands_14 fgX5_11 (by first | assumption | rfl) (by rfl) ?_
    refine wa_iload_n dX5_stands_17 rfl ?_
    refine wa_aalS _ dX5_stands_18 (by first | assumption | rfl) (by exact hk_) (by omega) ?_
    rw [show arf 1 j_ = 7 + 4 * j_ from rfl]; have hS_ := isS_k (show j_ < 9 by omega); have hsh_ := (isS_sh hS_).1
    refine wa_iload_n dX5_stands_19 rfl ?_
    refine wa_callV1 (k' := kX3_stateAt) (d' := 0) dX5_stands_20 lmX5_84 kvX3_stateAt (by first | assumption | rfl) (by rfl) (by decide) (by omega) (Nat.le_of_ble_eq_true rfl) ?_
    refine wp_X3_stateAt (by assumption) (by first | with_reducible rfl | assumption) (by omega) ?_
    refine wa_iret dX5_stands_23 rfl ?_
    rw [hk_, hi_]
    obtain ⟨n_, s1_, s2_, s3_, s4_, s5_, s6_, s7_, s8_, s9_, s10_⟩ := hrel.1 j_ (by omega)
    have s5_ := s5_ (by omega)
    obtain rfl : n_ = szF μ j_ := by rw [szF, s3_, nI_toInt (by omega)]; omega
    refine MW_of (by decide) [some (.ref 73), some (.int (nI j_)), some (.int (nI a_)), none] rfl (Nat.le_of_ble_eq_true rfl) ?_
    refine wa_aload_n dX6_stands_0 rfl ?_
    refine wa_iload_n dX6_stands_1 rfl ?_
    refine wa_callV1 (k' := kX6_noSheet) (d' := 1) dX6_stands_2 lmX6_66 kvX6_noSheet (by first | assumption | rfl) (by rfl) (by decide) (by omega) (Nat.le_of_ble_eq_true rfl) ?_
    refine noSh_F (by omega) hj_ (s5_.trans h_) ?_
    refine wa_istore_n dX6_stands_5 (by decide) ?_
    refine wa_iload_n dX6_stands_6 rfl ?_
    refine wa_if_geT 12 dX6_stands_7 (by decide) (by decide) ?_
    refine wa_iload_n dX6_stands_12 rfl ?_
    refine wa_i2l dX6_stands_13 ?_
    refine wa_lconst (0) dX6_stands_14 (by decide) ?_
    refine wa_aload_n dX6_stands_15 rfl ?_
    refine wa_getR dX6_stands_16 fgX6_17 (by first | assumption | rfl) (by rfl) ?_
    refine wa_iload_n dX6_stands_19 rfl ?_
    refine wa_iald _ dX6_stands_20 (by first | assumption | rfl) (by first | with_reducible rfl | with_reducible assumption | with_reducible exact ix_ma _ _ _ | with_reducible exact ix_maa _ _ _ _ | with_reducible exact ix_a _ _ | with_reducible exact ix_mama _ _ _ _ _) (by omega) ?_
    refine wa_iconst (nI 1) dX6_stands_21 (by decide) ?_
    refine wa_isub dX6_stands_22 ?_
    refine wa_i2l dX6_stands_23 ?_
    refine wa_callS3 (k' := kX6_in) (d' := 0) dX6_stands_24 lmX6_60 ksX6_in (by decide) (by omega) (Nat.le_of_ble_eq_true rfl) ?_
    refine in_1 (by simp (disch := omega) only [s7_, Int32.toInt_toInt64, pm1, nI_toInt, z64]; omega) ?_
    refine wa_if_eqF 44 dX6_stands_27 (by decide) (by decide) ?_
    refine wa_aload_n dX6_stands_30 rfl ?_
    refine wa_getR dX6_stands_31 fgX6_20 (by first | assumption | rfl) (by rfl) ?_
    refine wa_bipush (nI 64) dX6_stands_34 (by decide) ?_
    refine wa_iload_n dX6_stands_36 rfl ?_
    refine wa_imul dX6_stands_37 ?_
    refine wa_iload_n dX6_stands_38 rfl ?_
    refine wa_iadd dX6_stands_39 ?_
    refine wa_iald _ dX6_stands_40 (by first | assumption | rfl) (by first | with_reducible rfl | with_reducible assumption | with_reducible exact ix_ma _ _ _ | with_reducible exact ix_maa _ _ _ _ | with_reducible exact ix_a _ _ | with_reducible exact ix_mama _ _ _ _ _) (by omega) ?_
    refine wa_goto 46 dX6_stands_41 (by decide) ?_
    refine wa_iret dX6_stands_46 rfl ?_
    exact ⟨by rw [s9_ a_ ha_], hrel.up⟩
theorem st3_0 {x : Int32} (h : x.toInt = 0) : x = nI 0 := Int32.toInt_inj.mp (by rw [h]; decide)
theorem pr_get (k i : Int32) : PR kX5_get kX6_get [.int k, .int i] := by
  intro N μ d c hd hc hN hrel
  have hth := hrel.th
  refine MW_of (by decide) [some (.ref 0), some (.int k), some (.int i), none] rfl (Nat.le_of_ble_eq_true rfl) ?_
  refine wa_aload_n dX5_get_0 rfl ?_
  refine wa_iload_n dX5_get_1 rfl ?_
  refine wa_iload_n dX5_get_2 rfl ?_
  refine wa_callV2 (k' := kX5_sampleFailure) (d' := 2) dX5_get_3 lmX5_60 kvX5_sampleFailure (by first | assumption | rfl) (by rfl) (by decide) (by omega) (Nat.le_of_ble_eq_true rfl) ?_
  refine wp_X5_sampleFailure (by omega) hth hrel.sz (fun hoob => ?_) (fun j_ hj_ hk_ h_ => ?_) (fun j_ hj_ hk_ h_ hi_ => ?_) (fun j_ hj_ hk_ h_ a_ ha_ hi_ => ?_)
  · skip
    refine wa_istore_n dX5_get_6 (by decide) ?_
    refine wa_iload_n dX5_get_7 rfl ?_
    refine wa_if_eqF 18 dX5_get_8 (by decide) (by decide) ?_
    refine wa_ldc2 (-5000000000000000000) dX5_get_11 lcX5_70 ?_
    refine wa_iload_n dX5_get_14 rfl ?_
    refine wa_i2l dX5_get_15 ?_
    refine wa_ladd dX5_get_16 ?_
    refine wa_lret dX5_get_17 rfl ?_
    skip
    refine MW_of (by decide) [some (.ref 73), some (.int k), some (.int i),none] rfl (Nat.le_of_ble_eq_true rfl) ?_
    refine wa_aload_n dX6_get_0 rfl ?_
    refine wa_iload_n dX6_get_1 rfl ?_
    refine wa_callV1 (k' := kX6_noSheet) (d' := 1) dX6_get_2 lmX6_66 kvX6_noSheet (by first | assumption | rfl) (by rfl) (by decide) (by omega) (Nat.le_of_ble_eq_true rfl) ?_
    refine noSh_B (by omega) hoob ?_
    refine wa_istore_n dX6_get_5 (by decide) ?_
    refine wa_iload_n dX6_get_6 rfl ?_
    refine wa_if_geF 17 dX6_get_7 (by decide) (by decide) ?_
    refine wa_ldc2 (-5000000000000000000) dX6_get_10 lcX6_82 ?_
    refine wa_iload_n dX6_get_13 rfl ?_
    refine wa_i2l dX6_get_14 ?_
    refine wa_ladd dX6_get_15 ?_
    refine wa_lret dX6_get_16 rfl ?_
    exact ⟨by first | rfl | decide, hrel.up⟩
  · skip
    refine wa_istore_n dX5_get_6 (by decide) ?_
    refine wa_iload_n dX5_get_7 rfl ?_
    refine wa_if_eqF 18 dX5_get_8 (by decide) (by decide) ?_
    refine wa_ldc2 (-5000000000000000000) dX5_get_11 lcX5_70 ?_
    refine wa_iload_n dX5_get_14 rfl ?_
    refine wa_i2l dX5_get_15 ?_
    refine wa_ladd dX5_get_16 ?_
    refine wa_lret dX5_get_17 rfl ?_
    rw [hk_]
    obtain ⟨n_, s1_, s2_, s3_, s4_, s5_, s6_, s7_, s8_, s9_, s10_⟩ := hrel.1 j_ (by omega)
    have s5_ := s5_ (by omega)
    obtain rfl : n_ = szF μ j_ := by rw [szF, s3_, nI_toInt (by omega)]; omega
    refine MW_of (by decide) [some (.ref 73), some (.int (nI j_)), some (.int i),none] rfl (Nat.le_of_ble_eq_true rfl) ?_
    refine wa_aload_n dX6_get_0 rfl ?_
    refine wa_iload_n dX6_get_1 rfl ?_
    refine wa_callV1 (k' := kX6_noSheet) (d' := 1) dX6_get_2 lmX6_66 kvX6_noSheet (by first | assumption | rfl) (by rfl) (by decide) (by omega) (Nat.le_of_ble_eq_true rfl) ?_
    refine noSh_N (by omega) hj_ (s5_.trans h_) ?_
    refine wa_istore_n dX6_get_5 (by decide) ?_
    refine wa_iload_n dX6_get_6 rfl ?_
    refine wa_if_geF 17 dX6_get_7 (by decide) (by decide) ?_
    refine wa_ldc2 (-5000000000000000000) dX6_get_10 lcX6_82 ?_
    refine wa_iload_n dX6_get_13 rfl ?_
    refine wa_i2l dX6_get_14 ?_
    refine wa_ladd dX6_get_15 ?_
    refine wa_lret dX6_get_16 rfl ?_
    exact ⟨by first | rfl | decide, hrel.up⟩
  · skip
    refine wa_istore_n dX5_get_6 (by decide) ?_
    refine wa_iload_n dX5_get_7 rfl ?_
    refine wa_if_eqF 18 dX5_get_8 (by decide) (by decide) ?_
    refine wa_ldc2 (-5000000000000000000) dX5_get_11 lcX5_70 ?_
    refine wa_iload_n dX5_get_14 rfl ?_
    refine wa_i2l dX5_get_15 ?_
    refine wa_ladd dX5_get_16 ?_
    refine wa_lret dX5_get_17 rfl ?_
    rw [hk_]
    obtain ⟨n_, s1_, s2_, s3_, s4_, s5_, s6_, s7_, s8_, s9_, s10_⟩ := hrel.1 j_ (by omega)
    have s5_ := s5_ (by omega)
    obtain rfl : n_ = szF μ j_ := by rw [szF, s3_, nI_toInt (by omega)]; omega
    refine MW_of (by decide) [some (.ref 73), some (.int (nI j_)), some (.int i),none] rfl (Nat.le_of_ble_eq_true rfl) ?_
    refine wa_aload_n dX6_get_0 rfl ?_
    refine wa_iload_n dX6_get_1 rfl ?_
    refine wa_callV1 (k' := kX6_noSheet) (d' := 1) dX6_get_2 lmX6_66 kvX6_noSheet (by first | assumption | rfl) (by rfl) (by decide) (by omega) (Nat.le_of_ble_eq_true rfl) ?_
    refine noSh_F (by omega) hj_ (s5_.trans h_) ?_
    refine wa_istore_n dX6_get_5 (by decide) ?_
    refine wa_iload_n dX6_get_6 rfl ?_
    refine wa_if_geT 17 dX6_get_7 (by decide) (by decide) ?_
    refine wa_iload_n dX6_get_17 rfl ?_
    refine wa_i2l dX6_get_18 ?_
    refine wa_lconst (0) dX6_get_19 (by decide) ?_
    refine wa_aload_n dX6_get_20 rfl ?_
    refine wa_getR dX6_get_21 fgX6_17 (by first | assumption | rfl) (by rfl) ?_
    refine wa_iload_n dX6_get_24 rfl ?_
    refine wa_iald _ dX6_get_25 (by first | assumption | rfl) (by first | with_reducible rfl | with_reducible assumption | with_reducible exact ix_ma _ _ _ | with_reducible exact ix_maa _ _ _ _ | with_reducible exact ix_a _ _ | with_reducible exact ix_mama _ _ _ _ _) (by omega) ?_
    refine wa_iconst (nI 1) dX6_get_26 (by decide) ?_
    refine wa_isub dX6_get_27 ?_
    refine wa_i2l dX6_get_28 ?_
    refine wa_callS3 (k' := kX6_in) (d' := 0) dX6_get_29 lmX6_60 ksX6_in (by decide) (by omega) (Nat.le_of_ble_eq_true rfl) ?_
    refine in_0 (by simp (disch := omega) only [s7_, Int32.toInt_toInt64, pm1, nI_toInt, z64]; omega) ?_
    refine wa_if_neF 39 dX6_get_32 (by decide) (by decide) ?_
    refine wa_ldc2 (-5000000000000000013) dX6_get_35 lcX6_84 ?_
    refine wa_lret dX6_get_38 rfl ?_
    exact ⟨by first | rfl | decide, hrel.up⟩
  · skip
    have han_ := (hrel.sz j_ hj_).2
    refine wa_istore_n dX5_get_6 (by decide) ?_
    refine wa_iload_n dX5_get_7 rfl ?_
    refine wa_if_eqT 18 dX5_get_8 (by decide) (by decide) ?_
    refine wa_aload_n dX5_get_18 rfl ?_
    refine wa_getR dX5_get_19 fgX5_11 (by first | assumption | rfl) (by rfl) ?_
    refine wa_iload_n dX5_get_22 rfl ?_
    refine wa_aalS _ dX5_get_23 (by first | assumption | rfl) (by first | with_reducible rfl | with_reducible assumption | with_reducible exact ix_ma _ _ _ | with_reducible exact ix_maa _ _ _ _ | with_reducible exact ix_a _ _ | with_reducible exact ix_mama _ _ _ _ _) (by omega) ?_
    refine wa_iload_n dX5_get_24 rfl ?_
    rw [show arf 1 j_ = 7 + 4 * j_ from rfl]; have hS_ := isS_k (show j_ < 9 by omega); have hsh_ := (isS_sh hS_).1
    refine wa_callV1 (k' := kX3_isLost) (d' := 0) dX5_get_25 lmX5_72 kvX3_isLost (by first | assumption | rfl) (by rfl) (by decide) (by omega) (Nat.le_of_ble_eq_true rfl) ?_
    refine wp_X3_isLost hS_ hi_ (by omega) (fun hl_ => ?_) (fun hl_ => ?_)
    · skip
      refine wa_if_eqF 35 dX5_get_28 (by decide) (by decide) ?_
      refine wa_ldc2 (-5000000000000000015) dX5_get_31 lcX5_75 ?_
      refine wa_lret dX5_get_34 rfl ?_
      rw [hk_, hi_]
      obtain ⟨n_, s1_, s2_, s3_, s4_, s5_, s6_, s7_, s8_, s9_, s10_⟩ := hrel.1 j_ (by omega)
      have s5_ := s5_ (by omega)
      obtain rfl : n_ = szF μ j_ := by rw [szF, s3_, nI_toInt (by omega)]; omega
      refine MW_of (by decide) [some (.ref 73), some (.int (nI j_)), some (.int (nI a_)), none] rfl (Nat.le_of_ble_eq_true rfl) ?_
      refine wa_aload_n dX6_get_0 rfl ?_
      refine wa_iload_n dX6_get_1 rfl ?_
      refine wa_callV1 (k' := kX6_noSheet) (d' := 1) dX6_get_2 lmX6_66 kvX6_noSheet (by first | assumption | rfl) (by rfl) (by decide) (by omega) (Nat.le_of_ble_eq_true rfl) ?_
      refine noSh_F (by omega) hj_ (s5_.trans h_) ?_
      refine wa_istore_n dX6_get_5 (by decide) ?_
      refine wa_iload_n dX6_get_6 rfl ?_
      refine wa_if_geT 17 dX6_get_7 (by decide) (by decide) ?_
      refine wa_iload_n dX6_get_17 rfl ?_
      refine wa_i2l dX6_get_18 ?_
      refine wa_lconst (0) dX6_get_19 (by decide) ?_
      refine wa_aload_n dX6_get_20 rfl ?_
      refine wa_getR dX6_get_21 fgX6_17 (by first | assumption | rfl) (by rfl) ?_
      refine wa_iload_n dX6_get_24 rfl ?_
      refine wa_iald _ dX6_get_25 (by first | assumption | rfl) (by first | with_reducible rfl | with_reducible assumption | with_reducible exact ix_ma _ _ _ | with_reducible exact ix_maa _ _ _ _ | with_reducible exact ix_a _ _ | with_reducible exact ix_mama _ _ _ _ _) (by omega) ?_
      refine wa_iconst (nI 1) dX6_get_26 (by decide) ?_
      refine wa_isub dX6_get_27 ?_
      refine wa_i2l dX6_get_28 ?_
      refine wa_callS3 (k' := kX6_in) (d' := 0) dX6_get_29 lmX6_60 ksX6_in (by decide) (by omega) (Nat.le_of_ble_eq_true rfl) ?_
      refine in_1 (by simp (disch := omega) only [s7_, Int32.toInt_toInt64, pm1, nI_toInt, z64]; omega) ?_
      refine wa_if_neT 39 dX6_get_32 (by decide) (by decide) ?_
      refine wa_aload_n dX6_get_39 rfl ?_
      refine wa_getR dX6_get_40 fgX6_20 (by first | assumption | rfl) (by rfl) ?_
      refine wa_bipush (nI 64) dX6_get_43 (by decide) ?_
      refine wa_iload_n dX6_get_45 rfl ?_
      refine wa_imul dX6_get_46 ?_
      refine wa_iload_n dX6_get_47 rfl ?_
      refine wa_iadd dX6_get_48 ?_
      refine wa_iald _ dX6_get_49 (by first | assumption | rfl) (by first | with_reducible rfl | with_reducible assumption | with_reducible exact ix_ma _ _ _ | with_reducible exact ix_maa _ _ _ _ | with_reducible exact ix_a _ _ | with_reducible exact ix_mama _ _ _ _ _) (by omega) ?_
      refine wa_if_neF 59 dX6_get_50 (by decide) (by rw [s9_ a_ ha_, hl_]; exact fun q => q rfl) ?_
      refine wa_ldc2 (-5000000000000000015) dX6_get_53 lcX6_86 ?_
      refine wa_goto 71 dX6_get_56 (by decide) ?_
      refine wa_lret dX6_get_71 rfl ?_
      exact ⟨rfl, hrel.up⟩
    · skip
      refine wa_if_eqT 35 dX5_get_28 (by decide) (by decide) ?_
      refine wa_aload_n dX5_get_35 rfl ?_
      refine wa_getR dX5_get_36 fgX5_11 (by first | assumption | rfl) (by rfl) ?_
      refine wa_iload_n dX5_get_39 rfl ?_
      refine wa_aalS _ dX5_get_40 (by first | assumption | rfl) (by first | with_reducible rfl | with_reducible assumption | with_reducible exact ix_ma _ _ _ | with_reducible exact ix_maa _ _ _ _ | with_reducible exact ix_a _ _ | with_reducible exact ix_mama _ _ _ _ _) (by omega) ?_
      refine wa_iload_n dX5_get_41 rfl ?_
      rw [show arf 1 j_ = 7 + 4 * j_ from rfl]; have hS_ := isS_k (show j_ < 9 by omega); have hsh_ := (isS_sh hS_).1
      refine wa_callV1 (k' := kX3_valueAt) (d' := 0) dX5_get_42 lmX5_77 kvX3_valueAt (by first | assumption | rfl) (by rfl) (by decide) (by omega) (Nat.le_of_ble_eq_true rfl) ?_
      refine wp_X3_valueAt hS_ hi_ (by omega) ?_
      refine wa_i2l dX5_get_45 ?_
      refine wa_lret dX5_get_46 rfl ?_
      rw [hk_, hi_]
      obtain ⟨n_, s1_, s2_, s3_, s4_, s5_, s6_, s7_, s8_, s9_, s10_⟩ := hrel.1 j_ (by omega)
      have s5_ := s5_ (by omega)
      obtain rfl : n_ = szF μ j_ := by rw [szF, s3_, nI_toInt (by omega)]; omega
      refine MW_of (by decide) [some (.ref 73), some (.int (nI j_)), some (.int (nI a_)), none] rfl (Nat.le_of_ble_eq_true rfl) ?_
      refine wa_aload_n dX6_get_0 rfl ?_
      refine wa_iload_n dX6_get_1 rfl ?_
      refine wa_callV1 (k' := kX6_noSheet) (d' := 1) dX6_get_2 lmX6_66 kvX6_noSheet (by first | assumption | rfl) (by rfl) (by decide) (by omega) (Nat.le_of_ble_eq_true rfl) ?_
      refine noSh_F (by omega) hj_ (s5_.trans h_) ?_
      refine wa_istore_n dX6_get_5 (by decide) ?_
      refine wa_iload_n dX6_get_6 rfl ?_
      refine wa_if_geT 17 dX6_get_7 (by decide) (by decide) ?_
      refine wa_iload_n dX6_get_17 rfl ?_
      refine wa_i2l dX6_get_18 ?_
      refine wa_lconst (0) dX6_get_19 (by decide) ?_
      refine wa_aload_n dX6_get_20 rfl ?_
      refine wa_getR dX6_get_21 fgX6_17 (by first | assumption | rfl) (by rfl) ?_
      refine wa_iload_n dX6_get_24 rfl ?_
      refine wa_iald _ dX6_get_25 (by first | assumption | rfl) (by first | with_reducible rfl | with_reducible assumption | with_reducible exact ix_ma _ _ _ | with_reducible exact ix_maa _ _ _ _ | with_reducible exact ix_a _ _ | with_reducible exact ix_mama _ _ _ _ _) (by omega) ?_
      refine wa_iconst (nI 1) dX6_get_26 (by decide) ?_
      refine wa_isub dX6_get_27 ?_
      refine wa_i2l dX6_get_28 ?_
      refine wa_callS3 (k' := kX6_in) (d' := 0) dX6_get_29 lmX6_60 ksX6_in (by decide) (by omega) (Nat.le_of_ble_eq_true rfl) ?_
      refine in_1 (by simp (disch := omega) only [s7_, Int32.toInt_toInt64, pm1, nI_toInt, z64]; omega) ?_
      refine wa_if_neT 39 dX6_get_32 (by decide) (by decide) ?_
      refine wa_aload_n dX6_get_39 rfl ?_
      refine wa_getR dX6_get_40 fgX6_20 (by first | assumption | rfl) (by rfl) ?_
      refine wa_bipush (nI 64) dX6_get_43 (by decide) ?_
      refine wa_iload_n dX6_get_45 rfl ?_
      refine wa_imul dX6_get_46 ?_
      refine wa_iload_n dX6_get_47 rfl ?_
      refine wa_iadd dX6_get_48 ?_
      refine wa_iald _ dX6_get_49 (by first | assumption | rfl) (by first | with_reducible rfl | with_reducible assumption | with_reducible exact ix_ma _ _ _ | with_reducible exact ix_maa _ _ _ _ | with_reducible exact ix_a _ _ | with_reducible exact ix_mama _ _ _ _ _) (by omega) ?_
      refine wa_if_neT 59 dX6_get_50 (by decide) (by rw [s9_ a_ ha_]; exact hl_) ?_
      refine wa_aload_n dX6_get_59 rfl ?_
      refine wa_getR dX6_get_60 fgX6_23 (by first | assumption | rfl) (by rfl) ?_
      refine wa_bipush (nI 64) dX6_get_63 (by decide) ?_
      refine wa_iload_n dX6_get_65 rfl ?_
      refine wa_imul dX6_get_66 ?_
      refine wa_iload_n dX6_get_67 rfl ?_
      refine wa_iadd dX6_get_68 ?_
      refine wa_iald _ dX6_get_69 (by first | assumption | rfl) (by first | with_reducible rfl | with_reducible assumption | with_reducible exact ix_ma _ _ _ | with_reducible exact ix_maa _ _ _ _ | with_reducible exact ix_a _ _ | with_reducible exact ix_mama _ _ _ _ _) (by omega) ?_
      refine wa_i2l dX6_get_70 ?_
      refine wa_lret dX6_get_71 rfl ?_
      exact ⟨by rw [s8_ a_ ha_ (fun q => hl_ (by rw [q]; rfl))], hrel.up⟩
theorem pr_lose (k i : Int32) : PR kX5_lose kX6_lose [.int k, .int i] := by
  intro N μ d c hd hc hN hrel
  have hth := hrel.th
  refine MW_of (by decide) [some (.ref 0), some (.int k), some (.int i), none] rfl (Nat.le_of_ble_eq_true rfl) ?_
  refine wa_aload_n dX5_lose_0 rfl ?_
  refine wa_iload_n dX5_lose_1 rfl ?_
  refine wa_iload_n dX5_lose_2 rfl ?_
  refine wa_callV2 (k' := kX5_sampleFailure) (d' := 2) dX5_lose_3 lmX5_60 kvX5_sampleFailure (by first | assumption | rfl) (by rfl) (by decide) (by omega) (Nat.le_of_ble_eq_true rfl) ?_
  refine wp_X5_sampleFailure (by omega) hth hrel.sz (fun hoob => ?_) (fun j_ hj_ hk_ h_ => ?_) (fun j_ hj_ hk_ h_ hi_ => ?_) (fun j_ hj_ hk_ h_ a_ ha_ hi_ => ?_)
  · skip
    refine wa_istore_n dX5_lose_6 (by decide) ?_
    refine wa_iload_n dX5_lose_7 rfl ?_
    refine wa_if_eqF 13 dX5_lose_8 (by decide) (by decide) ?_
    refine wa_iload_n dX5_lose_11 rfl ?_
    refine wa_iret dX5_lose_12 rfl ?_
    skip
    refine MW_of (by decide) [some (.ref 73), some (.int k), some (.int i),none,none] rfl (Nat.le_of_ble_eq_true rfl) ?_
    refine wa_aload_n dX6_lose_0 rfl ?_
    refine wa_iload_n dX6_lose_1 rfl ?_
    refine wa_callV1 (k' := kX6_noSheet) (d' := 1) dX6_lose_2 lmX6_66 kvX6_noSheet (by first | assumption | rfl) (by rfl) (by decide) (by omega) (Nat.le_of_ble_eq_true rfl) ?_
    refine noSh_B (by omega) hoob ?_
    refine wa_istore_n dX6_lose_5 (by decide) ?_
    refine wa_iload_n dX6_lose_6 rfl ?_
    refine wa_if_geF 12 dX6_lose_7 (by decide) (by decide) ?_
    refine wa_iload_n dX6_lose_10 rfl ?_
    refine wa_iret dX6_lose_11 rfl ?_
    exact ⟨by first | rfl | decide, hrel.up⟩
  · skip
    refine wa_istore_n dX5_lose_6 (by decide) ?_
    refine wa_iload_n dX5_lose_7 rfl ?_
    refine wa_if_eqF 13 dX5_lose_8 (by decide) (by decide) ?_
    refine wa_iload_n dX5_lose_11 rfl ?_
    refine wa_iret dX5_lose_12 rfl ?_
    rw [hk_]
    obtain ⟨n_, s1_, s2_, s3_, s4_, s5_, s6_, s7_, s8_, s9_, s10_⟩ := hrel.1 j_ (by omega)
    have s5_ := s5_ (by omega)
    obtain rfl : n_ = szF μ j_ := by rw [szF, s3_, nI_toInt (by omega)]; omega
    refine MW_of (by decide) [some (.ref 73), some (.int (nI j_)), some (.int i),none,none] rfl (Nat.le_of_ble_eq_true rfl) ?_
    refine wa_aload_n dX6_lose_0 rfl ?_
    refine wa_iload_n dX6_lose_1 rfl ?_
    refine wa_callV1 (k' := kX6_noSheet) (d' := 1) dX6_lose_2 lmX6_66 kvX6_noSheet (by first | assumption | rfl) (by rfl) (by decide) (by omega) (Nat.le_of_ble_eq_true rfl) ?_
    refine noSh_N (by omega) hj_ (s5_.trans h_) ?_
    refine wa_istore_n dX6_lose_5 (by decide) ?_
    refine wa_iload_n dX6_lose_6 rfl ?_
    refine wa_if_geF 12 dX6_lose_7 (by decide) (by decide) ?_
    refine wa_iload_n dX6_lose_10 rfl ?_
    refine wa_iret dX6_lose_11 rfl ?_
    exact ⟨by first | rfl | decide, hrel.up⟩
  · skip
    refine wa_istore_n dX5_lose_6 (by decide) ?_
    refine wa_iload_n dX5_lose_7 rfl ?_
    refine wa_if_eqF 13 dX5_lose_8 (by decide) (by decide) ?_
    refine wa_iload_n dX5_lose_11 rfl ?_
    refine wa_iret dX5_lose_12 rfl ?_
    rw [hk_]
    obtain ⟨n_, s1_, s2_, s3_, s4_, s5_, s6_, s7_, s8_, s9_, s10_⟩ := hrel.1 j_ (by omega)
    have s5_ := s5_ (by omega)
    obtain rfl : n_ = szF μ j_ := by rw [szF, s3_, nI_toInt (by omega)]; omega
    refine MW_of (by decide) [some (.ref 73), some (.int (nI j_)), some (.int i),none,none] rfl (Nat.le_of_ble_eq_true rfl) ?_
    refine wa_aload_n dX6_lose_0 rfl ?_
    refine wa_iload_n dX6_lose_1 rfl ?_
    refine wa_callV1 (k' := kX6_noSheet) (d' := 1) dX6_lose_2 lmX6_66 kvX6_noSheet (by first | assumption | rfl) (by rfl) (by decide) (by omega) (Nat.le_of_ble_eq_true rfl) ?_
    refine noSh_F (by omega) hj_ (s5_.trans h_) ?_
    refine wa_istore_n dX6_lose_5 (by decide) ?_
    refine wa_iload_n dX6_lose_6 rfl ?_
    refine wa_if_geT 12 dX6_lose_7 (by decide) (by decide) ?_
    refine wa_iload_n dX6_lose_12 rfl ?_
    refine wa_i2l dX6_lose_13 ?_
    refine wa_lconst (0) dX6_lose_14 (by decide) ?_
    refine wa_aload_n dX6_lose_15 rfl ?_
    refine wa_getR dX6_lose_16 fgX6_17 (by first | assumption | rfl) (by rfl) ?_
    refine wa_iload_n dX6_lose_19 rfl ?_
    refine wa_iald _ dX6_lose_20 (by first | assumption | rfl) (by first | with_reducible rfl | with_reducible assumption | with_reducible exact ix_ma _ _ _ | with_reducible exact ix_maa _ _ _ _ | with_reducible exact ix_a _ _ | with_reducible exact ix_mama _ _ _ _ _) (by omega) ?_
    refine wa_iconst (nI 1) dX6_lose_21 (by decide) ?_
    refine wa_isub dX6_lose_22 ?_
    refine wa_i2l dX6_lose_23 ?_
    refine wa_callS3 (k' := kX6_in) (d' := 0) dX6_lose_24 lmX6_60 ksX6_in (by decide) (by omega) (Nat.le_of_ble_eq_true rfl) ?_
    refine in_0 (by simp (disch := omega) only [s7_, Int32.toInt_toInt64, pm1, nI_toInt, z64]; omega) ?_
    refine wa_if_neF 33 dX6_lose_27 (by decide) (by decide) ?_
    refine wa_bipush (-13) dX6_lose_30 (by decide) ?_
    refine wa_iret dX6_lose_32 rfl ?_
    exact ⟨by first | rfl | decide, hrel.up⟩
  · skip
    have han_ := (hrel.sz j_ hj_).2
    refine wa_istore_n dX5_lose_6 (by decide) ?_
    refine wa_iload_n dX5_lose_7 rfl ?_
    refine wa_if_eqT 13 dX5_lose_8 (by decide) (by decide) ?_
    refine wa_aload_n dX5_lose_13 rfl ?_
    refine wa_getR dX5_lose_14 fgX5_11 (by first | assumption | rfl) (by rfl) ?_
    refine wa_iload_n dX5_lose_17 rfl ?_
    refine wa_aalS _ dX5_lose_18 (by first | assumption | rfl) (by exact hk_) (by omega) ?_
    refine wa_iload_n dX5_lose_19 rfl ?_
    rw [show arf 1 j_ = 7 + 4 * j_ from rfl]; have hS_ := isS_k (show j_ < 9 by omega); have hsh_ := (isS_sh hS_).1
    refine wa_callV1 (k' := kX3_isLost) (d' := 0) dX5_lose_20 lmX5_72 kvX3_isLost (by first | assumption | rfl) (by rfl) (by decide) (by omega) (Nat.le_of_ble_eq_true rfl) ?_
    refine wp_X3_isLost hS_ hi_ (by omega) (fun hl_ => ?_) (fun hl_ => ?_)
    · skip
      refine wa_if_eqF 28 dX5_lose_23 (by decide) (by decide) ?_
      refine wa_iconst (nI 0) dX5_lose_26 (by decide) ?_
      refine wa_iret dX5_lose_27 rfl ?_
      rw [hk_, hi_]
      obtain ⟨n_, s1_, s2_, s3_, s4_, s5_, s6_, s7_, s8_, s9_, s10_⟩ := hrel.1 j_ (by omega)
      have s5_ := s5_ (by omega)
      obtain rfl : n_ = szF μ j_ := by rw [szF, s3_, nI_toInt (by omega)]; omega
      refine MW_of (by decide) [some (.ref 73), some (.int (nI j_)), some (.int (nI a_)), none, none] rfl (Nat.le_of_ble_eq_true rfl) ?_
      refine wa_aload_n dX6_lose_0 rfl ?_
      refine wa_iload_n dX6_lose_1 rfl ?_
      refine wa_callV1 (k' := kX6_noSheet) (d' := 1) dX6_lose_2 lmX6_66 kvX6_noSheet (by first | assumption | rfl) (by rfl) (by decide) (by omega) (Nat.le_of_ble_eq_true rfl) ?_
      refine noSh_F (by omega) hj_ (s5_.trans h_) ?_
      refine wa_istore_n dX6_lose_5 (by decide) ?_
      refine wa_iload_n dX6_lose_6 rfl ?_
      refine wa_if_geT 12 dX6_lose_7 (by decide) (by decide) ?_
      refine wa_iload_n dX6_lose_12 rfl ?_
      refine wa_i2l dX6_lose_13 ?_
      refine wa_lconst (0) dX6_lose_14 (by decide) ?_
      refine wa_aload_n dX6_lose_15 rfl ?_
      refine wa_getR dX6_lose_16 fgX6_17 (by first | assumption | rfl) (by rfl) ?_
      refine wa_iload_n dX6_lose_19 rfl ?_
      refine wa_iald _ dX6_lose_20 (by first | assumption | rfl) (by first | with_reducible rfl | with_reducible assumption | with_reducible exact ix_ma _ _ _ | with_reducible exact ix_maa _ _ _ _ | with_reducible exact ix_a _ _ | with_reducible exact ix_mama _ _ _ _ _) (by omega) ?_
      refine wa_iconst (nI 1) dX6_lose_21 (by decide) ?_
      refine wa_isub dX6_lose_22 ?_
      refine wa_i2l dX6_lose_23 ?_
      refine wa_callS3 (k' := kX6_in) (d' := 0) dX6_lose_24 lmX6_60 ksX6_in (by decide) (by omega) (Nat.le_of_ble_eq_true rfl) ?_
      refine in_1 (by simp (disch := omega) only [s7_, Int32.toInt_toInt64, pm1, nI_toInt, z64]; omega) ?_
      refine wa_if_neT 33 dX6_lose_27 (by decide) (by decide) ?_
      refine wa_aload_n dX6_lose_33 rfl ?_
      refine wa_getR dX6_lose_34 fgX6_20 (by first | assumption | rfl) (by rfl) ?_
      refine wa_bipush (nI 64) dX6_lose_37 (by decide) ?_
      refine wa_iload_n dX6_lose_39 rfl ?_
      refine wa_imul dX6_lose_40 ?_
      refine wa_iload_n dX6_lose_41 rfl ?_
      refine wa_iadd dX6_lose_42 ?_
      refine wa_iald _ dX6_lose_43 (by first | assumption | rfl) (by first | with_reducible rfl | with_reducible assumption | with_reducible exact ix_ma _ _ _ | with_reducible exact ix_maa _ _ _ _ | with_reducible exact ix_a _ _ | with_reducible exact ix_mama _ _ _ _ _) (by omega) ?_
      refine wa_istore dX6_lose_44 (by decide) ?_
      refine wa_aload_n dX6_lose_46 rfl ?_
      refine wa_getR dX6_lose_47 fgX6_20 (by first | assumption | rfl) (by rfl) ?_
      refine wa_bipush (nI 64) dX6_lose_50 (by decide) ?_
      refine wa_iload_n dX6_lose_52 rfl ?_
      refine wa_imul dX6_lose_53 ?_
      refine wa_iload_n dX6_lose_54 rfl ?_
      refine wa_iadd dX6_lose_55 ?_
      refine wa_iconst (nI 0) dX6_lose_56 (by decide) ?_
      refine wa_iast _ dX6_lose_57 (by first | assumption | rfl) (by first | with_reducible rfl | with_reducible assumption | with_reducible exact ix_ma _ _ _ | with_reducible exact ix_maa _ _ _ _ | with_reducible exact ix_a _ _ | with_reducible exact ix_mama _ _ _ _ _) (by omega) ?_
      refine wa_aload_n dX6_lose_58 rfl ?_
      refine wa_getR dX6_lose_59 fgX6_23 (by first | assumption | rfl) (by rfl) ?_
      refine wa_bipush (nI 64) dX6_lose_62 (by decide) ?_
      refine wa_iload_n dX6_lose_64 rfl ?_
      refine wa_imul dX6_lose_65 ?_
      refine wa_iload_n dX6_lose_66 rfl ?_
      refine wa_iadd dX6_lose_67 ?_
      refine wa_iconst (nI 0) dX6_lose_68 (by decide) ?_
      refine wa_iast _ dX6_lose_69 (by first | assumption | rfl) (by first | with_reducible rfl | with_reducible assumption | with_reducible exact ix_ma _ _ _ | with_reducible exact ix_maa _ _ _ _ | with_reducible exact ix_a _ _ | with_reducible exact ix_mama _ _ _ _ _) (by omega) ?_
      refine wa_iload dX6_lose_70 rfl ?_
      refine wa_if_neF 79 dX6_lose_72 (by decide) (by rw [s9_ a_ ha_, hl_]; exact fun q => q rfl) ?_
      refine wa_iconst (nI 0) dX6_lose_75 (by decide) ?_
      refine wa_goto 80 dX6_lose_76 (by decide) ?_
      refine wa_iret dX6_lose_80 rfl ?_
      refine ⟨rfl, ?_⟩
      refine Rel_S (k := j_) (n := (szF μ j_)) hrel ?rels ?fs ?fr ?fp ?fw ?fm
      case fs =>
        intro j_ hj_ hjk_
        refine ⟨?_, ?_, ?_, ?_, ?_, ?_, fun i_ hi_ => ?_, fun i_ hi_ => ?_⟩
        all_goals
          simp (disch := omega) only [sI_off, bI_off, sL_off, bL_off, r1l, r2l, rb1l, rb2l, r1m, r2m, rb1e, rb2e,r1e]
      case fr =>
        intro r_ hr_
        refine ⟨?_, ?_, ?_, fun i_ hi_ => ?_⟩
        all_goals
          simp (disch := omega) only [sI_off, bI_off, sL_off, bL_off, r1l, r2l, rb1l, rb2l, r1m, r2m, rb1e, rb2e,r1e]
      case fp =>
        refine ⟨?_, ?_, ?_, ?_, ?_⟩
        all_goals
          simp (disch := omega) only [sI_off, bI_off, sL_off, bL_off, r1l, r2l, rb1l, rb2l, r1m, r2m, rb1e, rb2e,r1e]
      case fw =>
        refine ⟨?_, fun q_ ha_ hb_ => ?_⟩
        all_goals
          simp (disch := omega) only [sI_off, bI_off, sL_off, bL_off, r1l, r2l, rb1l, rb2l, r1m, r2m, rb1e, rb2e,r1e]
      case fm =>
        refine ⟨?_, ?_, fun q_ ha_ hb_ => ?_⟩
        all_goals
          simp (disch := omega) only [sI_off, bI_off, sL_off, bL_off, r1l, r2l, rb1l, rb2l, r1m, r2m, rb1e, rb2e,r1e]
      case rels =>
        refine ⟨by simp (disch := omega) only [sI_off, bI_off, sL_off, bL_off, r1l, r2l, rb1l, rb2l, r1m, r2m, rb1e, rb2e, r1e]; exact s1_, by simp (disch := omega) only [sI_off, bI_off, sL_off, bL_off, r1l, r2l, rb1l, rb2l, r1m, r2m, rb1e, rb2e, r1e]; exact s2_, by simp (disch := omega) only [sI_off, bI_off, sL_off, bL_off, r1l, r2l, rb1l, rb2l, r1m, r2m, rb1e, rb2e, r1e]; exact s3_, s4_, fun _ => by simp (disch := omega) only [sI_off, bI_off, sL_off, bL_off, r1l, r2l, rb1l, rb2l, r1m, r2m, rb1e, rb2e, r1e]; exact s5_, by simp (disch := omega) only [sI_off, bI_off, sL_off, bL_off, r1l, r2l, rb1l, rb2l, r1m, r2m, rb1e, rb2e, r1e]; exact s6_, by simp (disch := omega) only [sI_off, bI_off, sL_off, bL_off, r1l, r2l, rb1l, rb2l, r1m, r2m, rb1e, rb2e, r1e]; exact s7_, fun i_ hb_ hz_ => ?_, fun i_ hb_ => ?_, fun i_ hb_ => ?_⟩
        · by_cases hia_ : i_ = a_
          · exact absurd (by rw [hia_]; simp (disch := omega) only [sI_off, bI_off, sL_off, bL_off, r1l, r2l, rb1l, rb2l, r1m, r2m, rb1e, rb2e, r1e]; exact st3_0 hl_) hz_
          · simp (disch := omega) only [sI_off] at hz_; simp (disch := omega) only [sI_off, bI_off, sL_off, bL_off, r1l, r2l, rb1l, rb2l, r1m, r2m, rb1e, rb2e, r1e]; exact s8_ i_ hb_ hz_
        · by_cases hia_ : i_ = a_
          · rw [hia_]; simp (disch := omega) only [sI_off, bI_off, sL_off, bL_off, r1l, r2l, rb1l, rb2l, r1m, r2m, rb1e, rb2e, r1e]; exact (st3_0 hl_).symm
          · simp (disch := omega) only [sI_off, bI_off, sL_off, bL_off, r1l, r2l, rb1l, rb2l, r1m, r2m, rb1e, rb2e, r1e]; exact s9_ i_ hb_
        · simp (disch := omega) only [sI_off, bI_off, sL_off, bL_off, r1l, r2l, rb1l, rb2l, r1m, r2m, rb1e, rb2e, r1e]; exact s10_ i_ hb_
    · skip
      refine wa_if_eqT 28 dX5_lose_23 (by decide) (by decide) ?_
      refine wa_aload_n dX5_lose_28 rfl ?_
      refine wa_getR dX5_lose_29 fgX5_11 (by first | assumption | rfl) (by rfl) ?_
      refine wa_iload_n dX5_lose_32 rfl ?_
      refine wa_aalS _ dX5_lose_33 (by first | assumption | rfl) (by exact hk_) (by omega) ?_
      refine wa_iload_n dX5_lose_34 rfl ?_
      rw [show arf 1 j_ = 7 + 4 * j_ from rfl]; have hS_ := isS_k (show j_ < 9 by omega); have hsh_ := (isS_sh hS_).1
      refine wa_callV1 (k' := kX3_forget) (d' := 0) dX5_lose_35 lmX5_80 kvX3_forget (by first | assumption | rfl) (by rfl) (by decide) (by omega) (Nat.le_of_ble_eq_true rfl) ?_
      rw [hi_]; refine wp_X3_forget hS_ (by omega) ?_
      refine wa_iconst (nI 1) dX5_lose_38 (by decide) ?_
      refine wa_iret dX5_lose_39 rfl ?_
      rw [hk_]
      obtain ⟨n_, s1_, s2_, s3_, s4_, s5_, s6_, s7_, s8_, s9_, s10_⟩ := hrel.1 j_ (by omega)
      have s5_ := s5_ (by omega)
      obtain rfl : n_ = szF μ j_ := by rw [szF, s3_, nI_toInt (by omega)]; omega
      refine MW_of (by decide) [some (.ref 73), some (.int (nI j_)), some (.int (nI a_)), none, none] rfl (Nat.le_of_ble_eq_true rfl) ?_
      refine wa_aload_n dX6_lose_0 rfl ?_
      refine wa_iload_n dX6_lose_1 rfl ?_
      refine wa_callV1 (k' := kX6_noSheet) (d' := 1) dX6_lose_2 lmX6_66 kvX6_noSheet (by first | assumption | rfl) (by rfl) (by decide) (by omega) (Nat.le_of_ble_eq_true rfl) ?_
      refine noSh_F (by omega) hj_ (by simp (disch := omega) only [sI_off, bI_off, sL_off, bL_off, r1l, r2l, rb1l, rb2l, r1m, r2m, rb1e, rb2e, r1e]; exact s5_.trans h_) ?_
      refine wa_istore_n dX6_lose_5 (by decide) ?_
      refine wa_iload_n dX6_lose_6 rfl ?_
      refine wa_if_geT 12 dX6_lose_7 (by decide) (by decide) ?_
      refine wa_iload_n dX6_lose_12 rfl ?_
      refine wa_i2l dX6_lose_13 ?_
      refine wa_lconst (0) dX6_lose_14 (by decide) ?_
      refine wa_aload_n dX6_lose_15 rfl ?_
      refine wa_getR dX6_lose_16 fgX6_17 (by first | assumption | rfl) (by rfl) ?_
      refine wa_iload_n dX6_lose_19 rfl ?_
      refine wa_iald _ dX6_lose_20 (by first | assumption | rfl) (by first | with_reducible rfl | with_reducible assumption | with_reducible exact ix_ma _ _ _ | with_reducible exact ix_maa _ _ _ _ | with_reducible exact ix_a _ _ | with_reducible exact ix_mama _ _ _ _ _) (by omega) ?_
      refine wa_iconst (nI 1) dX6_lose_21 (by decide) ?_
      refine wa_isub dX6_lose_22 ?_
      refine wa_i2l dX6_lose_23 ?_
      refine wa_callS3 (k' := kX6_in) (d' := 0) dX6_lose_24 lmX6_60 ksX6_in (by decide) (by omega) (Nat.le_of_ble_eq_true rfl) ?_
      refine in_1 (by simp (disch := omega) only [sI_off, bI_off, sL_off, bL_off, r1l, r2l, rb1l, rb2l, r1m, r2m, rb1e, rb2e, r1e]; simp (disch := omega) only [s7_, Int32.toInt_toInt64, pm1, nI_toInt, z64]; omega) ?_
      refine wa_if_neT 33 dX6_lose_27 (by decide) (by decide) ?_
      refine wa_aload_n dX6_lose_33 rfl ?_
      refine wa_getR dX6_lose_34 fgX6_20 (by first | assumption | rfl) (by rfl) ?_
      refine wa_bipush (nI 64) dX6_lose_37 (by decide) ?_
      refine wa_iload_n dX6_lose_39 rfl ?_
      refine wa_imul dX6_lose_40 ?_
      refine wa_iload_n dX6_lose_41 rfl ?_
      refine wa_iadd dX6_lose_42 ?_
      refine wa_iald _ dX6_lose_43 (by first | assumption | rfl) (by first | with_reducible rfl | with_reducible assumption | with_reducible exact ix_ma _ _ _ | with_reducible exact ix_maa _ _ _ _ | with_reducible exact ix_a _ _ | with_reducible exact ix_mama _ _ _ _ _) (by omega) ?_
      refine wa_istore dX6_lose_44 (by decide) ?_
      refine wa_aload_n dX6_lose_46 rfl ?_
      refine wa_getR dX6_lose_47 fgX6_20 (by first | assumption | rfl) (by rfl) ?_
      refine wa_bipush (nI 64) dX6_lose_50 (by decide) ?_
      refine wa_iload_n dX6_lose_52 rfl ?_
      refine wa_imul dX6_lose_53 ?_
      refine wa_iload_n dX6_lose_54 rfl ?_
      refine wa_iadd dX6_lose_55 ?_
      refine wa_iconst (nI 0) dX6_lose_56 (by decide) ?_
      refine wa_iast _ dX6_lose_57 (by first | assumption | rfl) (by first | with_reducible rfl | with_reducible assumption | with_reducible exact ix_ma _ _ _ | with_reducible exact ix_maa _ _ _ _ | with_reducible exact ix_a _ _ | with_reducible exact ix_mama _ _ _ _ _) (by omega) ?_
      refine wa_aload_n dX6_lose_58 rfl ?_
      refine wa_getR dX6_lose_59 fgX6_23 (by first | assumption | rfl) (by rfl) ?_
      refine wa_bipush (nI 64) dX6_lose_62 (by decide) ?_
      refine wa_iload_n dX6_lose_64 rfl ?_
      refine wa_imul dX6_lose_65 ?_
      refine wa_iload_n dX6_lose_66 rfl ?_
      refine wa_iadd dX6_lose_67 ?_
      refine wa_iconst (nI 0) dX6_lose_68 (by decide) ?_
      refine wa_iast _ dX6_lose_69 (by first | assumption | rfl) (by first | with_reducible rfl | with_reducible assumption | with_reducible exact ix_ma _ _ _ | with_reducible exact ix_maa _ _ _ _ | with_reducible exact ix_a _ _ | with_reducible exact ix_mama _ _ _ _ _) (by omega) ?_
      refine wa_iload dX6_lose_70 rfl ?_
      refine wa_if_neT 79 dX6_lose_72 (by decide) (by simp (disch := omega) only [sI_off, bI_off, sL_off, bL_off, r1l, r2l, rb1l, rb2l, r1m, r2m, rb1e, rb2e, r1e]; rw [s9_ a_ ha_]; exact hl_) ?_
      refine wa_iconst (nI 1) dX6_lose_79 (by decide) ?_
      refine wa_iret dX6_lose_80 rfl ?_
      refine ⟨rfl, ?_⟩
      refine Rel_S (k := j_) (n := (szF μ j_)) hrel ?rels ?fs ?fr ?fp ?fw ?fm
      case fs =>
        intro j_ hj_ hjk_
        refine ⟨?_, ?_, ?_, ?_, ?_, ?_, fun i_ hi_ => ?_, fun i_ hi_ => ?_⟩
        all_goals
          simp (disch := omega) only [sI_off, bI_off, sL_off, bL_off, r1l, r2l, rb1l, rb2l, r1m, r2m, rb1e, rb2e,r1e]
      case fr =>
        intro r_ hr_
        refine ⟨?_, ?_, ?_, fun i_ hi_ => ?_⟩
        all_goals
          simp (disch := omega) only [sI_off, bI_off, sL_off, bL_off, r1l, r2l, rb1l, rb2l, r1m, r2m, rb1e, rb2e,r1e]
      case fp =>
        refine ⟨?_, ?_, ?_, ?_, ?_⟩
        all_goals
          simp (disch := omega) only [sI_off, bI_off, sL_off, bL_off, r1l, r2l, rb1l, rb2l, r1m, r2m, rb1e, rb2e,r1e]
      case fw =>
        refine ⟨?_, fun q_ ha_ hb_ => ?_⟩
        all_goals
          simp (disch := omega) only [sI_off, bI_off, sL_off, bL_off, r1l, r2l, rb1l, rb2l, r1m, r2m, rb1e, rb2e,r1e]
      case fm =>
        refine ⟨?_, ?_, fun q_ ha_ hb_ => ?_⟩
        all_goals
          simp (disch := omega) only [sI_off, bI_off, sL_off, bL_off, r1l, r2l, rb1l, rb2l, r1m, r2m, rb1e, rb2e,r1e]
      case rels =>
        refine ⟨by simp (disch := omega) only [sI_off, bI_off, sL_off, bL_off, r1l, r2l, rb1l, rb2l, r1m, r2m, rb1e, rb2e, r1e]; exact s1_, by simp (disch := omega) only [sI_off, bI_off, sL_off, bL_off, r1l, r2l, rb1l, rb2l, r1m, r2m, rb1e, rb2e, r1e]; exact s2_, by simp (disch := omega) only [sI_off, bI_off, sL_off, bL_off, r1l, r2l, rb1l, rb2l, r1m, r2m, rb1e, rb2e, r1e]; exact s3_, s4_, fun _ => by simp (disch := omega) only [sI_off, bI_off, sL_off, bL_off, r1l, r2l, rb1l, rb2l, r1m, r2m, rb1e, rb2e, r1e]; exact s5_, by simp (disch := omega) only [sI_off, bI_off, sL_off, bL_off, r1l, r2l, rb1l, rb2l, r1m, r2m, rb1e, rb2e, r1e]; exact s6_, by simp (disch := omega) only [sI_off, bI_off, sL_off, bL_off, r1l, r2l, rb1l, rb2l, r1m, r2m, rb1e, rb2e, r1e]; exact s7_, fun i_ hb_ hz_ => ?_, fun i_ hb_ => ?_, fun i_ hb_ => ?_⟩
        · by_cases hia_ : i_ = a_
          · exact absurd (by rw [hia_]; simp (disch := omega) only [sI_off, bI_off, sL_off, bL_off, r1l, r2l, rb1l, rb2l, r1m, r2m, rb1e, rb2e, r1e]) hz_
          · simp (disch := omega) only [r1m, sI_off] at hz_; simp (disch := omega) only [sI_off, bI_off, sL_off, bL_off, r1l, r2l, rb1l, rb2l, r1m, r2m, rb1e, rb2e, r1e]; exact s8_ i_ hb_ hz_
        · by_cases hia_ : i_ = a_
          · rw [hia_]; simp (disch := omega) only [sI_off, bI_off, sL_off, bL_off, r1l, r2l, rb1l, rb2l, r1m, r2m, rb1e, rb2e, r1e]
          · simp (disch := omega) only [sI_off, bI_off, sL_off, bL_off, r1l, r2l, rb1l, rb2l, r1m, r2m, rb1e, rb2e, r1e]; exact s9_ i_ hb_
        · by_cases hia_ : i_ = a_
          · rw [hia_]; simp (disch := omega) only [sI_off, bI_off, sL_off, bL_off, r1l, r2l, rb1l, rb2l, r1m, r2m, rb1e, rb2e, r1e]; exact Or.inl rfl
          · simp (disch := omega) only [sI_off, bI_off, sL_off, bL_off, r1l, r2l, rb1l, rb2l, r1m, r2m, rb1e, rb2e, r1e]; exact s10_ i_ hb_
theorem pr_put (k i v : Int32) : PR kX5_put kX6_put [.int k, .int i, .int v] := by
  intro N μ d c hd hc hN hrel
  have hth := hrel.th
  refine MW_of (by decide) [some (.ref 0), some (.int k), some (.int i), some (.int v), none] rfl (Nat.le_of_ble_eq_true rfl) ?_
  refine wa_aload_n dX5_put_0 rfl ?_
  refine wa_iload_n dX5_put_1 rfl ?_
  refine wa_iload_n dX5_put_2 rfl ?_
  refine wa_callV2 (k' := kX5_sampleFailure) (d' := 2) dX5_put_3 lmX5_60 kvX5_sampleFailure (by first | assumption | rfl) (by rfl) (by decide) (by omega) (Nat.le_of_ble_eq_true rfl) ?_
  refine wp_X5_sampleFailure (by omega) hth hrel.sz (fun hoob => ?_) (fun j_ hj_ hk_ h_ => ?_) (fun j_ hj_ hk_ h_ hi_ => ?_) (fun j_ hj_ hk_ h_ a_ ha_ hi_ => ?_)
  · skip
    refine wa_istore dX5_put_6 (by decide) ?_
    refine wa_iload dX5_put_8 rfl ?_
    refine wa_if_eqF 16 dX5_put_10 (by decide) (by decide) ?_
    refine wa_iload dX5_put_13 rfl ?_
    refine wa_iret dX5_put_15 rfl ?_
    skip
    refine MW_of (by decide) [some (.ref 73), some (.int k), some (.int i), some (.int v), none] rfl (Nat.le_of_ble_eq_true rfl) ?_
    refine wa_aload_n dX6_put_0 rfl ?_
    refine wa_iload_n dX6_put_1 rfl ?_
    refine wa_callV1 (k' := kX6_noSheet) (d' := 1) dX6_put_2 lmX6_66 kvX6_noSheet (by first | assumption | rfl) (by rfl) (by decide) (by omega) (Nat.le_of_ble_eq_true rfl) ?_
    refine noSh_B (by omega) hoob ?_
    refine wa_istore dX6_put_5 (by decide) ?_
    refine wa_iload dX6_put_7 rfl ?_
    refine wa_if_geF 15 dX6_put_9 (by decide) (by decide) ?_
    refine wa_iload dX6_put_12 rfl ?_
    refine wa_iret dX6_put_14 rfl ?_
    exact ⟨by first | rfl | decide, hrel.up⟩
  · skip
    refine wa_istore dX5_put_6 (by decide) ?_
    refine wa_iload dX5_put_8 rfl ?_
    refine wa_if_eqF 16 dX5_put_10 (by decide) (by decide) ?_
    refine wa_iload dX5_put_13 rfl ?_
    refine wa_iret dX5_put_15 rfl ?_
    rw [hk_]
    obtain ⟨n_, s1_, s2_, s3_, s4_, s5_, s6_, s7_, s8_, s9_, s10_⟩ := hrel.1 j_ (by omega)
    have s5_ := s5_ (by omega)
    obtain rfl : n_ = szF μ j_ := by rw [szF, s3_, nI_toInt (by omega)]; omega
    refine MW_of (by decide) [some (.ref 73), some (.int (nI j_)), some (.int i), some (.int v), none] rfl (Nat.le_of_ble_eq_true rfl) ?_
    refine wa_aload_n dX6_put_0 rfl ?_
    refine wa_iload_n dX6_put_1 rfl ?_
    refine wa_callV1 (k' := kX6_noSheet) (d' := 1) dX6_put_2 lmX6_66 kvX6_noSheet (by first | assumption | rfl) (by rfl) (by decide) (by omega) (Nat.le_of_ble_eq_true rfl) ?_
    refine noSh_N (by omega) hj_ (s5_.trans h_) ?_
    refine wa_istore dX6_put_5 (by decide) ?_
    refine wa_iload dX6_put_7 rfl ?_
    refine wa_if_geF 15 dX6_put_9 (by decide) (by decide) ?_
    refine wa_iload dX6_put_12 rfl ?_
    refine wa_iret dX6_put_14 rfl ?_
    exact ⟨by first | rfl | decide, hrel.up⟩
  · skip
    refine wa_istore dX5_put_6 (by decide) ?_
    refine wa_iload dX5_put_8 rfl ?_
    refine wa_if_eqF 16 dX5_put_10 (by decide) (by decide) ?_
    refine wa_iload dX5_put_13 rfl ?_
    refine wa_iret dX5_put_15 rfl ?_
    rw [hk_]
    obtain ⟨n_, s1_, s2_, s3_, s4_, s5_, s6_, s7_, s8_, s9_, s10_⟩ := hrel.1 j_ (by omega)
    have s5_ := s5_ (by omega)
    obtain rfl : n_ = szF μ j_ := by rw [szF, s3_, nI_toInt (by omega)]; omega
    refine MW_of (by decide) [some (.ref 73), some (.int (nI j_)), some (.int i), some (.int v), none] rfl (Nat.le_of_ble_eq_true rfl) ?_
    refine wa_aload_n dX6_put_0 rfl ?_
    refine wa_iload_n dX6_put_1 rfl ?_
    refine wa_callV1 (k' := kX6_noSheet) (d' := 1) dX6_put_2 lmX6_66 kvX6_noSheet (by first | assumption | rfl) (by rfl) (by decide) (by omega) (Nat.le_of_ble_eq_true rfl) ?_
    refine noSh_F (by omega) hj_ (s5_.trans h_) ?_
    refine wa_istore dX6_put_5 (by decide) ?_
    refine wa_iload dX6_put_7 rfl ?_
    refine wa_if_geT 15 dX6_put_9 (by decide) (by decide) ?_
    refine wa_iload_n dX6_put_15 rfl ?_
    refine wa_i2l dX6_put_16 ?_
    refine wa_lconst (0) dX6_put_17 (by decide) ?_
    refine wa_aload_n dX6_put_18 rfl ?_
    refine wa_getR dX6_put_19 fgX6_17 (by first | assumption | rfl) (by rfl) ?_
    refine wa_iload_n dX6_put_22 rfl ?_
    refine wa_iald _ dX6_put_23 (by first | assumption | rfl) (by first | with_reducible rfl | with_reducible assumption | with_reducible exact ix_ma _ _ _ | with_reducible exact ix_maa _ _ _ _ | with_reducible exact ix_a _ _ | with_reducible exact ix_mama _ _ _ _ _) (by omega) ?_
    refine wa_iconst (nI 1) dX6_put_24 (by decide) ?_
    refine wa_isub dX6_put_25 ?_
    refine wa_i2l dX6_put_26 ?_
    refine wa_callS3 (k' := kX6_in) (d' := 0) dX6_put_27 lmX6_60 ksX6_in (by decide) (by omega) (Nat.le_of_ble_eq_true rfl) ?_
    refine in_0 (by simp (disch := omega) only [s7_, Int32.toInt_toInt64, pm1, nI_toInt, z64]; omega) ?_
    refine wa_if_neF 36 dX6_put_30 (by decide) (by decide) ?_
    refine wa_bipush (-13) dX6_put_33 (by decide) ?_
    refine wa_iret dX6_put_35 rfl ?_
    exact ⟨by first | rfl | decide, hrel.up⟩
  · skip
    have han_ := (hrel.sz j_ hj_).2
    refine wa_istore dX5_put_6 (by decide) ?_
    refine wa_iload dX5_put_8 rfl ?_
    refine wa_if_eqT 16 dX5_put_10 (by decide) (by decide) ?_
    refine wa_aload_n dX5_put_16 rfl ?_
    refine wa_getR dX5_put_17 fgX5_11 (by first | assumption | rfl) (by rfl) ?_
    refine wa_iload_n dX5_put_20 rfl ?_
    refine wa_aalS _ dX5_put_21 (by first | assumption | rfl) (by first | with_reducible rfl | with_reducible assumption | with_reducible exact ix_ma _ _ _ | with_reducible exact ix_maa _ _ _ _ | with_reducible exact ix_a _ _ | with_reducible exact ix_mama _ _ _ _ _) (by omega) ?_
    rw [show arf 1 j_ = 7 + 4 * j_ from rfl]; have hS_ := isS_k (show j_ < 9 by omega); have hsh_ := (isS_sh hS_).1; obtain ⟨n_, s1_, s2_, s3_, s4_, s5_, s6_, s7_, s8_, s9_, s10_⟩ := hrel.1 j_ (by omega); have s5_ := s5_ (by omega); obtain rfl : n_ = szF μ j_ := by rw [szF, s3_, nI_toInt (by omega)]; omega
    refine wa_iload_n dX5_put_22 rfl ?_
    refine wa_callV1 (k' := kX3_fits) (d' := 0) dX5_put_23 lmX5_64 kvX3_fits (by first | assumption | rfl) (by rfl) (by decide) (by omega) (Nat.le_of_ble_eq_true rfl) ?_
    refine wp_X3_fits hS_ s2_ (fun hf_ => ?_) (fun hf_ => ?_)
    · skip
      refine wa_if_neT 32 dX5_put_26 (by decide) (by decide) ?_
      refine wa_aload_n dX5_put_32 rfl ?_
      refine wa_getR dX5_put_33 fgX5_11 (by first | assumption | rfl) (by rfl) ?_
      refine wa_iload_n dX5_put_36 rfl ?_
      refine wa_aalS _ dX5_put_37 (by first | assumption | rfl) (by first | with_reducible rfl | with_reducible assumption | with_reducible exact ix_ma _ _ _ | with_reducible exact ix_maa _ _ _ _ | with_reducible exact ix_a _ _ | with_reducible exact ix_mama _ _ _ _ _) (by omega) ?_
      rw [show arf 1 j_ = 7 + 4 * j_ from rfl]; have hS_ := isS_k (show j_ < 9 by omega); have hsh_ := (isS_sh hS_).1; obtain ⟨n_, s1_, s2_, s3_, s4_, s5_, s6_, s7_, s8_, s9_, s10_⟩ := hrel.1 j_ (by omega); have s5_ := s5_ (by omega); obtain rfl : n_ = szF μ j_ := by rw [szF, s3_, nI_toInt (by omega)]; omega
      refine wa_iload_n dX5_put_38 rfl ?_
      refine wa_iload_n dX5_put_39 rfl ?_
      refine wa_callV2 (k' := kX3_tell) (d' := 0) dX5_put_40 lmX5_67 kvX3_tell (by first | assumption | rfl) (by rfl) (by decide) (by omega) (Nat.le_of_ble_eq_true rfl) ?_
      rw [hi_]; refine wp_X3_tell hS_ (by omega) ?_
      refine wa_iconst (nI 1) dX5_put_43 (by decide) ?_
      refine wa_iret dX5_put_44 rfl ?_
      rw [hk_]
      refine MW_of (by decide) [some (.ref 73), some (.int (nI j_)), some (.int (nI a_)), some (.int v), none] rfl (Nat.le_of_ble_eq_true rfl) ?_
      refine wa_aload_n dX6_put_0 rfl ?_
      refine wa_iload_n dX6_put_1 rfl ?_
      refine wa_callV1 (k' := kX6_noSheet) (d' := 1) dX6_put_2 lmX6_66 kvX6_noSheet (by first | assumption | rfl) (by rfl) (by decide) (by omega) (Nat.le_of_ble_eq_true rfl) ?_
      refine noSh_F (by omega) hj_ (by simp (disch := omega) only [sI_off, bI_off, sL_off, bL_off, r1l, r2l, rb1l, rb2l, r1m, r2m, rb1e, rb2e, r1e]; exact s5_.trans h_) ?_
      refine wa_istore dX6_put_5 (by decide) ?_
      refine wa_iload dX6_put_7 rfl ?_
      refine wa_if_geT 15 dX6_put_9 (by decide) (by decide) ?_
      refine wa_iload_n dX6_put_15 rfl ?_
      refine wa_i2l dX6_put_16 ?_
      refine wa_lconst (0) dX6_put_17 (by decide) ?_
      refine wa_aload_n dX6_put_18 rfl ?_
      refine wa_getR dX6_put_19 fgX6_17 (by first | assumption | rfl) (by rfl) ?_
      refine wa_iload_n dX6_put_22 rfl ?_
      refine wa_iald _ dX6_put_23 (by first | assumption | rfl) (by first | with_reducible rfl | with_reducible assumption | with_reducible exact ix_ma _ _ _ | with_reducible exact ix_maa _ _ _ _ | with_reducible exact ix_a _ _ | with_reducible exact ix_mama _ _ _ _ _) (by omega) ?_
      refine wa_iconst (nI 1) dX6_put_24 (by decide) ?_
      refine wa_isub dX6_put_25 ?_
      refine wa_i2l dX6_put_26 ?_
      refine wa_callS3 (k' := kX6_in) (d' := 0) dX6_put_27 lmX6_60 ksX6_in (by decide) (by omega) (Nat.le_of_ble_eq_true rfl) ?_
      refine in_1 (by simp (disch := omega) only [sI_off, bI_off, sL_off, bL_off, r1l, r2l, rb1l, rb2l, r1m, r2m, rb1e, rb2e, r1e]; simp (disch := omega) only [s7_, Int32.toInt_toInt64, pm1, nI_toInt, z64]; omega) ?_
      refine wa_if_neT 36 dX6_put_30 (by decide) (by decide) ?_
      refine wa_aload_n dX6_put_36 rfl ?_
      refine wa_getR dX6_put_37 fgX6_13 (by first | assumption | rfl) (by rfl) ?_
      refine wa_iload_n dX6_put_40 rfl ?_
      refine wa_iald _ dX6_put_41 (by first | assumption | rfl) (by first | with_reducible rfl | with_reducible assumption | with_reducible exact ix_ma _ _ _ | with_reducible exact ix_maa _ _ _ _ | with_reducible exact ix_a _ _ | with_reducible exact ix_mama _ _ _ _ _) (by omega) ?_
      refine wa_iload_n dX6_put_42 rfl ?_
      refine wa_callS2 (k' := kX6_fits) (d' := 1) dX6_put_43 lmX6_78 ksX6_fits (by decide) (by omega) (Nat.le_of_ble_eq_true rfl) ?_
      refine wp_X6_fits (by omega) (by simp (disch := omega) only [sI_off, bI_off, sL_off, bL_off, r1l, r2l, rb1l, rb2l, r1m, r2m, rb1e, rb2e, r1e]; rw [s6_]; exact s2_) (fun hg_ => ?_) (fun hg_ => absurd hf_ (by revert hg_; simp (disch := omega) only [sI_off, bI_off, sL_off, bL_off, r1l, r2l, rb1l, rb2l, r1m, r2m, rb1e, rb2e, r1e]; rw [s6_]; exact id))
      refine wa_if_neT 52 dX6_put_46 (by decide) (by decide) ?_
      refine wa_aload_n dX6_put_52 rfl ?_
      refine wa_getR dX6_put_53 fgX6_20 (by first | assumption | rfl) (by rfl) ?_
      refine wa_bipush (nI 64) dX6_put_56 (by decide) ?_
      refine wa_iload_n dX6_put_58 rfl ?_
      refine wa_imul dX6_put_59 ?_
      refine wa_iload_n dX6_put_60 rfl ?_
      refine wa_iadd dX6_put_61 ?_
      refine wa_iconst (nI 1) dX6_put_62 (by decide) ?_
      refine wa_iast _ dX6_put_63 (by first | assumption | rfl) (by first | with_reducible rfl | with_reducible assumption | with_reducible exact ix_ma _ _ _ | with_reducible exact ix_maa _ _ _ _ | with_reducible exact ix_a _ _ | with_reducible exact ix_mama _ _ _ _ _) (by omega) ?_
      refine wa_aload_n dX6_put_64 rfl ?_
      refine wa_getR dX6_put_65 fgX6_23 (by first | assumption | rfl) (by rfl) ?_
      refine wa_bipush (nI 64) dX6_put_68 (by decide) ?_
      refine wa_iload_n dX6_put_70 rfl ?_
      refine wa_imul dX6_put_71 ?_
      refine wa_iload_n dX6_put_72 rfl ?_
      refine wa_iadd dX6_put_73 ?_
      refine wa_iload_n dX6_put_74 rfl ?_
      refine wa_iast _ dX6_put_75 (by first | assumption | rfl) (by first | with_reducible rfl | with_reducible assumption | with_reducible exact ix_ma _ _ _ | with_reducible exact ix_maa _ _ _ _ | with_reducible exact ix_a _ _ | with_reducible exact ix_mama _ _ _ _ _) (by omega) ?_
      refine wa_iconst (nI 1) dX6_put_76 (by decide) ?_
      refine wa_iret dX6_put_77 rfl ?_
      refine ⟨rfl, ?_⟩
      refine Rel_S (k := j_) (n := (szF μ j_)) hrel ?rels ?fs ?fr ?fp ?fw ?fm
      case fs =>
        intro j_ hj_ hjk_
        refine ⟨?_, ?_, ?_, ?_, ?_, ?_, fun i_ hi_ => ?_, fun i_ hi_ => ?_⟩
        all_goals
          simp (disch := omega) only [sI_off, bI_off, sL_off, bL_off, r1l, r2l, rb1l, rb2l, r1m, r2m, rb1e, rb2e,r1e]
      case fr =>
        intro r_ hr_
        refine ⟨?_, ?_, ?_, fun i_ hi_ => ?_⟩
        all_goals
          simp (disch := omega) only [sI_off, bI_off, sL_off, bL_off, r1l, r2l, rb1l, rb2l, r1m, r2m, rb1e, rb2e,r1e]
      case fp =>
        refine ⟨?_, ?_, ?_, ?_, ?_⟩
        all_goals
          simp (disch := omega) only [sI_off, bI_off, sL_off, bL_off, r1l, r2l, rb1l, rb2l, r1m, r2m, rb1e, rb2e,r1e]
      case fw =>
        refine ⟨?_, fun q_ ha_ hb_ => ?_⟩
        all_goals
          simp (disch := omega) only [sI_off, bI_off, sL_off, bL_off, r1l, r2l, rb1l, rb2l, r1m, r2m, rb1e, rb2e,r1e]
      case fm =>
        refine ⟨?_, ?_, fun q_ ha_ hb_ => ?_⟩
        all_goals
          simp (disch := omega) only [sI_off, bI_off, sL_off, bL_off, r1l, r2l, rb1l, rb2l, r1m, r2m, rb1e, rb2e,r1e]
      case rels =>
        refine ⟨by simp (disch := omega) only [sI_off, bI_off, sL_off, bL_off, r1l, r2l, rb1l, rb2l, r1m, r2m, rb1e, rb2e, r1e]; exact s1_, by simp (disch := omega) only [sI_off, bI_off, sL_off, bL_off, r1l, r2l, rb1l, rb2l, r1m, r2m, rb1e, rb2e, r1e]; exact s2_, by simp (disch := omega) only [sI_off, bI_off, sL_off, bL_off, r1l, r2l, rb1l, rb2l, r1m, r2m, rb1e, rb2e, r1e]; exact s3_, s4_, fun _ => by simp (disch := omega) only [sI_off, bI_off, sL_off, bL_off, r1l, r2l, rb1l, rb2l, r1m, r2m, rb1e, rb2e, r1e]; exact s5_, by simp (disch := omega) only [sI_off, bI_off, sL_off, bL_off, r1l, r2l, rb1l, rb2l, r1m, r2m, rb1e, rb2e, r1e]; exact s6_, by simp (disch := omega) only [sI_off, bI_off, sL_off, bL_off, r1l, r2l, rb1l, rb2l, r1m, r2m, rb1e, rb2e, r1e]; exact s7_, fun i_ hb_ hz_ => ?_, fun i_ hb_ => ?_, fun i_ hb_ => ?_⟩
        · by_cases hia_ : i_ = a_
          · rw [hia_]; simp (disch := omega) only [sI_off, bI_off, sL_off, bL_off, r1l, r2l, rb1l, rb2l, r1m, r2m, rb1e, rb2e, r1e]
          · simp (disch := omega) only [r1m, sI_off] at hz_; simp (disch := omega) only [sI_off, bI_off, sL_off, bL_off, r1l, r2l, rb1l, rb2l, r1m, r2m, rb1e, rb2e, r1e]; exact s8_ i_ hb_ hz_
        · by_cases hia_ : i_ = a_
          · rw [hia_]; simp (disch := omega) only [sI_off, bI_off, sL_off, bL_off, r1l, r2l, rb1l, rb2l, r1m, r2m, rb1e, rb2e, r1e]
          · simp (disch := omega) only [sI_off, bI_off, sL_off, bL_off, r1l, r2l, rb1l, rb2l, r1m, r2m, rb1e, rb2e, r1e]; exact s9_ i_ hb_
        · by_cases hia_ : i_ = a_
          · rw [hia_]; simp (disch := omega) only [sI_off, bI_off, sL_off, bL_off, r1l, r2l, rb1l, rb2l, r1m, r2m, rb1e, rb2e, r1e]; exact Or.inr (Or.inl rfl)
          · simp (disch := omega) only [sI_off, bI_off, sL_off, bL_off, r1l, r2l, rb1l, rb2l, r1m, r2m, rb1e, rb2e, r1e]; exact s10_ i_ hb_
    · skip
      refine wa_if_neF 32 dX5_put_26 (by decide) (by decide) ?_
      refine wa_bipush (-14) dX5_put_29 (by decide) ?_
      refine wa_iret dX5_put_31 rfl ?_
      rw [hk_, hi_]
      refine MW_of (by decide) [some (.ref 73), some (.int (nI j_)), some (.int (nI a_)), some (.int v), none] rfl (Nat.le_of_ble_eq_true rfl) ?_
      refine wa_aload_n dX6_put_0 rfl ?_
      refine wa_iload_n dX6_put_1 rfl ?_
      refine wa_callV1 (k' := kX6_noSheet) (d' := 1) dX6_put_2 lmX6_66 kvX6_noSheet (by first | assumption | rfl) (by rfl) (by decide) (by omega) (Nat.le_of_ble_eq_true rfl) ?_
      refine noSh_F (by omega) hj_ (s5_.trans h_) ?_
      refine wa_istore dX6_put_5 (by decide) ?_
      refine wa_iload dX6_put_7 rfl ?_
      refine wa_if_geT 15 dX6_put_9 (by decide) (by decide) ?_
      refine wa_iload_n dX6_put_15 rfl ?_
      refine wa_i2l dX6_put_16 ?_
      refine wa_lconst (0) dX6_put_17 (by decide) ?_
      refine wa_aload_n dX6_put_18 rfl ?_
      refine wa_getR dX6_put_19 fgX6_17 (by first | assumption | rfl) (by rfl) ?_
      refine wa_iload_n dX6_put_22 rfl ?_
      refine wa_iald _ dX6_put_23 (by first | assumption | rfl) (by first | with_reducible rfl | with_reducible assumption | with_reducible exact ix_ma _ _ _ | with_reducible exact ix_maa _ _ _ _ | with_reducible exact ix_a _ _ | with_reducible exact ix_mama _ _ _ _ _) (by omega) ?_
      refine wa_iconst (nI 1) dX6_put_24 (by decide) ?_
      refine wa_isub dX6_put_25 ?_
      refine wa_i2l dX6_put_26 ?_
      refine wa_callS3 (k' := kX6_in) (d' := 0) dX6_put_27 lmX6_60 ksX6_in (by decide) (by omega) (Nat.le_of_ble_eq_true rfl) ?_
      refine in_1 (by simp (disch := omega) only [s7_, Int32.toInt_toInt64, pm1, nI_toInt, z64]; omega) ?_
      refine wa_if_neT 36 dX6_put_30 (by decide) (by decide) ?_
      refine wa_aload_n dX6_put_36 rfl ?_
      refine wa_getR dX6_put_37 fgX6_13 (by first | assumption | rfl) (by rfl) ?_
      refine wa_iload_n dX6_put_40 rfl ?_
      refine wa_iald _ dX6_put_41 (by first | assumption | rfl) (by first | with_reducible rfl | with_reducible assumption | with_reducible exact ix_ma _ _ _ | with_reducible exact ix_maa _ _ _ _ | with_reducible exact ix_a _ _ | with_reducible exact ix_mama _ _ _ _ _) (by omega) ?_
      refine wa_iload_n dX6_put_42 rfl ?_
      refine wa_callS2 (k' := kX6_fits) (d' := 1) dX6_put_43 lmX6_78 ksX6_fits (by decide) (by omega) (Nat.le_of_ble_eq_true rfl) ?_
      refine wp_X6_fits (by omega) (by rw [s6_]; exact s2_) (fun hg_ => absurd (by rw [← s6_]; exact hg_) hf_) (fun hg_ => ?_)
      refine wa_if_neF 52 dX6_put_46 (by decide) (by decide) ?_
      refine wa_bipush (-14) dX6_put_49 (by decide) ?_
      refine wa_iret dX6_put_51 rfl ?_
      exact ⟨rfl, hrel.up⟩
