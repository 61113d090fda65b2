/-! PAIRS: counts, part, mix, raise, sheet -/
theorem nzN_z {f : Nat → Int32} {a : Nat} : ∀ {b : Nat}, a ≤ b → (∀ p, a ≤ p → p < b → f p = nI 0) → nzN f b = nzN f a
  | 0, h, _ => by
    obtain rfl : a = 0 := by omega
    rfl
  | b + 1, h, q => by
    by_cases hb : a = b + 1
    · rw [hb]
    · rw [nzN, q b (by omega) (by omega), if_pos (by decide)]
      exact nzN_z (by omega) (fun p h1 h2 => q p h1 (by omega))
theorem cV_eq {N n : Nat} {μ : Mem} (hrel : Rel N μ) (hp : RelP μ n) {w : Nat} (hw : w < 10) : cVm μ (pkN n) w = cVc μ n w := by
  obtain ⟨x_, c_, a_, q1_, q2_, q3_, q4_, w1_, w2_, w3_, w4_, w5_, w6_, w7_, w8_, w9_, w10_⟩ := hrel.2.2.2.1
  obtain ⟨p_, o_, l1_, l2_, b0_, b1_, b2_, b3_, m18_, m19_, m20_, m21_, n54_, n22_, n55_, n23_, x6_, x7_, x8_, x9_⟩ := hrel.2.2.2.2
  obtain ⟨k1_, k2_, k3_, k4_, k0_, k5_, k6_, k7_, k8_⟩ := hp
  have hh : w = 0 ∨ w = 1 ∨ w = 2 ∨ w = 3 ∨ w = 4 ∨ w = 5 ∨ w = 6 ∨ w = 7 ∨ w = 8 ∨ w = 9 := by omega
  rcases hh with rfl | rfl | rfl | rfl | rfl | rfl | rfl | rfl | rfl | rfl
  · simp only [cVm, cVc]
    rw [thN_c (f := μ.1 74) (g := fun j => μ.1 (7 + 4 * j) 0) (fun j hj => by
      obtain ⟨n, s1, s2, s3, s4, s5, _⟩ := hrel.1 j (by omega)
      exact s5 hj)]
  · simp only [cVm, cVc]
  · simp only [cVm, cVc]
    rw [nzN_z (pkN_le k2_) k8_, nzN_c k6_]
  · simp only [cVm, cVc]
    rw [w5_, w6_]
  · simp only [cVm, cVc]
    rw [w7_, w8_]
  · simp only [cVm, cVc]
    rw [w4_]
  · simp only [cVm, cVc]
    rw [n54_, n22_]
  · simp only [cVm, cVc]
    rw [n55_, n23_]
  · simp only [cVm, cVc]
    rw [n54_, n22_, x6_, x7_]
  · simp only [cVm, cVc]
    rw [n54_, n22_, x8_, x9_]
theorem pr_count (w : Int32) : PR kX5_count kX6_count [.int w] := by
  intro N μ d c hd hc hN hrel
  obtain ⟨n_, hp_⟩ := hrel.2.2.1
  by_cases hw_ : 0 ≤ w.toInt ∧ w.toInt < 10
  · obtain ⟨w_, hw2_, hpw_⟩ := nI_ex (x := w) (n := 10) (by omega) (by omega) (by omega)
    rw [hpw_]
    refine wp_X5_count (n8 := n_) (by omega) hrel.th hp_.1 hp_.2.1 hw2_ ?_
    exact wp_X6_count (pk := pkN n_) hp_.2.2.2.2.2.1 (pkN_le hp_.2.1) hw2_ ⟨by rw [cV_eq hrel hp_ hw2_], hrel.up⟩
  · skip
    refine MW_of (by decide) [some (.ref 0), some (.int w)] rfl (Nat.le_of_ble_eq_true rfl) ?_
    refine wa_iload_n dX5_count_0 rfl ?_
    refine wa_tsO 133 dX5_count_1 (by omega) (by decide) ?_
    refine wa_bipush (-2) dX5_count_133 (by decide) ?_
    refine wa_iret dX5_count_135 rfl ?_
    skip
    refine MW_of (by decide) [some (.ref 73), some (.int w), none, none] rfl (Nat.le_of_ble_eq_true rfl) ?_
    refine wa_iconst (nI 0) dX6_count_0 (by decide) ?_
    refine wa_istore_n dX6_count_1 (by decide) ?_
    refine wa_iload_n dX6_count_2 rfl ?_
    refine wa_tsO 196 dX6_count_3 (by omega) (by decide) ?_
    refine wa_bipush (-2) dX6_count_196 (by decide) ?_
    refine wa_iret dX6_count_198 rfl ?_
    exact ⟨rfl, hrel.up⟩
theorem rwF_k {g old : Nat → Int64} {r i : Nat} (h : g i = old (64 * r + i)) : rwF g old r i = rwF g old r (i + 1) := by
  funext q
  simp only [rwF]
  by_cases hq : q = 64 * r + i
  · rw [if_neg (by omega), if_pos (by omega), hq, ← h, show 64 * r + i - 64 * r = i by omega]
  · congr 1
    exact propext ⟨fun q => by omega, fun q => by omega⟩
theorem wa_part {d r n : Nat} {a b : Int32} {v : Nat → Int64} {μ : Mem} {Q : QM} (hr : r < 6) (hn : μ.1 79 r = nI n) (hn64 : n ≤ 64) (hv : ∀ i, μ.2 80 (64 * r + i) = v i) (hQ : Q (some (.int (nI (kpN a.toInt b.toInt v n)))) (bL μ 80 (rwF (kpF a.toInt b.toInt v n) (μ.2 80) r n))) : WA kX6_part d Q 19 [some (.ref 73), some (.int (nI r)), some (.int a), some (.int b), none, none] [] μ := by
  have loop : ∀ m i, i + m = n → WA kX6_part d Q 25 [some (.ref 73), some (.int (nI r)), some (.int a), some (.int b), some (.int (nI (kpN a.toInt b.toInt v i))), some (.int (nI i))] [] (bL μ 80 (rwF (kpF a.toInt b.toInt v n) (μ.2 80) r i)) := by
    intro m
    induction m with
    | zero =>
      intro i hi
      obtain rfl : i = n := by omega
      refine wa_iload dX6_part_25 rfl ?_
      refine wa_aload_n dX6_part_27 rfl ?_
      refine wa_getR dX6_part_28 fgX6_26 (by first | assumption | rfl) (by rfl) ?_
      refine wa_iload_n dX6_part_31 rfl ?_
      refine wa_iald _ dX6_part_32 (by first | assumption | rfl) (by first | with_reducible rfl | with_reducible assumption | with_reducible exact ix_ma _ _ _ | with_reducible exact ix_maa _ _ _ _ | with_reducible exact ix_a _ _ | with_reducible exact ix_mama _ _ _ _ _) (by omega) ?_
      refine wa_ic_geT 94 dX6_part_33 (by decide) (by rw [rb2l, hn]; exact le_nI (by omega) (by omega)) ?_
      refine wa_iload dX6_part_94 rfl ?_
      refine wa_iret dX6_part_96 rfl ?_
      exact hQ
    | succ m ih =>
      intro i hi
      have e_ := ih (i + 1) (by omega)
      have ev : rwF (kpF a.toInt b.toInt v n) (μ.2 80) r i (64 * r + i) = v i := by
        rw [rwF_no (by omega), hv]
      have K : kOut a.toInt b.toInt i = true → WA kX6_part d Q 48 [some (.ref 73), some (.int (nI r)), some (.int a), some (.int b), some (.int (nI (kpN a.toInt b.toInt v i))), some (.int (nI i))] [] (bL μ 80 (rwF (kpF a.toInt b.toInt v n) (μ.2 80) r i)) := by
        intro hk
        have eg : kpF a.toInt b.toInt v n i = 0 := by
          rw [kpF, if_pos ⟨by omega, hk⟩]
        have e2 := rwF_s (kpF a.toInt b.toInt v n) (μ.2 80) r i
        rw [eg] at e2
        refine wa_iload dX6_part_48 rfl ?_
        refine wa_aload_n dX6_part_50 rfl ?_
        refine wa_getR dX6_part_51 fgX6_29 (by first | assumption | rfl) (by rfl) ?_
        refine wa_bipush (nI 64) dX6_part_54 (by decide) ?_
        refine wa_iload_n dX6_part_56 rfl ?_
        refine wa_imul dX6_part_57 ?_
        refine wa_iload dX6_part_58 rfl ?_
        refine wa_iadd dX6_part_60 ?_
        refine wa_lald _ dX6_part_61 (by first | assumption | rfl) (by first | with_reducible rfl | with_reducible assumption | with_reducible exact ix_ma _ _ _ | with_reducible exact ix_maa _ _ _ _ | with_reducible exact ix_a _ _ | with_reducible exact ix_mama _ _ _ _ _) (by omega) ?_
        refine wa_lconst (0) dX6_part_62 (by decide) ?_
        refine wa_lc_eq 71 dX6_part_63 dX6_part_64 (by decide) (fun c63_1 => ?_) (fun c63_1 => ?_)
        · try simp (disch := omega) only [nI_toInt, Int32.toInt_toInt64, rb2e, ev, z64] at c63_1
          refine wa_iconst (nI 0) dX6_part_71 (by decide) ?_
          refine wa_iadd dX6_part_72 ?_
          refine wa_istore dX6_part_73 (by decide) ?_
          refine wa_aload_n dX6_part_75 rfl ?_
          refine wa_getR dX6_part_76 fgX6_29 (by first | assumption | rfl) (by rfl) ?_
          refine wa_bipush (nI 64) dX6_part_79 (by decide) ?_
          refine wa_iload_n dX6_part_81 rfl ?_
          refine wa_imul dX6_part_82 ?_
          refine wa_iload dX6_part_83 rfl ?_
          refine wa_iadd dX6_part_85 ?_
          refine wa_lconst (0) dX6_part_86 (by decide) ?_
          refine wa_last _ dX6_part_87 (by first | assumption | rfl) (by first | with_reducible rfl | with_reducible assumption | with_reducible exact ix_ma _ _ _ | with_reducible exact ix_maa _ _ _ _ | with_reducible exact ix_a _ _ | with_reducible exact ix_mama _ _ _ _ _) (by omega) ?_
          refine wa_iinc (nI 1) dX6_part_88 rfl (by decide) (by decide) ?_
          refine wa_goto 25 dX6_part_91 (by decide) ?_
          rw [kpN, if_neg (fun q => q.2 (by assumption))] at e_
          rw [sLb, e2]
          simp only [nI_add]
          exact e_
        · try simp (disch := omega) only [nI_toInt, Int32.toInt_toInt64, rb2e, ev, z64] at c63_1
          refine wa_iconst (nI 1) dX6_part_67 (by decide) ?_
          refine wa_goto 72 dX6_part_68 (by decide) ?_
          refine wa_iadd dX6_part_72 ?_
          refine wa_istore dX6_part_73 (by decide) ?_
          refine wa_aload_n dX6_part_75 rfl ?_
          refine wa_getR dX6_part_76 fgX6_29 (by first | assumption | rfl) (by rfl) ?_
          refine wa_bipush (nI 64) dX6_part_79 (by decide) ?_
          refine wa_iload_n dX6_part_81 rfl ?_
          refine wa_imul dX6_part_82 ?_
          refine wa_iload dX6_part_83 rfl ?_
          refine wa_iadd dX6_part_85 ?_
          refine wa_lconst (0) dX6_part_86 (by decide) ?_
          refine wa_last _ dX6_part_87 (by first | assumption | rfl) (by first | with_reducible rfl | with_reducible assumption | with_reducible exact ix_ma _ _ _ | with_reducible exact ix_maa _ _ _ _ | with_reducible exact ix_a _ _ | with_reducible exact ix_mama _ _ _ _ _) (by omega) ?_
          refine wa_iinc (nI 1) dX6_part_88 rfl (by decide) (by decide) ?_
          refine wa_goto 25 dX6_part_91 (by decide) ?_
          rw [kpN, if_pos ⟨hk, by assumption⟩] at e_
          rw [sLb, e2]
          simp only [nI_add]
          exact e_
      refine wa_iload dX6_part_25 rfl ?_
      refine wa_aload_n dX6_part_27 rfl ?_
      refine wa_getR dX6_part_28 fgX6_26 (by first | assumption | rfl) (by rfl) ?_
      refine wa_iload_n dX6_part_31 rfl ?_
      refine wa_iald _ dX6_part_32 (by first | assumption | rfl) (by first | with_reducible rfl | with_reducible assumption | with_reducible exact ix_ma _ _ _ | with_reducible exact ix_maa _ _ _ _ | with_reducible exact ix_a _ _ | with_reducible exact ix_mama _ _ _ _ _) (by omega) ?_
      refine wa_ic_geF 94 dX6_part_33 (by decide) (by rw [rb2l, hn]; exact nle_nI (by omega) (by omega)) ?_
      refine wa_iload dX6_part_36 rfl ?_
      refine wa_iload_n dX6_part_38 rfl ?_
      refine wa_ic_lt 48 dX6_part_39 (by decide) (fun c39_1 => ?_) (fun c39_1 => ?_)
      · try simp (disch := omega) only [nI_toInt, Int32.toInt_toInt64] at c39_1
        exact K (decide_eq_true (by omega))
      · try simp (disch := omega) only [nI_toInt, Int32.toInt_toInt64] at c39_1
        refine wa_iload dX6_part_42 rfl ?_
        refine wa_iload_n dX6_part_44 rfl ?_
        refine wa_ic_le 88 dX6_part_45 (by decide) (fun c45_2 => ?_) (fun c45_2 => ?_)
        · try simp (disch := omega) only [nI_toInt, Int32.toInt_toInt64] at c45_2
          refine wa_iinc (nI 1) dX6_part_88 rfl (by decide) (by decide) ?_
          refine wa_goto 25 dX6_part_91 (by decide) ?_
          have hk : ¬ kOut a.toInt b.toInt i = true := fun q => by
            have := of_decide_eq_true q
            omega
          rw [kpN, if_neg (fun q => hk q.1), ← rwF_k (by rw [kpF, if_neg (fun q => hk q.2), hv])] at e_
          simp only [nI_add]
          exact e_
        · try simp (disch := omega) only [nI_toInt, Int32.toInt_toInt64] at c45_2
          exact K (decide_eq_true (by omega))
  have e0 := loop n 0 (by omega)
  rw [rwF_0, bL_self] at e0
  refine wa_iconst (nI 0) dX6_part_19 (by decide) ?_
  refine wa_istore dX6_part_20 (by decide) ?_
  refine wa_iconst (nI 0) dX6_part_22 (by decide) ?_
  refine wa_istore dX6_part_23 (by decide) ?_
  exact e0
theorem kpN_c {a b : Int} {f g : Nat → Int64} : ∀ {n : Nat}, (∀ i, i < n → f i = g i) → kpN a b f n = kpN a b g n
  | 0, _ => rfl
  | n + 1, h => by rw [kpN, kpN, kpN_c (fun i hi => h i (by omega)), h n (by omega)]
theorem kpF_c {a b : Int} {f g : Nat → Int64} {n i : Nat} (h : f i = g i) : kpF a b f n i = kpF a b g n i := by
  rw [kpF, kpF, h]
theorem pr_part (k a b : Int32) : PR kX5_part kX6_part [.int k, .int a, .int b] := by
  intro N μ d c hd hc hN hrel
  refine MW_of (by decide) [some (.ref 0), some (.int k), some (.int a), some (.int b)] rfl (Nat.le_of_ble_eq_true rfl) ?_
  refine wa_iload_n dX5_part_0 rfl ?_
  refine wa_iload_n dX5_part_1 rfl ?_
  refine wa_iload_n dX5_part_2 rfl ?_
  refine wa_callS3 (k' := kX5_isStretch) (d' := 1) dX5_part_3 lmX5_133 ksX5_isStretch (by decide) (by omega) (Nat.le_of_ble_eq_true rfl) ?_
  refine wp_X5_isStretch (by omega) (fun r_ hr_ hk_ h0_ hab_ => ?_) (fun hoob => ?_)
  · skip
    obtain ⟨n_, s1_, s2_, s3_, s4_, s5_⟩ := hrel.2.1 r_ (by omega)
    refine wa_if_neT 12 dX5_part_6 (by decide) (by decide) ?_
    refine wa_aload_n dX5_part_12 rfl ?_
    refine wa_getR dX5_part_13 fgX5_18 (by first | assumption | rfl) (by rfl) ?_
    refine wa_iload_n dX5_part_16 rfl ?_
    refine wa_aalR _ dX5_part_17 (by first | assumption | rfl) (by exact hk_) (by omega) ?_
    rw [show arf 2 r_ = 43 + 5 * r_ from rfl]; have hR_ := isR_k (show r_ < 6 by omega); have hsh_ := (isR_sh hR_).1
    refine wa_iload_n dX5_part_18 rfl ?_
    refine wa_iload_n dX5_part_19 rfl ?_
    refine wa_callV2 (k' := kX2_keepOnly) (d' := 0) dX5_part_20 lmX5_137 kvX2_keepOnly (by first | assumption | rfl) (by rfl) (by decide) (by omega) (Nat.le_of_ble_eq_true rfl) ?_
    refine wp_X2_keepOnly (n := n_) hR_ s1_ s2_ ?_
    refine wa_iret dX5_part_23 rfl ?_
    rw [hk_]
    refine MW_of (by decide) [some (.ref 73), some (.int (nI r_)), some (.int a), some (.int b), none, none] rfl (Nat.le_of_ble_eq_true rfl) ?_
    refine wa_iload_n dX6_part_0 rfl ?_
    refine wa_callS1 (k' := kX6_isRow) (d' := 1) dX6_part_1 lmX6_100 ksX6_isRow (by decide) (by omega) (Nat.le_of_ble_eq_true rfl) ?_
    refine isRo_1 (by omega) hr_ ?_
    refine wa_if_eqF 16 dX6_part_4 (by decide) (by decide) ?_
    refine wa_iload_n dX6_part_7 rfl ?_
    refine wa_if_ltF 16 dX6_part_8 (by decide) (by omega) ?_
    refine wa_iload_n dX6_part_11 rfl ?_
    refine wa_iload_n dX6_part_12 rfl ?_
    refine wa_ic_geT 19 dX6_part_13 (by decide) (by omega) ?_
    refine wa_part (n := n_) (v := mN μ r_) hr_ s3_ s2_ (fun i => by simp (disch := omega) only [sI_off, bI_off, sL_off, bL_off, r1l, r2l, rb1l, rb2l, r1m, r2m, rb1e, rb2e, r1e, r2e]; rfl) ⟨by rw [kpN_c (f := mN μ r_) s4_], ?_⟩
    refine Rel_R (k := r_) (n := n_) hrel ?relr ?fs ?fr ?fp ?fw ?fm
    case fs =>
      intro j_ hj_
      refine ⟨?_, ?_, ?_, ?_, ?_, ?_, fun i_ hi_ => ?_, fun i_ hi_ => ?_⟩
      all_goals
        simp (disch := omega) only [sI_off, bI_off, sL_off, bL_off, r1l, r2l, rb1l, rb2l, r1m, r2m, rb1e, rb2e,rwF_no]
    case fr =>
      intro r_ hr_ hrk_
      refine ⟨?_, ?_, ?_, fun i_ hi_ => ?_⟩
      all_goals
        simp (disch := omega) only [sI_off, bI_off, sL_off, bL_off, r1l, r2l, rb1l, rb2l, r1m, r2m, rb1e, rb2e,rwF_no]
    case fp =>
      refine ⟨?_, ?_, ?_, ?_, ?_⟩
      all_goals
        simp (disch := omega) only [sI_off, bI_off, sL_off, bL_off, r1l, r2l, rb1l, rb2l, r1m, r2m, rb1e, rb2e,rwF_no]
    case fw =>
      refine ⟨?_, fun q_ ha_ hb_ => ?_⟩
      all_goals
        simp (disch := omega) only [sI_off, bI_off, sL_off, bL_off, r1l, r2l, rb1l, rb2l, r1m, r2m, rb1e, rb2e,rwF_no]
    case fm =>
      refine ⟨?_, ?_, fun q_ ha_ hb_ => ?_⟩
      all_goals
        simp (disch := omega) only [sI_off, bI_off, sL_off, bL_off, r1l, r2l, rb1l, rb2l, r1m, r2m, rb1e, rb2e,rwF_no]
    case relr =>
      refine ⟨by simp (disch := omega) only [sI_off, bI_off, sL_off, bL_off, r1l, r2l, rb1l, rb2l, r1m, r2m, rb1e, rb2e, r1e, r2e]; exact s1_, s2_, by simp (disch := omega) only [sI_off, bI_off, sL_off, bL_off, r1l, r2l, rb1l, rb2l, r1m, r2m, rb1e, rb2e, r1e, r2e]; exact s3_, fun i_ hi_ => ?_, ?_⟩
      · simp (disch := omega) only [sI_off, bI_off, sL_off, bL_off, r1l, r2l, rb1l, rb2l, r1m, r2m, rb1e, rb2e, r1e, r2e]
        rw [rwF_at hi_]
        exact kpF_c (s4_ i_ hi_)
      · simp (disch := omega) only [sI_off, bI_off, sL_off, bL_off, r1l, r2l, rb1l, rb2l, r1m, r2m, rb1e, rb2e, r1e, r2e]
        intro i_ hi_
        unfold kpF
        split
        · rw [z64]; omega
        · exact s5_ i_ hi_
  · skip
    refine wa_if_neF 12 dX5_part_6 (by decide) (by decide) ?_
    refine wa_bipush (-2) dX5_part_9 (by decide) ?_
    refine wa_iret dX5_part_11 rfl ?_
    by_cases hoob2 : oob k 6
    · skip
      refine MW_of (by decide) [some (.ref 73), some (.int k), some (.int a), some (.int b), none, none] rfl (Nat.le_of_ble_eq_true rfl) ?_
      refine wa_iload_n dX6_part_0 rfl ?_
      refine wa_callS1 (k' := kX6_isRow) (d' := 1) dX6_part_1 lmX6_100 ksX6_isRow (by decide) (by omega) (Nat.le_of_ble_eq_true rfl) ?_
      refine isRo_0 (by omega) hoob2 ?_
      refine wa_if_eqT 16 dX6_part_4 (by decide) (by decide) ?_
      refine wa_bipush (-2) dX6_part_16 (by decide) ?_
      refine wa_iret dX6_part_18 rfl ?_
      exact ⟨rfl, hrel.up⟩
    · obtain ⟨r_, hr_, hk_⟩ := nI_ex (x := k) (n := 6) (by unfold oob at hoob2; omega) (by unfold oob at hoob2; omega) (by omega)
      rw [hk_]
      have hoob3 := hoob.resolve_left hoob2
      refine MW_of (by decide) [some (.ref 73), some (.int (nI r_)), some (.int a), some (.int b), none, none] rfl (Nat.le_of_ble_eq_true rfl) ?_
      refine wa_iload_n dX6_part_0 rfl ?_
      refine wa_callS1 (k' := kX6_isRow) (d' := 1) dX6_part_1 lmX6_100 ksX6_isRow (by decide) (by omega) (Nat.le_of_ble_eq_true rfl) ?_
      refine isRo_1 (by omega) hr_ ?_
      refine wa_if_eqF 16 dX6_part_4 (by decide) (by decide) ?_
      refine wa_iload_n dX6_part_7 rfl ?_
      refine wa_if_lt 16 dX6_part_8 (by decide) (fun c8_2 => ?_) (fun c8_2 => ?_)
      · try simp (disch := omega) only [nI_toInt, Int32.toInt_toInt64, not_true_eq_false] at c8_2
        try (exfalso; omega)
        all_goals
          skip
          refine wa_bipush (-2) dX6_part_16 (by decide) ?_
          refine wa_iret dX6_part_18 rfl ?_
          exact ⟨rfl, hrel.up⟩
      · try simp (disch := omega) only [nI_toInt, Int32.toInt_toInt64, not_true_eq_false] at c8_2
        try (exfalso; omega)
        all_goals
          skip
          refine wa_iload_n dX6_part_11 rfl ?_
          refine wa_iload_n dX6_part_12 rfl ?_
          refine wa_ic_ge 19 dX6_part_13 (by decide) (fun c13_3 => ?_) (fun c13_3 => ?_)
          · try simp (disch := omega) only [nI_toInt, Int32.toInt_toInt64, not_true_eq_false] at c13_3
            try (exfalso; omega)
            all_goals
              skip
              skip
          · try simp (disch := omega) only [nI_toInt, Int32.toInt_toInt64, not_true_eq_false] at c13_3
            try (exfalso; omega)
            all_goals
              skip
              refine wa_bipush (-2) dX6_part_16 (by decide) ?_
              refine wa_iret dX6_part_18 rfl ?_
              exact ⟨rfl, hrel.up⟩
