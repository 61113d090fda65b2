/-! PAIRS: sums of a row and of two, turns -/
theorem nI_nn {x : Int32} (h : 0 ≤ x.toInt) : ∃ m, m < 2 ^ 31 ∧ x = nI m := by
  have := x.toInt_lt
  refine ⟨x.toInt.toNat, by omega, ?_⟩
  apply Int32.toInt_inj.mp
  rw [nI_toInt (by omega)]
  omega
theorem excB_c {f g : Nat → Int64} {a n : Nat} {b B : Int} (h : ∀ i, i < n → f i = g i) (q : excB f a n b B) : excB g a n b B := fun j h1 h2 h3 => by
  rw [← h j h2]
  exact q j h1 h2 h3
theorem inB_c {f g : Nat → Int64} {n : Nat} {B : Int} (h : ∀ i, i < n → f i = g i) (q : inB f n B) : inB g n B := fun j h1 => by
  rw [← h j h1]
  exact q j h1
theorem sqF_c {f g : Nat → Int64} {b : Int} {n : Nat} (h : ∀ i, i < n → f i = g i) : ∀ m i acc, sqF f b n m i acc = sqF g b n m i acc
  | 0, _, _ => rfl
  | m + 1, i, acc => by
    rw [sqF, sqF]
    by_cases hi : i < n ∧ (i : Int) ≤ b
    · rw [if_pos hi, if_pos hi, sqF_c h m, h i hi.1]
    · rw [if_neg hi, if_neg hi]
theorem prS_c {f g f2 g2 : Nat → Int64} : ∀ {n : Nat}, (∀ i, i < n → f i = g i) → (∀ i, i < n → f2 i = g2 i) → prS f f2 n = prS g g2 n
  | 0, _, _ => rfl
  | n + 1, h, h2 => by rw [prS, prS, prS_c (fun i hi => h i (by omega)) (fun i hi => h2 i (by omega)), h n (by omega), h2 n (by omega)]
theorem pr_force (k a b : Int32) : PR kX5_force kX6_force [.int k, .int a, .int b] := by
  intro N μ d c hd hc hN hrel
  refine MW_of (by decide) [some (.ref 0), some (.int k), some (.int a), some (.int b)] rfl (Nat.le_of_ble_eq_true rfl) ?_
  refine wa_iload_n dX5_force_0 rfl ?_
  refine wa_iload_n dX5_force_1 rfl ?_
  refine wa_iload_n dX5_force_2 rfl ?_
  refine wa_callS3 (k' := kX5_isStretch) (d' := 1) dX5_force_3 lmX5_133 ksX5_isStretch (by decide) (by omega) (Nat.le_of_ble_eq_true rfl) ?_
  refine wp_X5_isStretch (by omega) (fun r_ hr_ hk_ h0_ hab_ => ?_) (fun hoob => ?_)
  · skip
    obtain ⟨n_, s1_, s2_, s3_, s4_, s5_⟩ := hrel.2.1 r_ (by omega); obtain ⟨a_, ha_, hpa_⟩ := nI_nn h0_; subst hpa_
    refine wa_if_neT 13 dX5_force_6 (by decide) (by decide) ?_
    refine wa_aload_n dX5_force_13 rfl ?_
    refine wa_getR dX5_force_14 fgX5_18 (by first | assumption | rfl) (by rfl) ?_
    refine wa_iload_n dX5_force_17 rfl ?_
    refine wa_aalR _ dX5_force_18 (by first | assumption | rfl) (by exact hk_) (by omega) ?_
    rw [show arf 2 r_ = 43 + 5 * r_ from rfl]; have hR_ := isR_k (show r_ < 6 by omega); have hsh_ := (isR_sh hR_).1
    refine wa_ldc2 (200000000) dX5_force_19 lcX5_150 ?_
    refine wa_iload_n dX5_force_22 rfl ?_
    refine wa_iload_n dX5_force_23 rfl ?_
    refine wa_callV3 (k' := kX2_exceeds) (d' := 1) dX5_force_24 lmX5_152 kvX2_exceeds (by first | assumption | rfl) (by rfl) (by decide) (by omega) (Nat.le_of_ble_eq_true rfl) ?_
    refine wp_X2_exceeds (a := a_) (n := n_) hR_ (by omega) s1_ s2_ k2e8 ha_ (fun hx_ => ?_) (fun hx_ => ?_)
    · skip
      refine wa_if_eqF 34 dX5_force_27 (by decide) (by decide) ?_
      refine wa_ldc2 (-5000000000000000016) dX5_force_30 lcX5_156 ?_
      refine wa_lret dX5_force_33 rfl ?_
      rw [hk_]
      exact wp_X6_force (n := n_) (by omega) hr_ s3_ s2_ ha_ (by rw [nI_toInt ha_] at hab_; exact hab_) (fun _ => ⟨rfl, hrel.up⟩) (fun q => absurd (excB_c (f := mN μ r_) s4_ q) hx_)
    · skip
      refine wa_if_eqT 34 dX5_force_27 (by decide) (by decide) ?_
      refine wa_aload_n dX5_force_34 rfl ?_
      refine wa_getR dX5_force_35 fgX5_18 (by first | assumption | rfl) (by rfl) ?_
      refine wa_iload_n dX5_force_38 rfl ?_
      refine wa_aalR _ dX5_force_39 (by first | assumption | rfl) (by exact hk_) (by omega) ?_
      rw [show arf 2 r_ = 43 + 5 * r_ from rfl]; have hR_ := isR_k (show r_ < 6 by omega); have hsh_ := (isR_sh hR_).1
      refine wa_iload_n dX5_force_40 rfl ?_
      refine wa_iload_n dX5_force_41 rfl ?_
      refine wa_callV2 (k' := kX2_squares) (d' := 0) dX5_force_42 lmX5_158 kvX2_squares (by first | assumption | rfl) (by rfl) (by decide) (by omega) (Nat.le_of_ble_eq_true rfl) ?_
      refine wp_X2_squares (a := a_) (n := n_) hR_ s1_ s2_ ha_ ?_
      refine wa_lret dX5_force_45 rfl ?_
      rw [hk_]
      exact wp_X6_force (n := n_) (by omega) hr_ s3_ s2_ ha_ (by rw [nI_toInt ha_] at hab_; exact hab_) (fun q => absurd (excB_c (g := mN μ r_) (fun i hi => (s4_ i hi).symm) hx_) q) (fun q => ⟨by rw [sqF_c (f := mN μ r_) s4_], hrel.up⟩)
  · skip
    refine wa_if_neF 13 dX5_force_6 (by decide) (by decide) ?_
    refine wa_ldc2 (-5000000000000000002) dX5_force_9 lcX5_123 ?_
    refine wa_lret dX5_force_12 rfl ?_
    by_cases hoob2 : oob k 6
    · skip
      refine MW_of (by decide) [some (.ref 73), some (.int k), some (.int a), some (.int b), none, none, none, none, none] rfl (Nat.le_of_ble_eq_true rfl) ?_
      refine wa_iload_n dX6_force_0 rfl ?_
      refine wa_callS1 (k' := kX6_isRow) (d' := 1) dX6_force_1 lmX6_100 ksX6_isRow (by decide) (by omega) (Nat.le_of_ble_eq_true rfl) ?_
      refine isRo_0 (by omega) hoob2 ?_
      refine wa_if_eqT 16 dX6_force_4 (by decide) (by decide) ?_
      refine wa_ldc2 (-5000000000000000002) dX6_force_16 lcX6_104 ?_
      refine wa_lret dX6_force_19 rfl ?_
      exact ⟨rfl, hrel.up⟩
    · obtain ⟨r_, hr_, hk_⟩ := nI_ex (x := k) (n := 6) (by unfold oob at hoob2; omega) (by unfold oob at hoob2; omega) (by omega)
      rw [hk_]
      have hoob3 := hoob.resolve_left hoob2
      refine MW_of (by decide) [some (.ref 73), some (.int (nI r_)), some (.int a), some (.int b), none, none, none, none, none] rfl (Nat.le_of_ble_eq_true rfl) ?_
      refine wa_iload_n dX6_force_0 rfl ?_
      refine wa_callS1 (k' := kX6_isRow) (d' := 1) dX6_force_1 lmX6_100 ksX6_isRow (by decide) (by omega) (Nat.le_of_ble_eq_true rfl) ?_
      refine isRo_1 (by omega) hr_ ?_
      refine wa_if_eqF 16 dX6_force_4 (by decide) (by decide) ?_
      refine wa_iload_n dX6_force_7 rfl ?_
      refine wa_if_lt 16 dX6_force_8 (by decide) (fun c8_2 => ?_) (fun c8_2 => ?_)
      · try simp (disch := omega) only [nI_toInt, Int32.toInt_toInt64, not_true_eq_false] at c8_2
        try (exfalso; omega)
        all_goals
          skip
          refine wa_ldc2 (-5000000000000000002) dX6_force_16 lcX6_104 ?_
          refine wa_lret dX6_force_19 rfl ?_
          exact ⟨rfl, hrel.up⟩
      · try simp (disch := omega) only [nI_toInt, Int32.toInt_toInt64, not_true_eq_false] at c8_2
        try (exfalso; omega)
        all_goals
          skip
          refine wa_iload_n dX6_force_11 rfl ?_
          refine wa_iload_n dX6_force_12 rfl ?_
          refine wa_ic_ge 20 dX6_force_13 (by decide) (fun c13_3 => ?_) (fun c13_3 => ?_)
          · try simp (disch := omega) only [nI_toInt, Int32.toInt_toInt64, not_true_eq_false] at c13_3
            try (exfalso; omega)
            all_goals
              skip
              skip
          · try simp (disch := omega) only [nI_toInt, Int32.toInt_toInt64, not_true_eq_false] at c13_3
            try (exfalso; omega)
            all_goals
              skip
              refine wa_ldc2 (-5000000000000000002) dX6_force_16 lcX6_104 ?_
              refine wa_lret dX6_force_19 rfl ?_
              exact ⟨rfl, hrel.up⟩
theorem pr_cross (k e : Int32) : PR kX5_cross kX6_cross [.int k, .int e] := by
  intro N μ d c hd hc hN hrel
  refine MW_of (by decide) [some (.ref 0), some (.int k), some (.int e)] rfl (Nat.le_of_ble_eq_true rfl) ?_
  refine wa_iload_n dX5_cross_0 rfl ?_
  refine wa_callS1 (k' := kX5_isRow) (d' := 0) dX5_cross_1 lmX5_111 ksX5_isRow (by decide) (by omega) (Nat.le_of_ble_eq_true rfl) ?_
  refine wp_X5_isRow (fun r_ hr_ hk_ => ?_) (fun hoob => ?_)
  · skip
    obtain ⟨n_, s1_, s2_, s3_, s4_, s5_⟩ := hrel.2.1 r_ (by omega)
    refine wa_if_eqF 14 dX5_cross_4 (by decide) (by decide) ?_
    refine wa_iload_n dX5_cross_7 rfl ?_
    refine wa_callS1 (k' := kX5_isRow) (d' := 0) dX5_cross_8 lmX5_111 ksX5_isRow (by decide) (by omega) (Nat.le_of_ble_eq_true rfl) ?_
    refine wp_X5_isRow (fun u_ hu_ he_ => ?_) (fun hoob => ?_)
    · skip
      obtain ⟨m_, t1_, t2_, t3_, t4_, t5_⟩ := hrel.2.1 u_ (by omega)
      refine wa_if_neT 18 dX5_cross_11 (by decide) (by decide) ?_
      refine wa_aload_n dX5_cross_18 rfl ?_
      refine wa_getR dX5_cross_19 fgX5_18 (by first | assumption | rfl) (by rfl) ?_
      refine wa_iload_n dX5_cross_22 rfl ?_
      refine wa_aalR _ dX5_cross_23 (by first | assumption | rfl) (by exact hk_) (by omega) ?_
      rw [show arf 2 r_ = 43 + 5 * r_ from rfl]; have hR_ := isR_k (show r_ < 6 by omega); have hsh_ := (isR_sh hR_).1
      refine wa_callV0 (k' := kX2_size) (d' := 0) dX5_cross_24 lmX5_120 kvX2_size (by first | assumption | rfl) (by rfl) (by decide) (by omega) (Nat.le_of_ble_eq_true rfl) ?_
      refine wp_X2_size hR_ ?_
      rw [s1_]
      refine wa_aload_n dX5_cross_27 rfl ?_
      refine wa_getR dX5_cross_28 fgX5_18 (by first | assumption | rfl) (by rfl) ?_
      refine wa_iload_n dX5_cross_31 rfl ?_
      refine wa_aalR _ dX5_cross_32 (by first | assumption | rfl) (by exact he_) (by omega) ?_
      rw [show arf 2 u_ = 43 + 5 * u_ from rfl]; have hU_ := isR_k (show u_ < 6 by omega); have hsu_ := (isR_sh hU_).1
      refine wa_callV0 (k' := kX2_size) (d' := 0) dX5_cross_33 lmX5_120 kvX2_size (by first | assumption | rfl) (by rfl) (by decide) (by omega) (Nat.le_of_ble_eq_true rfl) ?_
      refine wp_X2_size hU_ ?_
      rw [t1_]
      refine wa_ic_eq 43 dX5_cross_36 (by decide) (fun c36_5 => ?_) (fun c36_5 => ?_)
      · try simp (disch := omega) only [nI_toInt, Int32.toInt_toInt64] at c36_5
        refine wa_aload_n dX5_cross_43 rfl ?_
        refine wa_getR dX5_cross_44 fgX5_18 (by first | assumption | rfl) (by rfl) ?_
        refine wa_iload_n dX5_cross_47 rfl ?_
        refine wa_aalR _ dX5_cross_48 (by first | assumption | rfl) (by exact hk_) (by omega) ?_
        rw [show arf 2 r_ = 43 + 5 * r_ from rfl]; have hR_ := isR_k (show r_ < 6 by omega); have hsh_ := (isR_sh hR_).1
        refine wa_ldc2 (200000000) dX5_cross_49 lcX5_150 ?_
        refine wa_callV1 (k' := kX2_anyExceeds) (d' := 2) dX5_cross_52 lmX5_164 kvX2_anyExceeds (by first | assumption | rfl) (by rfl) (by decide) (by omega) (Nat.le_of_ble_eq_true rfl) ?_
        refine wp_X2_anyExceeds (n := n_) hR_ (by omega) s1_ s2_ k2e8 (fun hx_ => ?_) (fun hx_ => ?_)
        · skip
          refine wa_if_neT 73 dX5_cross_55 (by decide) (by decide) ?_
          refine wa_ldc2 (-5000000000000000016) dX5_cross_73 lcX5_156 ?_
          refine wa_lret dX5_cross_76 rfl ?_
          rw [hk_, he_]
          obtain rfl : n_ = m_ := by omega
          exact wp_X6_cross (n := n_) (by omega) hr_ hu_ s3_ t3_ s2_ (fun _ => ⟨rfl, hrel.up⟩) (fun q1 q2 => absurd (inB_c (f := mN μ r_) s4_ q1) hx_)
        · skip
          refine wa_if_neF 73 dX5_cross_55 (by decide) (by decide) ?_
          refine wa_aload_n dX5_cross_58 rfl ?_
          refine wa_getR dX5_cross_59 fgX5_18 (by first | assumption | rfl) (by rfl) ?_
          refine wa_iload_n dX5_cross_62 rfl ?_
          refine wa_aalR _ dX5_cross_63 (by first | assumption | rfl) (by exact he_) (by omega) ?_
          rw [show arf 2 u_ = 43 + 5 * u_ from rfl]; have hU_ := isR_k (show u_ < 6 by omega); have hsu_ := (isR_sh hU_).1
          refine wa_ldc2 (200000000) dX5_cross_64 lcX5_150 ?_
          refine wa_callV1 (k' := kX2_anyExceeds) (d' := 2) dX5_cross_67 lmX5_164 kvX2_anyExceeds (by first | assumption | rfl) (by rfl) (by decide) (by omega) (Nat.le_of_ble_eq_true rfl) ?_
          refine wp_X2_anyExceeds (n := m_) hU_ (by omega) t1_ t2_ k2e8 (fun hy_ => ?_) (fun hy_ => ?_)
          · skip
            refine wa_if_eqF 77 dX5_cross_70 (by decide) (by decide) ?_
            refine wa_ldc2 (-5000000000000000016) dX5_cross_73 lcX5_156 ?_
            refine wa_lret dX5_cross_76 rfl ?_
            rw [hk_, he_]
            obtain rfl : n_ = m_ := by omega
            exact wp_X6_cross (n := n_) (by omega) hr_ hu_ s3_ t3_ s2_ (fun _ => ⟨rfl, hrel.up⟩) (fun q1 q2 => absurd (inB_c (f := mN μ u_) t4_ q2) hy_)
          · skip
            refine wa_if_eqT 77 dX5_cross_70 (by decide) (by decide) ?_
            refine wa_aload_n dX5_cross_77 rfl ?_
            refine wa_getR dX5_cross_78 fgX5_18 (by first | assumption | rfl) (by rfl) ?_
            refine wa_iload_n dX5_cross_81 rfl ?_
            refine wa_aalR _ dX5_cross_82 (by first | assumption | rfl) (by exact hk_) (by omega) ?_
            rw [show arf 2 r_ = 43 + 5 * r_ from rfl]; have hR_ := isR_k (show r_ < 6 by omega); have hsh_ := (isR_sh hR_).1
            refine wa_aload_n dX5_cross_83 rfl ?_
            refine wa_getR dX5_cross_84 fgX5_18 (by first | assumption | rfl) (by rfl) ?_
            refine wa_iload_n dX5_cross_87 rfl ?_
            refine wa_aalR _ dX5_cross_88 (by first | assumption | rfl) (by exact he_) (by omega) ?_
            rw [show arf 2 u_ = 43 + 5 * u_ from rfl]; have hU_ := isR_k (show u_ < 6 by omega); have hsu_ := (isR_sh hU_).1
            refine wa_callV1 (k' := kX2_products) (d' := 0) dX5_cross_89 lmX5_168 kvX2_products (by first | assumption | rfl) (by rfl) (by decide) (by omega) (Nat.le_of_ble_eq_true rfl) ?_
            refine wp_X2_products (n := n_) hR_ hU_ s1_ s2_ ?_
            refine wa_lret dX5_cross_92 rfl ?_
            rw [hk_, he_]
            obtain rfl : n_ = m_ := by omega
            exact wp_X6_cross (n := n_) (by omega) hr_ hu_ s3_ t3_ s2_ (fun q => absurd ⟨inB_c (g := mN μ r_) (fun i hi => (s4_ i hi).symm) hx_, inB_c (g := mN μ u_) (fun i hi => (t4_ i hi).symm) hy_⟩ q) (fun _ _ => ⟨by rw [prS_c (f := mN μ r_) (f2 := mN μ u_) s4_ t4_], hrel.up⟩)
      · try simp (disch := omega) only [nI_toInt, Int32.toInt_toInt64] at c36_5
        refine wa_ldc2 (-5000000000000000003) dX5_cross_39 lcX5_162 ?_
        refine wa_lret dX5_cross_42 rfl ?_
        rw [hk_, he_]
        refine MW_of (by decide) [some (.ref 73), some (.int (nI r_)), some (.int (nI u_)), none, none, none, none, none, none, none] rfl (Nat.le_of_ble_eq_true rfl) ?_
        refine wa_iload_n dX6_cross_0 rfl ?_
        refine wa_callS1 (k' := kX6_isRow) (d' := 1) dX6_cross_1 lmX6_100 ksX6_isRow (by decide) (by omega) (Nat.le_of_ble_eq_true rfl) ?_
        refine isRo_1 (by omega) hr_ ?_
        refine wa_if_eqF 14 dX6_cross_4 (by decide) (by decide) ?_
        refine wa_iload_n dX6_cross_7 rfl ?_
        refine wa_callS1 (k' := kX6_isRow) (d' := 1) dX6_cross_8 lmX6_100 ksX6_isRow (by decide) (by omega) (Nat.le_of_ble_eq_true rfl) ?_
        refine isRo_1 (by omega) hu_ ?_
        refine wa_if_neT 18 dX6_cross_11 (by decide) (by decide) ?_
        refine wa_aload_n dX6_cross_18 rfl ?_
        refine wa_getR dX6_cross_19 fgX6_26 (by first | assumption | rfl) (by rfl) ?_
        refine wa_iload_n dX6_cross_22 rfl ?_
        refine wa_iald _ dX6_cross_23 (by first | assumption | rfl) (by first | with_reducible rfl | with_reducible assumption | with_reducible exact ix_ma _ _ _ | with_reducible exact ix_maa _ _ _ _ | with_reducible exact ix_a _ _ | with_reducible exact ix_mama _ _ _ _ _) (by omega) ?_
        refine wa_aload_n dX6_cross_24 rfl ?_
        refine wa_getR dX6_cross_25 fgX6_26 (by first | assumption | rfl) (by rfl) ?_
        refine wa_iload_n dX6_cross_28 rfl ?_
        refine wa_iald _ dX6_cross_29 (by first | assumption | rfl) (by first | with_reducible rfl | with_reducible assumption | with_reducible exact ix_ma _ _ _ | with_reducible exact ix_maa _ _ _ _ | with_reducible exact ix_a _ _ | with_reducible exact ix_mama _ _ _ _ _) (by omega) ?_
        refine wa_ic_eqF 37 dX6_cross_30 (by decide) (by rw [s3_, t3_, nI_toInt (by omega), nI_toInt (by omega)]; omega) ?_
        refine wa_ldc2 (-5000000000000000003) dX6_cross_33 lcX6_141 ?_
        refine wa_lret dX6_cross_36 rfl ?_
        exact ⟨rfl, hrel.up⟩
    · skip
      refine wa_if_neF 18 dX5_cross_11 (by decide) (by decide) ?_
      refine wa_ldc2 (-5000000000000000002) dX5_cross_14 lcX5_123 ?_
      refine wa_lret dX5_cross_17 rfl ?_
      rw [hk_]
      refine MW_of (by decide) [some (.ref 73), some (.int (nI r_)), some (.int e), none, none, none, none, none, none, none] rfl (Nat.le_of_ble_eq_true rfl) ?_
      refine wa_iload_n dX6_cross_0 rfl ?_
      refine wa_callS1 (k' := kX6_isRow) (d' := 1) dX6_cross_1 lmX6_100 ksX6_isRow (by decide) (by omega) (Nat.le_of_ble_eq_true rfl) ?_
      refine isRo_1 (by omega) hr_ ?_
      refine wa_if_eqF 14 dX6_cross_4 (by decide) (by decide) ?_
      refine wa_iload_n dX6_cross_7 rfl ?_
      refine wa_callS1 (k' := kX6_isRow) (d' := 1) dX6_cross_8 lmX6_100 ksX6_isRow (by decide) (by omega) (Nat.le_of_ble_eq_true rfl) ?_
      refine isRo_0 (by omega) hoob ?_
      refine wa_if_neF 18 dX6_cross_11 (by decide) (by decide) ?_
      refine wa_ldc2 (-5000000000000000002) dX6_cross_14 lcX6_104 ?_
      refine wa_lret dX6_cross_17 rfl ?_
      exact ⟨rfl, hrel.up⟩
  · skip
    refine wa_if_eqT 14 dX5_cross_4 (by decide) (by decide) ?_
    refine wa_ldc2 (-5000000000000000002) dX5_cross_14 lcX5_123 ?_
    refine wa_lret dX5_cross_17 rfl ?_
    skip
    refine MW_of (by decide) [some (.ref 73), some (.int k), some (.int e), none, none, none, none, none, none, none] rfl (Nat.le_of_ble_eq_true rfl) ?_
    refine wa_iload_n dX6_cross_0 rfl ?_
    refine wa_callS1 (k' := kX6_isRow) (d' := 1) dX6_cross_1 lmX6_100 ksX6_isRow (by decide) (by omega) (Nat.le_of_ble_eq_true rfl) ?_
    refine isRo_0 (by omega) hoob ?_
    refine wa_if_eqT 14 dX6_cross_4 (by decide) (by decide) ?_
    refine wa_ldc2 (-5000000000000000002) dX6_cross_14 lcX6_104 ?_
    refine wa_lret dX6_cross_17 rfl ?_
    exact ⟨rfl, hrel.up⟩
theorem vZ_c {f g : Nat → Int64} {n : Nat} (h : ∀ i, i < n → f i = g i) : ∀ i, i < n → vZ f i = vZ g i := fun i hi => by rw [vZ, vZ, h i hi]
theorem gW_c {f g : Nat → Int64} {n w : Nat} (hn : n ≤ 64) (hw : w < 4) (h : ∀ i, i < n → f i = g i) : ∀ i, i < n → gW f n w i = gW g n w i := fun i hi => by
  rw [z_gW f hn hw hi, z_gW g hn hw hi, sumZ_congr (fun k hk => by rw [vZ_c h k hk])]
theorem in4_0 {d : Nat} {k : Int32} {μ : Mem} {Q : QM} (h : k.toInt < 0 ∨ 4 ≤ k.toInt) (hQ : Q (some (.int (nI 0))) μ) : MW kX6_in d [.long k.toInt64, .long 0, .long 3] μ Q :=
  in_0 (by rw [Int32.toInt_toInt64, z64, z3i]; omega) hQ
theorem nI4 : (nI 4).toInt = 4 := by decide
theorem cpy_lt {f g : Nat → Int64} {n i : Nat} (h : i < n) : va_cpy f g 0 0 n i = f i := by
  show (if 0 ≤ i ∧ i < 0 + n then f (0 + (i - 0)) else g i) = f i
  rw [if_pos (by omega)]
  congr 1
  omega
theorem rwF_at {g old : Nat → Int64} {r n i : Nat} (h : i < n) : rwF g old r n (64 * r + i) = g i := by
  rw [rwF, if_pos (by omega)]
  congr 1
  omega
theorem rwF_no {g old : Nat → Int64} {r n q : Nat} (h : ¬ (64 * r ≤ q ∧ q < 64 * r + n)) : rwF g old r n q = old q := by
  rw [rwF, if_neg h]
theorem mN_off {ν : Mem} {t r : Nat} {f : Nat → Int64} (h : t ≠ 80) : mN (bL ν t f) r = mN ν r := by
  funext i
  show (bL ν t f).2 80 (64 * r + i) = ν.2 80 (64 * r + i)
  rw [bL_off (Ne.symm h)]
theorem pr_turn (k w : Int32) : PR kX5_turn kX6_turn [.int k, .int w] := by
  intro N μ d c hd hc hN hrel
  have e4_ := nI4
  refine MW_of (by decide) [some (.ref 0), some (.int k), some (.int w)] rfl (Nat.le_of_ble_eq_true rfl) ?_
  refine wa_iload_n dX5_turn_0 rfl ?_
  refine wa_callS1 (k' := kX5_isRow) (d' := 0) dX5_turn_1 lmX5_111 ksX5_isRow (by decide) (by omega) (Nat.le_of_ble_eq_true rfl) ?_
  refine wp_X5_isRow (fun r_ hr_ hk_ => ?_) (fun hoob => ?_)
  · skip
    obtain ⟨n_, s1_, s2_, s3_, s4_, s5_⟩ := hrel.2.1 r_ (by omega)
    refine wa_if_eqF 16 dX5_turn_4 (by decide) (by decide) ?_
    refine wa_iload_n dX5_turn_7 rfl ?_
    refine wa_if_lt 16 dX5_turn_8 (by decide) (fun c8_2 => ?_) (fun c8_2 => ?_)
    · try simp (disch := omega) only [nI_toInt, Int32.toInt_toInt64, e4_] at c8_2
      refine wa_bipush (-2) dX5_turn_16 (by decide) ?_
      refine wa_iret dX5_turn_18 rfl ?_
      rw [hk_]
      refine MW_of (by decide) [some (.ref 73), some (.int (nI r_)), some (.int w), none, none, none, none, none, none, none, none, none, none, none] rfl (Nat.le_of_ble_eq_true rfl) ?_
      refine wa_iload_n dX6_turn_0 rfl ?_
      refine wa_callS1 (k' := kX6_isRow) (d' := 1) dX6_turn_1 lmX6_100 ksX6_isRow (by decide) (by omega) (Nat.le_of_ble_eq_true rfl) ?_
      refine isRo_1 (by omega) hr_ ?_
      refine wa_if_eqF 19 dX6_turn_4 (by decide) (by decide) ?_
      refine wa_iload_n dX6_turn_7 rfl ?_
      refine wa_i2l dX6_turn_8 ?_
      refine wa_lconst (0) dX6_turn_9 (by decide) ?_
      refine wa_ldc2 (3) dX6_turn_10 lcX6_106 ?_
      refine wa_callS3 (k' := kX6_in) (d' := 0) dX6_turn_13 lmX6_60 ksX6_in (by decide) (by omega) (Nat.le_of_ble_eq_true rfl) ?_
      refine in4_0 (by omega) ?_
      refine wa_if_neF 22 dX6_turn_16 (by decide) (by decide) ?_
      refine wa_bipush (-2) dX6_turn_19 (by decide) ?_
      refine wa_iret dX6_turn_21 rfl ?_
      exact ⟨rfl, hrel.up⟩
    · try simp (disch := omega) only [nI_toInt, Int32.toInt_toInt64, e4_] at c8_2
      refine wa_iload_n dX5_turn_11 rfl ?_
      refine wa_iconst (nI 4) dX5_turn_12 (by decide) ?_
      refine wa_ic_lt 19 dX5_turn_13 (by decide) (fun c13_3 => ?_) (fun c13_3 => ?_)
      · try simp (disch := omega) only [nI_toInt, Int32.toInt_toInt64, e4_] at c13_3
        refine wa_aload_n dX5_turn_19 rfl ?_
        refine wa_getR dX5_turn_20 fgX5_18 (by first | assumption | rfl) (by rfl) ?_
        refine wa_iload_n dX5_turn_23 rfl ?_
        refine wa_aalR _ dX5_turn_24 (by first | assumption | rfl) (by exact hk_) (by omega) ?_
        rw [show arf 2 r_ = 43 + 5 * r_ from rfl]; have hR_ := isR_k (show r_ < 6 by omega); have hsh_ := (isR_sh hR_).1; obtain ⟨w_, hw_, hpw_⟩ := nI_ex (x := w) (n := 4) (by omega) (by omega) (by omega); subst hpw_; have v5_ := inB_c (g := mN μ r_) (fun i hi => (s4_ i hi).symm) s5_
        refine wa_iload_n dX5_turn_25 rfl ?_
        refine wa_callV1 (k' := kX2_change) (d' := 3) dX5_turn_26 lmX5_130 kvX2_change (by first | assumption | rfl) (by rfl) (by decide) (by omega) (Nat.le_of_ble_eq_true rfl) ?_
        refine wp_X2_change (n := n_) hR_ (by omega) s1_ s2_ hw_ (fun q0 => ?_) (fun q0 q1 q2 => ?_) (fun q0 q1 q2 => ?_) (fun q0 q1 q2 => ?_)
        · skip
          refine wa_iret dX5_turn_29 rfl ?_
          rw [hk_]
          exact wp_X6_turn (by omega) hr_ s3_ s2_ hw_ v5_ (fun _ => ⟨rfl, hrel.up⟩) (fun p0 => absurd q0 p0) (fun p0 => absurd q0 p0) (fun p0 => absurd q0 p0)
        · skip
          refine wa_iret dX5_turn_29 rfl ?_
          rw [hk_]
          exact wp_X6_turn (by omega) hr_ s3_ s2_ hw_ v5_ (fun p0 => absurd p0 q0) (fun _ _ _ => ⟨rfl, hrel.up⟩) (fun _ p1 => absurd (inB_c (f := mN μ r_) s4_ (p1 q1)) q2) (fun _ p1 => absurd (inB_c (f := mN μ r_) s4_ (p1 q1)) q2)
        · skip
          refine wa_iret dX5_turn_29 rfl ?_
          rw [hk_]
          refine wp_X6_turn (n := n_) (by omega) hr_ s3_ s2_ hw_ ?_ (fun p0 => absurd p0 q0) (fun p0 p1 p2 => ?_) (fun p0 p1 p2 F_ => ⟨rfl, ?_⟩) (fun p0 p1 p2 F_ => ?_)
          · rw [mN_off (by omega)]; exact v5_
          · rw [mN_off (by omega)] at p2; exact absurd (inB_c (g := mN μ r_) (fun i hi => (s4_ i hi).symm) (q1 p1)) p2
          · skip
            refine Rel_0 hrel ?fs ?fr ?fp ?fw ?fm
            case fs =>
              intro j_ hj_
              refine ⟨?_, ?_, ?_, ?_, ?_, ?_, fun i_ hi_ => ?_, fun i_ hi_ => ?_⟩
              all_goals
                simp (disch := omega) only [sI_off, bI_off, sL_off, bL_off, r1l, r2l, rb1l, rb2l, r1m, r2m, rb1e, rb2e,r1e]
            case fr =>
              intro r_ hr_
              refine ⟨?_, ?_, ?_, fun i_ hi_ => ?_⟩
              all_goals
                simp (disch := omega) only [sI_off, bI_off, sL_off, bL_off, r1l, r2l, rb1l, rb2l, r1m, r2m, rb1e, rb2e,r1e]
            case fp =>
              refine ⟨?_, ?_, ?_, ?_, ?_⟩
              all_goals
                simp (disch := omega) only [sI_off, bI_off, sL_off, bL_off, r1l, r2l, rb1l, rb2l, r1m, r2m, rb1e, rb2e,r1e]
            case fw =>
              refine ⟨?_, fun q_ ha_ hb_ => ?_⟩
              all_goals
                simp (disch := omega) only [sI_off, bI_off, sL_off, bL_off, r1l, r2l, rb1l, rb2l, r1m, r2m, rb1e, rb2e,r1e]
            case fm =>
              refine ⟨?_, ?_, fun q_ ha_ hb_ => ?_⟩
              all_goals
                simp (disch := omega) only [sI_off, bI_off, sL_off, bL_off, r1l, r2l, rb1l, rb2l, r1m, r2m, rb1e, rb2e,r1e]
          · rw [mN_off (by omega)] at p2; exact absurd (inB_c (gW_c (f := mN μ r_) s2_ hw_ s4_) p2) q2
        · skip
          refine wa_iret dX5_turn_29 rfl ?_
          rw [hk_]
          refine wp_X6_turn (n := n_) (by omega) hr_ s3_ s2_ hw_ ?_ (fun p0 => absurd p0 q0) (fun p0 p1 p2 => ?_) (fun p0 p1 p2 F_ => ?_) (fun p0 p1 p2 F_ => ⟨rfl, ?_⟩)
          · rw [mN_off (by omega), mN_off (by omega)]; exact v5_
          · rw [mN_off (by omega), mN_off (by omega)] at p2; exact absurd (inB_c (g := mN μ r_) (fun i hi => (s4_ i hi).symm) (q1 p1)) p2
          · rw [mN_off (by omega), mN_off (by omega)] at p2; exact absurd (inB_c (g := gW (mN μ r_) n_ w_) (gW_c s2_ hw_ (fun i hi => (s4_ i hi).symm)) q2) p2
          · rw [mN_off (by omega), mN_off (by omega)]
            refine Rel_R (k := r_) (n := n_) hrel ?relr ?fs ?fr ?fp ?fw ?fm
            case fs =>
              intro j_ hj_
              refine ⟨?_, ?_, ?_, ?_, ?_, ?_, fun i_ hi_ => ?_, fun i_ hi_ => ?_⟩
              all_goals
                simp (disch := omega) only [sI_off, bI_off, sL_off, bL_off, r1l, r2l, rb1l, rb2l, r1m, r2m, rb1e, rb2e,rwF_no]
            case fr =>
              intro r_ hr_ hrk_
              refine ⟨?_, ?_, ?_, fun i_ hi_ => ?_⟩
              all_goals
                simp (disch := omega) only [sI_off, bI_off, sL_off, bL_off, r1l, r2l, rb1l, rb2l, r1m, r2m, rb1e, rb2e,rwF_no]
            case fp =>
              refine ⟨?_, ?_, ?_, ?_, ?_⟩
              all_goals
                simp (disch := omega) only [sI_off, bI_off, sL_off, bL_off, r1l, r2l, rb1l, rb2l, r1m, r2m, rb1e, rb2e,rwF_no]
            case fw =>
              refine ⟨?_, fun q_ ha_ hb_ => ?_⟩
              all_goals
                simp (disch := omega) only [sI_off, bI_off, sL_off, bL_off, r1l, r2l, rb1l, rb2l, r1m, r2m, rb1e, rb2e,rwF_no]
            case fm =>
              refine ⟨?_, ?_, fun q_ ha_ hb_ => ?_⟩
              all_goals
                simp (disch := omega) only [sI_off, bI_off, sL_off, bL_off, r1l, r2l, rb1l, rb2l, r1m, r2m, rb1e, rb2e,rwF_no]
            case relr =>
              refine ⟨by simp (disch := omega) only [sI_off, bI_off, sL_off, bL_off, r1l, r2l, rb1l, rb2l, r1m, r2m, rb1e, rb2e, r1e, r2e]; exact s1_, s2_, by simp (disch := omega) only [sI_off, bI_off, sL_off, bL_off, r1l, r2l, rb1l, rb2l, r1m, r2m, rb1e, rb2e, r1e, r2e]; exact s3_, fun i_ hi_ => ?_, ?_⟩
              · simp (disch := omega) only [sI_off, bI_off, sL_off, bL_off, r1l, r2l, rb1l, rb2l, r1m, r2m, rb1e, rb2e, r1e, r2e]
                rw [rwF_at hi_, cpy_lt hi_, frF_lt hi_]
                exact gW_c s2_ hw_ s4_ i_ hi_
              · simp (disch := omega) only [sI_off, bI_off, sL_off, bL_off, r1l, r2l, rb1l, rb2l, r1m, r2m, rb1e, rb2e, r1e, r2e]
                refine inB_c (f := gW (μ.2 (43 + 5 * r_ + 1)) n_ w_) (fun i hi => ?_) q2
                rw [cpy_lt hi, frF_lt hi]
      · try simp (disch := omega) only [nI_toInt, Int32.toInt_toInt64, e4_] at c13_3
        refine wa_bipush (-2) dX5_turn_16 (by decide) ?_
        refine wa_iret dX5_turn_18 rfl ?_
        rw [hk_]
        refine MW_of (by decide) [some (.ref 73), some (.int (nI r_)), some (.int w), none, none, none, none, none, none, none, none, none, none, none] rfl (Nat.le_of_ble_eq_true rfl) ?_
        refine wa_iload_n dX6_turn_0 rfl ?_
        refine wa_callS1 (k' := kX6_isRow) (d' := 1) dX6_turn_1 lmX6_100 ksX6_isRow (by decide) (by omega) (Nat.le_of_ble_eq_true rfl) ?_
        refine isRo_1 (by omega) hr_ ?_
        refine wa_if_eqF 19 dX6_turn_4 (by decide) (by decide) ?_
        refine wa_iload_n dX6_turn_7 rfl ?_
        refine wa_i2l dX6_turn_8 ?_
        refine wa_lconst (0) dX6_turn_9 (by decide) ?_
        refine wa_ldc2 (3) dX6_turn_10 lcX6_106 ?_
        refine wa_callS3 (k' := kX6_in) (d' := 0) dX6_turn_13 lmX6_60 ksX6_in (by decide) (by omega) (Nat.le_of_ble_eq_true rfl) ?_
        refine in4_0 (by omega) ?_
        refine wa_if_neF 22 dX6_turn_16 (by decide) (by decide) ?_
        refine wa_bipush (-2) dX6_turn_19 (by decide) ?_
        refine wa_iret dX6_turn_21 rfl ?_
        exact ⟨rfl, hrel.up⟩
  · skip
    refine wa_if_eqT 16 dX5_turn_4 (by decide) (by decide) ?_
    refine wa_bipush (-2) dX5_turn_16 (by decide) ?_
    refine wa_iret dX5_turn_18 rfl ?_
    skip
    refine MW_of (by decide) [some (.ref 73), some (.int k), some (.int w), none, none, none, none, none, none, none, none, none, none, none] rfl (Nat.le_of_ble_eq_true rfl) ?_
    refine wa_iload_n dX6_turn_0 rfl ?_
    refine wa_callS1 (k' := kX6_isRow) (d' := 1) dX6_turn_1 lmX6_100 ksX6_isRow (by decide) (by omega) (Nat.le_of_ble_eq_true rfl) ?_
    refine isRo_0 (by omega) hoob ?_
    refine wa_if_eqT 19 dX6_turn_4 (by decide) (by decide) ?_
    refine wa_bipush (-2) dX6_turn_19 (by decide) ?_
    refine wa_iret dX6_turn_21 rfl ?_
    exact ⟨rfl, hrel.up⟩
