/-! PAIRS: mix, raise, sheet -/
theorem kN1000 : (-1000 : Int64).toInt = -1000 := by decide
theorem wa_mix {d r u n : Nat} {p q : Int32} {v w : Nat → Int64} {μ : Mem} {Q : QM} (hd : 1 ≤ d) (hr : r < 6) (hu : u < 6) (hn : μ.1 79 r = nI n) (hn64 : n ≤ 64) (hv : ∀ i, μ.2 80 (64 * r + i) = v i) (hw : ∀ i, μ.2 80 (64 * u + i) = w i)
    (hF : ¬ inB (gMix v w p q) n 4000000000000000 → ∀ F, Q (some (.int (-16))) (bL μ 81 F)) (hH : inB (gMix v w p q) n 4000000000000000 → ∀ F, Q (some (.int (nI n))) (bL (bL μ 81 F) 80 (rwF (gMix v w p q) (μ.2 80) r n))) : WA kX6_mix d Q 64 [some (.ref 73), some (.int (nI r)), some (.int p), some (.int (nI u)), some (.int q), none] [] μ := by
  have last : inB (gMix v w p q) n 4000000000000000 → ∀ m i, i + m = n → WA kX6_mix d Q 148 [some (.ref 73), some (.int (nI r)), some (.int p), some (.int (nI u)), some (.int q), some (.int (nI i))] [] (bL (bL μ 81 (frF (gMix v w p q) (μ.2 81) n)) 80 (rwF (gMix v w p q) (μ.2 80) r i)) := by
    intro q3 m
    induction m with
    | zero =>
      intro i hi
      obtain rfl : i = n := by omega
      have e_ := hH q3
      refine wa_iload dX6_mix_148 rfl ?_
      refine wa_aload_n dX6_mix_150 rfl ?_
      refine wa_getR dX6_mix_151 fgX6_26 (by first | assumption | rfl) (by rfl) ?_
      refine wa_iload_n dX6_mix_154 rfl ?_
      refine wa_iald _ dX6_mix_155 (by first | assumption | rfl) (by first | with_reducible rfl | with_reducible assumption | with_reducible exact ix_ma _ _ _ | with_reducible exact ix_maa _ _ _ _ | with_reducible exact ix_a _ _ | with_reducible exact ix_mama _ _ _ _ _) (by omega) ?_
      refine wa_ic_geT 184 dX6_mix_156 (by decide) (by simp (disch := omega) only [sI_off, bI_off, sL_off, bL_off, r1l, r2l, rb1l, rb2l, r1m, r2m, rb1e, rb2e, r1e, r2e]; rw [hn]; exact le_nI (by omega) (by omega)) ?_
      refine wa_aload_n dX6_mix_184 rfl ?_
      refine wa_getR dX6_mix_185 fgX6_26 (by first | assumption | rfl) (by rfl) ?_
      refine wa_iload_n dX6_mix_188 rfl ?_
      refine wa_iald _ dX6_mix_189 (by first | assumption | rfl) (by first | with_reducible rfl | with_reducible assumption | with_reducible exact ix_ma _ _ _ | with_reducible exact ix_maa _ _ _ _ | with_reducible exact ix_a _ _ | with_reducible exact ix_mama _ _ _ _ _) (by omega) ?_
      refine wa_iret dX6_mix_190 rfl ?_
      simp (disch := omega) only [sI_off, bI_off, sL_off, bL_off, r1l, r2l, rb1l, rb2l, r1m, r2m, rb1e, rb2e, r1e, r2e]
      rw [hn]
      exact e_ _
    | succ m ih =>
      intro i hi
      have e_ := ih (i + 1) (by omega)
      refine wa_iload dX6_mix_148 rfl ?_
      refine wa_aload_n dX6_mix_150 rfl ?_
      refine wa_getR dX6_mix_151 fgX6_26 (by first | assumption | rfl) (by rfl) ?_
      refine wa_iload_n dX6_mix_154 rfl ?_
      refine wa_iald _ dX6_mix_155 (by first | assumption | rfl) (by first | with_reducible rfl | with_reducible assumption | with_reducible exact ix_ma _ _ _ | with_reducible exact ix_maa _ _ _ _ | with_reducible exact ix_a _ _ | with_reducible exact ix_mama _ _ _ _ _) (by omega) ?_
      refine wa_ic_geF 184 dX6_mix_156 (by decide) (by simp (disch := omega) only [sI_off, bI_off, sL_off, bL_off, r1l, r2l, rb1l, rb2l, r1m, r2m, rb1e, rb2e, r1e, r2e]; rw [hn]; exact nle_nI (by omega) (by omega)) ?_
      refine wa_aload_n dX6_mix_159 rfl ?_
      refine wa_getR dX6_mix_160 fgX6_29 (by first | assumption | rfl) (by rfl) ?_
      refine wa_bipush (nI 64) dX6_mix_163 (by decide) ?_
      refine wa_iload_n dX6_mix_165 rfl ?_
      refine wa_imul dX6_mix_166 ?_
      refine wa_iload dX6_mix_167 rfl ?_
      refine wa_iadd dX6_mix_169 ?_
      refine wa_aload_n dX6_mix_170 rfl ?_
      refine wa_getR dX6_mix_171 fgX6_33 (by first | assumption | rfl) (by rfl) ?_
      refine wa_iload dX6_mix_174 rfl ?_
      refine wa_lald _ dX6_mix_176 (by first | assumption | rfl) (by first | with_reducible rfl | with_reducible assumption | with_reducible exact ix_ma _ _ _ | with_reducible exact ix_maa _ _ _ _ | with_reducible exact ix_a _ _ | with_reducible exact ix_mama _ _ _ _ _) (by omega) ?_
      refine wa_last _ dX6_mix_177 (by first | assumption | rfl) (by first | with_reducible rfl | with_reducible assumption | with_reducible exact ix_ma _ _ _ | with_reducible exact ix_maa _ _ _ _ | with_reducible exact ix_a _ _ | with_reducible exact ix_mama _ _ _ _ _) (by omega) ?_
      refine wa_iinc (nI 1) dX6_mix_178 rfl (by decide) (by decide) ?_
      refine wa_goto 148 dX6_mix_181 (by decide) ?_
      rw [sLb, bL_off (by omega), rb2e, frF_lt (by omega), rwF_s]
      simp only [nI_add]
      exact e_
  have loop : ∀ m i, i + m = n → inB (gMix v w p q) i 4000000000000000 → WA kX6_mix d Q 67 [some (.ref 73), some (.int (nI r)), some (.int p), some (.int (nI u)), some (.int q), some (.int (nI i))] [] (bL μ 81 (frF (gMix v w p q) (μ.2 81) i)) := by
    intro m
    induction m with
    | zero =>
      intro i hi hb
      obtain rfl : i = n := by omega
      have e_ := last hb i 0 (by omega)
      rw [rwF_0] at e_
      have e1 : bL (bL μ 81 (frF (gMix v w p q) (μ.2 81) i)) 80 (μ.2 80) = bL μ 81 (frF (gMix v w p q) (μ.2 81) i) := by
        have := bL_self (bL μ 81 (frF (gMix v w p q) (μ.2 81) i)) 80
        rw [bL_off (by omega)] at this
        exact this
      rw [e1] at e_
      refine wa_iload dX6_mix_67 rfl ?_
      refine wa_aload_n dX6_mix_69 rfl ?_
      refine wa_getR dX6_mix_70 fgX6_26 (by first | assumption | rfl) (by rfl) ?_
      refine wa_iload_n dX6_mix_73 rfl ?_
      refine wa_iald _ dX6_mix_74 (by first | assumption | rfl) (by first | with_reducible rfl | with_reducible assumption | with_reducible exact ix_ma _ _ _ | with_reducible exact ix_maa _ _ _ _ | with_reducible exact ix_a _ _ | with_reducible exact ix_mama _ _ _ _ _) (by omega) ?_
      refine wa_ic_geT 145 dX6_mix_75 (by decide) (by simp (disch := omega) only [sI_off, bI_off, sL_off, bL_off, r1l, r2l, rb1l, rb2l, r1m, r2m, rb1e, rb2e, r1e, r2e]; rw [hn]; exact le_nI (by omega) (by omega)) ?_
      refine wa_iconst (nI 0) dX6_mix_145 (by decide) ?_
      refine wa_istore dX6_mix_146 (by decide) ?_
      exact e_
    | succ m ih =>
      intro i hi hb
      have e_ := ih (i + 1) (by omega)
      have ev : (bL μ 81 (frF (gMix v w p q) (μ.2 81) i)).2 80 (64 * r + i) = v i := by rw [bL_off (by omega)]; exact hv i
      have ew : (bL μ 81 (frF (gMix v w p q) (μ.2 81) i)).2 80 (64 * u + i) = w i := by rw [bL_off (by omega)]; exact hw i
      have eg : p.toInt64 * v i + q.toInt64 * w i = gMix v w p q i := rfl
      refine wa_iload dX6_mix_67 rfl ?_
      refine wa_aload_n dX6_mix_69 rfl ?_
      refine wa_getR dX6_mix_70 fgX6_26 (by first | assumption | rfl) (by rfl) ?_
      refine wa_iload_n dX6_mix_73 rfl ?_
      refine wa_iald _ dX6_mix_74 (by first | assumption | rfl) (by first | with_reducible rfl | with_reducible assumption | with_reducible exact ix_ma _ _ _ | with_reducible exact ix_maa _ _ _ _ | with_reducible exact ix_a _ _ | with_reducible exact ix_mama _ _ _ _ _) (by omega) ?_
      refine wa_ic_geF 145 dX6_mix_75 (by decide) (by simp (disch := omega) only [sI_off, bI_off, sL_off, bL_off, r1l, r2l, rb1l, rb2l, r1m, r2m, rb1e, rb2e, r1e, r2e]; rw [hn]; exact nle_nI (by omega) (by omega)) ?_
      refine wa_aload_n dX6_mix_78 rfl ?_
      refine wa_getR dX6_mix_79 fgX6_33 (by first | assumption | rfl) (by rfl) ?_
      refine wa_iload dX6_mix_82 rfl ?_
      refine wa_iload_n dX6_mix_84 rfl ?_
      refine wa_i2l dX6_mix_85 ?_
      refine wa_aload_n dX6_mix_86 rfl ?_
      refine wa_getR dX6_mix_87 fgX6_29 (by first | assumption | rfl) (by rfl) ?_
      refine wa_bipush (nI 64) dX6_mix_90 (by decide) ?_
      refine wa_iload_n dX6_mix_92 rfl ?_
      refine wa_imul dX6_mix_93 ?_
      refine wa_iload dX6_mix_94 rfl ?_
      refine wa_iadd dX6_mix_96 ?_
      refine wa_lald _ dX6_mix_97 (by first | assumption | rfl) (by first | with_reducible rfl | with_reducible assumption | with_reducible exact ix_ma _ _ _ | with_reducible exact ix_maa _ _ _ _ | with_reducible exact ix_a _ _ | with_reducible exact ix_mama _ _ _ _ _) (by omega) ?_
      refine wa_lmul dX6_mix_98 ?_
      refine wa_iload dX6_mix_99 rfl ?_
      refine wa_i2l dX6_mix_101 ?_
      refine wa_aload_n dX6_mix_102 rfl ?_
      refine wa_getR dX6_mix_103 fgX6_29 (by first | assumption | rfl) (by rfl) ?_
      refine wa_bipush (nI 64) dX6_mix_106 (by decide) ?_
      refine wa_iload_n dX6_mix_108 rfl ?_
      refine wa_imul dX6_mix_109 ?_
      refine wa_iload dX6_mix_110 rfl ?_
      refine wa_iadd dX6_mix_112 ?_
      refine wa_lald _ dX6_mix_113 (by first | assumption | rfl) (by first | with_reducible rfl | with_reducible assumption | with_reducible exact ix_ma _ _ _ | with_reducible exact ix_maa _ _ _ _ | with_reducible exact ix_a _ _ | with_reducible exact ix_mama _ _ _ _ _) (by omega) ?_
      refine wa_lmul dX6_mix_114 ?_
      refine wa_ladd dX6_mix_115 ?_
      refine wa_last _ dX6_mix_116 (by first | assumption | rfl) (by first | with_reducible rfl | with_reducible assumption | with_reducible exact ix_ma _ _ _ | with_reducible exact ix_maa _ _ _ _ | with_reducible exact ix_a _ _ | with_reducible exact ix_mama _ _ _ _ _) (by omega) ?_
      rw [ev, ew, eg]
      refine wa_aload_n dX6_mix_117 rfl ?_
      refine wa_getR dX6_mix_118 fgX6_33 (by first | assumption | rfl) (by rfl) ?_
      refine wa_iload dX6_mix_121 rfl ?_
      refine wa_lald _ dX6_mix_123 (by first | assumption | rfl) (by first | with_reducible rfl | with_reducible assumption | with_reducible exact ix_ma _ _ _ | with_reducible exact ix_maa _ _ _ _ | with_reducible exact ix_a _ _ | with_reducible exact ix_mama _ _ _ _ _) (by omega) ?_
      refine wa_ldc2 (-4000000000000000) dX6_mix_124 lcX6_127 ?_
      refine wa_ldc2 (4000000000000000) dX6_mix_127 lcX6_129 ?_
      refine wa_callS3 (k' := kX6_in) (d' := 0) dX6_mix_130 lmX6_60 ksX6_in (by decide) (by omega) (Nat.le_of_ble_eq_true rfl) ?_
      refine wp_X6_in (fun hw_ => ?_) (fun hw_ => ?_)
      · skip
        rw [r2e, k4e15.1, k4e15.2] at hw_
        refine wa_if_neT 139 dX6_mix_133 (by decide) (by decide) ?_
        refine wa_iinc (nI 1) dX6_mix_139 rfl (by decide) (by decide) ?_
        refine wa_goto 67 dX6_mix_142 (by decide) ?_
        rw [sLb, frF_s]
        simp only [nI_add]
        refine e_ (fun z hz => ?_)
        by_cases hzi : z = i
        · rw [hzi]; exact hw_
        · exact hb z (by omega)
      · skip
        rw [r2e, k4e15.1, k4e15.2] at hw_
        refine wa_if_neF 139 dX6_mix_133 (by decide) (by decide) ?_
        refine wa_bipush (-16) dX6_mix_136 (by decide) ?_
        refine wa_iret dX6_mix_138 rfl ?_
        rw [sLb]; exact hF (fun z => by have := z i (by omega); omega) _
  have e0 := loop n 0 (by omega) (fun z hz => by omega)
  rw [frF_0, bL_self] at e0
  refine wa_iconst (nI 0) dX6_mix_64 (by decide) ?_
  refine wa_istore dX6_mix_65 (by decide) ?_
  exact e0
theorem gMix_c {f g f2 g2 : Nat → Int64} {p q : Int32} {n : Nat} (h : ∀ i, i < n → f i = g i) (h2 : ∀ i, i < n → f2 i = g2 i) : ∀ i, i < n → gMix f f2 p q i = gMix g g2 p q i := fun i hi => by rw [gMix, gMix, h i hi, h2 i hi]
theorem pr_mix (k p e q : Int32) : PR kX5_mix kX6_mix [.int k, .int p, .int e, .int q] := by
  intro N μ d c hd hc hN hrel
  refine MW_of (by decide) [some (.ref 0), some (.int k), some (.int p), some (.int e), some (.int q)] rfl (Nat.le_of_ble_eq_true rfl) ?_
  refine wa_iload_n dX5_mix_0 rfl ?_
  refine wa_callS1 (k' := kX5_isRow) (d' := 0) dX5_mix_1 lmX5_111 ksX5_isRow (by decide) (by omega) (Nat.le_of_ble_eq_true rfl) ?_
  refine wp_X5_isRow (fun r_ hr_ hk_ => ?_) (fun hoob => ?_)
  · skip
    obtain ⟨n_, s1_, s2_, s3_, s4_, s5_⟩ := hrel.2.1 r_ (by omega)
    refine wa_if_eqF 37 dX5_mix_4 (by decide) (by decide) ?_
    refine wa_iload_n dX5_mix_7 rfl ?_
    refine wa_callS1 (k' := kX5_isRow) (d' := 0) dX5_mix_8 lmX5_111 ksX5_isRow (by decide) (by omega) (Nat.le_of_ble_eq_true rfl) ?_
    refine wp_X5_isRow (fun u_ hu_ he_ => ?_) (fun hoob => ?_)
    · skip
      obtain ⟨m_, t1_, t2_, t3_, t4_, t5_⟩ := hrel.2.1 u_ (by omega)
      refine wa_if_eqF 37 dX5_mix_11 (by decide) (by decide) ?_
      refine wa_iload_n dX5_mix_14 rfl ?_
      refine wa_i2l dX5_mix_15 ?_
      refine wa_ldc2 (1000) dX5_mix_16 lcX5_140 ?_
      refine wa_callS2 (k' := kX5_isWithin) (d' := 0) dX5_mix_19 lmX5_142 ksX5_isWithin (by decide) (by omega) (Nat.le_of_ble_eq_true rfl) ?_
      refine wp_X5_isWithin (fun hp_ => ?_) (fun hp_ => ?_)
      · skip
        rw [k1e3.1, k1e3.2, Int32.toInt_toInt64] at hp_
        refine wa_if_eqF 37 dX5_mix_22 (by decide) (by decide) ?_
        refine wa_iload dX5_mix_25 rfl ?_
        refine wa_i2l dX5_mix_27 ?_
        refine wa_ldc2 (1000) dX5_mix_28 lcX5_140 ?_
        refine wa_callS2 (k' := kX5_isWithin) (d' := 0) dX5_mix_31 lmX5_142 ksX5_isWithin (by decide) (by omega) (Nat.le_of_ble_eq_true rfl) ?_
        refine wp_X5_isWithin (fun hq_ => ?_) (fun hq_ => ?_)
        · skip
          rw [k1e3.1, k1e3.2, Int32.toInt_toInt64] at hq_
          refine wa_if_neT 40 dX5_mix_34 (by decide) (by decide) ?_
          refine wa_aload_n dX5_mix_40 rfl ?_
          refine wa_getR dX5_mix_41 fgX5_18 (by first | assumption | rfl) (by rfl) ?_
          refine wa_iload_n dX5_mix_44 rfl ?_
          refine wa_aalR _ dX5_mix_45 (by first | assumption | rfl) (by exact hk_) (by omega) ?_
          rw [show arf 2 r_ = 43 + 5 * r_ from rfl]; have hR_ := isR_k (show r_ < 6 by omega); have hsh_ := (isR_sh hR_).1
          refine wa_callV0 (k' := kX2_size) (d' := 0) dX5_mix_46 lmX5_120 kvX2_size (by first | assumption | rfl) (by rfl) (by decide) (by omega) (Nat.le_of_ble_eq_true rfl) ?_
          refine wp_X2_size hR_ ?_
          rw [s1_]
          refine wa_aload_n dX5_mix_49 rfl ?_
          refine wa_getR dX5_mix_50 fgX5_18 (by first | assumption | rfl) (by rfl) ?_
          refine wa_iload_n dX5_mix_53 rfl ?_
          refine wa_aalR _ dX5_mix_54 (by first | assumption | rfl) (by exact he_) (by omega) ?_
          rw [show arf 2 u_ = 43 + 5 * u_ from rfl]; have hU_ := isR_k (show u_ < 6 by omega); have hsu_ := (isR_sh hU_).1
          refine wa_callV0 (k' := kX2_size) (d' := 0) dX5_mix_55 lmX5_120 kvX2_size (by first | assumption | rfl) (by rfl) (by decide) (by omega) (Nat.le_of_ble_eq_true rfl) ?_
          refine wp_X2_size hU_ ?_
          rw [t1_]
          refine wa_ic_eq 64 dX5_mix_58 (by decide) (fun c58_7 => ?_) (fun c58_7 => ?_)
          · try simp (disch := omega) only [nI_toInt, Int32.toInt_toInt64] at c58_7
            refine wa_aload_n dX5_mix_64 rfl ?_
            refine wa_getR dX5_mix_65 fgX5_18 (by first | assumption | rfl) (by rfl) ?_
            refine wa_iload_n dX5_mix_68 rfl ?_
            refine wa_aalR _ dX5_mix_69 (by first | assumption | rfl) (by exact hk_) (by omega) ?_
            rw [show arf 2 r_ = 43 + 5 * r_ from rfl]; have hR_ := isR_k (show r_ < 6 by omega); have hsh_ := (isR_sh hR_).1
            refine wa_iload_n dX5_mix_70 rfl ?_
            refine wa_aload_n dX5_mix_71 rfl ?_
            refine wa_getR dX5_mix_72 fgX5_18 (by first | assumption | rfl) (by rfl) ?_
            refine wa_iload_n dX5_mix_75 rfl ?_
            refine wa_aalR _ dX5_mix_76 (by first | assumption | rfl) (by exact he_) (by omega) ?_
            rw [show arf 2 u_ = 43 + 5 * u_ from rfl]; have hU_ := isR_k (show u_ < 6 by omega); have hsu_ := (isR_sh hU_).1
            refine wa_iload dX5_mix_77 rfl ?_
            refine wa_callV3 (k' := kX2_blend) (d' := 2) dX5_mix_79 lmX5_146 kvX2_blend (by first | assumption | rfl) (by rfl) (by decide) (by omega) (Nat.le_of_ble_eq_true rfl) ?_
            refine wp_X2_blend (n := n_) hR_ hU_ (by omega) s1_ s2_ (fun hb_ => ?_) (fun hb_ => ?_)
            · skip
              refine wa_iret dX5_mix_82 rfl ?_
              rw [hk_, he_]
              obtain rfl : n_ = m_ := by omega
              have ec_ := gMix_c (p := p) (q := q) (f := mN μ r_) (f2 := mN μ u_) s4_ t4_
              refine MW_of (by decide) [some (.ref 73), some (.int (nI r_)), some (.int p), some (.int (nI u_)), some (.int q), none] rfl (Nat.le_of_ble_eq_true rfl) ?_
              refine wa_iload_n dX6_mix_0 rfl ?_
              refine wa_callS1 (k' := kX6_isRow) (d' := 1) dX6_mix_1 lmX6_100 ksX6_isRow (by decide) (by omega) (Nat.le_of_ble_eq_true rfl) ?_
              refine isRo_1 (by omega) hr_ ?_
              refine wa_if_eqF 43 dX6_mix_4 (by decide) (by decide) ?_
              refine wa_iload_n dX6_mix_7 rfl ?_
              refine wa_callS1 (k' := kX6_isRow) (d' := 1) dX6_mix_8 lmX6_100 ksX6_isRow (by decide) (by omega) (Nat.le_of_ble_eq_true rfl) ?_
              refine isRo_1 (by omega) hu_ ?_
              refine wa_if_eqF 43 dX6_mix_11 (by decide) (by decide) ?_
              refine wa_iload_n dX6_mix_14 rfl ?_
              refine wa_i2l dX6_mix_15 ?_
              refine wa_ldc2 (-1000) dX6_mix_16 lcX6_131 ?_
              refine wa_ldc2 (1000) dX6_mix_19 lcX6_133 ?_
              refine wa_callS3 (k' := kX6_in) (d' := 0) dX6_mix_22 lmX6_60 ksX6_in (by decide) (by omega) (Nat.le_of_ble_eq_true rfl) ?_
              refine in_1 (by rw [Int32.toInt_toInt64, kN1000, k1000]; exact hp_) ?_
              refine wa_if_eqF 43 dX6_mix_25 (by decide) (by decide) ?_
              refine wa_iload dX6_mix_28 rfl ?_
              refine wa_i2l dX6_mix_30 ?_
              refine wa_ldc2 (-1000) dX6_mix_31 lcX6_131 ?_
              refine wa_ldc2 (1000) dX6_mix_34 lcX6_133 ?_
              refine wa_callS3 (k' := kX6_in) (d' := 0) dX6_mix_37 lmX6_60 ksX6_in (by decide) (by omega) (Nat.le_of_ble_eq_true rfl) ?_
              refine in_1 (by rw [Int32.toInt_toInt64, kN1000, k1000]; exact hq_) ?_
              refine wa_if_neT 46 dX6_mix_40 (by decide) (by decide) ?_
              refine wa_aload_n dX6_mix_46 rfl ?_
              refine wa_getR dX6_mix_47 fgX6_26 (by first | assumption | rfl) (by rfl) ?_
              refine wa_iload_n dX6_mix_50 rfl ?_
              refine wa_iald _ dX6_mix_51 (by first | assumption | rfl) (by first | with_reducible rfl | with_reducible assumption | with_reducible exact ix_ma _ _ _ | with_reducible exact ix_maa _ _ _ _ | with_reducible exact ix_a _ _ | with_reducible exact ix_mama _ _ _ _ _) (by omega) ?_
              refine wa_aload_n dX6_mix_52 rfl ?_
              refine wa_getR dX6_mix_53 fgX6_26 (by first | assumption | rfl) (by rfl) ?_
              refine wa_iload_n dX6_mix_56 rfl ?_
              refine wa_iald _ dX6_mix_57 (by first | assumption | rfl) (by first | with_reducible rfl | with_reducible assumption | with_reducible exact ix_ma _ _ _ | with_reducible exact ix_maa _ _ _ _ | with_reducible exact ix_a _ _ | with_reducible exact ix_mama _ _ _ _ _) (by omega) ?_
              refine wa_ic_eqT 64 dX6_mix_58 (by decide) (by simp (disch := omega) only [sI_off, bI_off, sL_off, bL_off, r1l, r2l, rb1l, rb2l, r1m, r2m, rb1e, rb2e, r1e, r2e]; rw [s3_, t3_]) ?_
              refine wa_mix (n := n_) (v := mN μ r_) (w := mN μ u_) (by omega) hr_ hu_ (by simp (disch := omega) only [sI_off, bI_off, sL_off, bL_off, r1l, r2l, rb1l, rb2l, r1m, r2m, rb1e, rb2e, r1e, r2e]; exact s3_) s2_ (fun i => by simp (disch := omega) only [sI_off, bI_off, sL_off, bL_off, r1l, r2l, rb1l, rb2l, r1m, r2m, rb1e, rb2e, r1e, r2e]; rfl) (fun i => by simp (disch := omega) only [sI_off, bI_off, sL_off, bL_off, r1l, r2l, rb1l, rb2l, r1m, r2m, rb1e, rb2e, r1e, r2e]; rfl) (fun hc_ F_ => ?_) (fun hc_ F_ => ?_)
              · skip
                refine ⟨rfl, ?_⟩
                refine Rel_0 hrel ?fs ?fr ?fp ?fw ?fm
                case fs =>
                  intro j_ hj_
                  refine ⟨?_, ?_, ?_, ?_, ?_, ?_, fun i_ hi_ => ?_, fun i_ hi_ => ?_⟩
                  all_goals
                    simp (disch := omega) only [sI_off, bI_off, sL_off, bL_off, r1l, r2l, rb1l, rb2l, r1m, r2m, rb1e, rb2e,r1e]
                case fr =>
                  intro r_ hr_
                  refine ⟨?_, ?_, ?_, fun i_ hi_ => ?_⟩
                  all_goals
                    simp (disch := omega) only [sI_off, bI_off, sL_off, bL_off, r1l, r2l, rb1l, rb2l, r1m, r2m, rb1e, rb2e,r1e]
                case fp =>
                  refine ⟨?_, ?_, ?_, ?_, ?_⟩
                  all_goals
                    simp (disch := omega) only [sI_off, bI_off, sL_off, bL_off, r1l, r2l, rb1l, rb2l, r1m, r2m, rb1e, rb2e,r1e]
                case fw =>
                  refine ⟨?_, fun q_ ha_ hb_ => ?_⟩
                  all_goals
                    simp (disch := omega) only [sI_off, bI_off, sL_off, bL_off, r1l, r2l, rb1l, rb2l, r1m, r2m, rb1e, rb2e,r1e]
                case fm =>
                  refine ⟨?_, ?_, fun q_ ha_ hb_ => ?_⟩
                  all_goals
                    simp (disch := omega) only [sI_off, bI_off, sL_off, bL_off, r1l, r2l, rb1l, rb2l, r1m, r2m, rb1e, rb2e,r1e]
              · skip
                exact absurd (inB_c ec_ hc_) hb_
            · skip
              refine wa_iret dX5_mix_82 rfl ?_
              rw [hk_, he_]
              obtain rfl : n_ = m_ := by omega
              have ec_ := gMix_c (p := p) (q := q) (f := mN μ r_) (f2 := mN μ u_) s4_ t4_
              refine MW_of (by decide) [some (.ref 73), some (.int (nI r_)), some (.int p), some (.int (nI u_)), some (.int q), none] rfl (Nat.le_of_ble_eq_true rfl) ?_
              refine wa_iload_n dX6_mix_0 rfl ?_
              refine wa_callS1 (k' := kX6_isRow) (d' := 1) dX6_mix_1 lmX6_100 ksX6_isRow (by decide) (by omega) (Nat.le_of_ble_eq_true rfl) ?_
              refine isRo_1 (by omega) hr_ ?_
              refine wa_if_eqF 43 dX6_mix_4 (by decide) (by decide) ?_
              refine wa_iload_n dX6_mix_7 rfl ?_
              refine wa_callS1 (k' := kX6_isRow) (d' := 1) dX6_mix_8 lmX6_100 ksX6_isRow (by decide) (by omega) (Nat.le_of_ble_eq_true rfl) ?_
              refine isRo_1 (by omega) hu_ ?_
              refine wa_if_eqF 43 dX6_mix_11 (by decide) (by decide) ?_
              refine wa_iload_n dX6_mix_14 rfl ?_
              refine wa_i2l dX6_mix_15 ?_
              refine wa_ldc2 (-1000) dX6_mix_16 lcX6_131 ?_
              refine wa_ldc2 (1000) dX6_mix_19 lcX6_133 ?_
              refine wa_callS3 (k' := kX6_in) (d' := 0) dX6_mix_22 lmX6_60 ksX6_in (by decide) (by omega) (Nat.le_of_ble_eq_true rfl) ?_
              refine in_1 (by rw [Int32.toInt_toInt64, kN1000, k1000]; exact hp_) ?_
              refine wa_if_eqF 43 dX6_mix_25 (by decide) (by decide) ?_
              refine wa_iload dX6_mix_28 rfl ?_
              refine wa_i2l dX6_mix_30 ?_
              refine wa_ldc2 (-1000) dX6_mix_31 lcX6_131 ?_
              refine wa_ldc2 (1000) dX6_mix_34 lcX6_133 ?_
              refine wa_callS3 (k' := kX6_in) (d' := 0) dX6_mix_37 lmX6_60 ksX6_in (by decide) (by omega) (Nat.le_of_ble_eq_true rfl) ?_
              refine in_1 (by rw [Int32.toInt_toInt64, kN1000, k1000]; exact hq_) ?_
              refine wa_if_neT 46 dX6_mix_40 (by decide) (by decide) ?_
              refine wa_aload_n dX6_mix_46 rfl ?_
              refine wa_getR dX6_mix_47 fgX6_26 (by first | assumption | rfl) (by rfl) ?_
              refine wa_iload_n dX6_mix_50 rfl ?_
              refine wa_iald _ dX6_mix_51 (by first | assumption | rfl) (by first | with_reducible rfl | with_reducible assumption | with_reducible exact ix_ma _ _ _ | with_reducible exact ix_maa _ _ _ _ | with_reducible exact ix_a _ _ | with_reducible exact ix_mama _ _ _ _ _) (by omega) ?_
              refine wa_aload_n dX6_mix_52 rfl ?_
              refine wa_getR dX6_mix_53 fgX6_26 (by first | assumption | rfl) (by rfl) ?_
              refine wa_iload_n dX6_mix_56 rfl ?_
              refine wa_iald _ dX6_mix_57 (by first | assumption | rfl) (by first | with_reducible rfl | with_reducible assumption | with_reducible exact ix_ma _ _ _ | with_reducible exact ix_maa _ _ _ _ | with_reducible exact ix_a _ _ | with_reducible exact ix_mama _ _ _ _ _) (by omega) ?_
              refine wa_ic_eqT 64 dX6_mix_58 (by decide) (by simp (disch := omega) only [sI_off, bI_off, sL_off, bL_off, r1l, r2l, rb1l, rb2l, r1m, r2m, rb1e, rb2e, r1e, r2e]; rw [s3_, t3_]) ?_
              refine wa_mix (n := n_) (v := mN μ r_) (w := mN μ u_) (by omega) hr_ hu_ (by simp (disch := omega) only [sI_off, bI_off, sL_off, bL_off, r1l, r2l, rb1l, rb2l, r1m, r2m, rb1e, rb2e, r1e, r2e]; exact s3_) s2_ (fun i => by simp (disch := omega) only [sI_off, bI_off, sL_off, bL_off, r1l, r2l, rb1l, rb2l, r1m, r2m, rb1e, rb2e, r1e, r2e]; rfl) (fun i => by simp (disch := omega) only [sI_off, bI_off, sL_off, bL_off, r1l, r2l, rb1l, rb2l, r1m, r2m, rb1e, rb2e, r1e, r2e]; rfl) (fun hc_ F_ => ?_) (fun hc_ F_ => ?_)
              · skip
                exact absurd (inB_c (fun i hi => (ec_ i hi).symm) hb_) hc_
              · skip
                refine ⟨rfl, ?_⟩
                refine Rel_R (k := r_) (n := n_) hrel ?relr ?fs ?fr ?fp ?fw ?fm
                case fs =>
                  intro j_ hj_
                  refine ⟨?_, ?_, ?_, ?_, ?_, ?_, fun i_ hi_ => ?_, fun i_ hi_ => ?_⟩
                  all_goals
                    simp (disch := omega) only [sI_off, bI_off, sL_off, bL_off, r1l, r2l, rb1l, rb2l, r1m, r2m, rb1e, rb2e,rwF_no]
                case fr =>
                  intro r_ hr_ hrk_
                  refine ⟨?_, ?_, ?_, fun i_ hi_ => ?_⟩
                  all_goals
                    simp (disch := omega) only [sI_off, bI_off, sL_off, bL_off, r1l, r2l, rb1l, rb2l, r1m, r2m, rb1e, rb2e,rwF_no]
                case fp =>
                  refine ⟨?_, ?_, ?_, ?_, ?_⟩
                  all_goals
                    simp (disch := omega) only [sI_off, bI_off, sL_off, bL_off, r1l, r2l, rb1l, rb2l, r1m, r2m, rb1e, rb2e,rwF_no]
                case fw =>
                  refine ⟨?_, fun q_ ha_ hb_ => ?_⟩
                  all_goals
                    simp (disch := omega) only [sI_off, bI_off, sL_off, bL_off, r1l, r2l, rb1l, rb2l, r1m, r2m, rb1e, rb2e,rwF_no]
                case fm =>
                  refine ⟨?_, ?_, fun q_ ha_ hb_ => ?_⟩
                  all_goals
                    simp (disch := omega) only [sI_off, bI_off, sL_off, bL_off, r1l, r2l, rb1l, rb2l, r1m, r2m, rb1e, rb2e,rwF_no]
                case relr =>
                  refine ⟨by simp (disch := omega) only [sI_off, bI_off, sL_off, bL_off, r1l, r2l, rb1l, rb2l, r1m, r2m, rb1e, rb2e, r1e, r2e]; exact s1_, s2_, by simp (disch := omega) only [sI_off, bI_off, sL_off, bL_off, r1l, r2l, rb1l, rb2l, r1m, r2m, rb1e, rb2e, r1e, r2e]; exact s3_, fun i_ hi_ => ?_, ?_⟩
                  · simp (disch := omega) only [sI_off, bI_off, sL_off, bL_off, r1l, r2l, rb1l, rb2l, r1m, r2m, rb1e, rb2e, r1e, r2e]
                    rw [rwF_at hi_, cpy_lt hi_, frF_lt hi_]
                    exact ec_ i_ hi_
                  · simp (disch := omega) only [sI_off, bI_off, sL_off, bL_off, r1l, r2l, rb1l, rb2l, r1m, r2m, rb1e, rb2e, r1e, r2e]
                    refine inB_c (f := gMix (μ.2 (43 + 5 * r_ + 1)) (μ.2 (43 + 5 * u_ + 1)) p q) (fun i hi => ?_) hb_
                    rw [cpy_lt hi, frF_lt hi]
          · try simp (disch := omega) only [nI_toInt, Int32.toInt_toInt64] at c58_7
            refine wa_bipush (-3) dX5_mix_61 (by decide) ?_
            refine wa_iret dX5_mix_63 rfl ?_
            rw [hk_, he_]
            refine MW_of (by decide) [some (.ref 73), some (.int (nI r_)), some (.int p), some (.int (nI u_)), some (.int q), none] rfl (Nat.le_of_ble_eq_true rfl) ?_
            refine wa_iload_n dX6_mix_0 rfl ?_
            refine wa_callS1 (k' := kX6_isRow) (d' := 1) dX6_mix_1 lmX6_100 ksX6_isRow (by decide) (by omega) (Nat.le_of_ble_eq_true rfl) ?_
            refine isRo_1 (by omega) hr_ ?_
            refine wa_if_eqF 43 dX6_mix_4 (by decide) (by decide) ?_
            refine wa_iload_n dX6_mix_7 rfl ?_
            refine wa_callS1 (k' := kX6_isRow) (d' := 1) dX6_mix_8 lmX6_100 ksX6_isRow (by decide) (by omega) (Nat.le_of_ble_eq_true rfl) ?_
            refine isRo_1 (by omega) hu_ ?_
            refine wa_if_eqF 43 dX6_mix_11 (by decide) (by decide) ?_
            refine wa_iload_n dX6_mix_14 rfl ?_
            refine wa_i2l dX6_mix_15 ?_
            refine wa_ldc2 (-1000) dX6_mix_16 lcX6_131 ?_
            refine wa_ldc2 (1000) dX6_mix_19 lcX6_133 ?_
            refine wa_callS3 (k' := kX6_in) (d' := 0) dX6_mix_22 lmX6_60 ksX6_in (by decide) (by omega) (Nat.le_of_ble_eq_true rfl) ?_
            refine in_1 (by rw [Int32.toInt_toInt64, kN1000, k1000]; exact hp_) ?_
            refine wa_if_eqF 43 dX6_mix_25 (by decide) (by decide) ?_
            refine wa_iload dX6_mix_28 rfl ?_
            refine wa_i2l dX6_mix_30 ?_
            refine wa_ldc2 (-1000) dX6_mix_31 lcX6_131 ?_
            refine wa_ldc2 (1000) dX6_mix_34 lcX6_133 ?_
            refine wa_callS3 (k' := kX6_in) (d' := 0) dX6_mix_37 lmX6_60 ksX6_in (by decide) (by omega) (Nat.le_of_ble_eq_true rfl) ?_
            refine in_1 (by rw [Int32.toInt_toInt64, kN1000, k1000]; exact hq_) ?_
            refine wa_if_neT 46 dX6_mix_40 (by decide) (by decide) ?_
            refine wa_aload_n dX6_mix_46 rfl ?_
            refine wa_getR dX6_mix_47 fgX6_26 (by first | assumption | rfl) (by rfl) ?_
            refine wa_iload_n dX6_mix_50 rfl ?_
            refine wa_iald _ dX6_mix_51 (by first | assumption | rfl) (by first | with_reducible rfl | with_reducible assumption | with_reducible exact ix_ma _ _ _ | with_reducible exact ix_maa _ _ _ _ | with_reducible exact ix_a _ _ | with_reducible exact ix_mama _ _ _ _ _) (by omega) ?_
            refine wa_aload_n dX6_mix_52 rfl ?_
            refine wa_getR dX6_mix_53 fgX6_26 (by first | assumption | rfl) (by rfl) ?_
            refine wa_iload_n dX6_mix_56 rfl ?_
            refine wa_iald _ dX6_mix_57 (by first | assumption | rfl) (by first | with_reducible rfl | with_reducible assumption | with_reducible exact ix_ma _ _ _ | with_reducible exact ix_maa _ _ _ _ | with_reducible exact ix_a _ _ | with_reducible exact ix_mama _ _ _ _ _) (by omega) ?_
            refine wa_ic_eqF 64 dX6_mix_58 (by decide) (by rw [s3_, t3_, nI_toInt (by omega), nI_toInt (by omega)]; omega) ?_
            refine wa_bipush (-3) dX6_mix_61 (by decide) ?_
            refine wa_iret dX6_mix_63 rfl ?_
            exact ⟨rfl, hrel.up⟩
        · skip
          rw [k1e3.1, k1e3.2, Int32.toInt_toInt64] at hq_
          refine wa_if_neF 40 dX5_mix_34 (by decide) (by decide) ?_
          refine wa_bipush (-2) dX5_mix_37 (by decide) ?_
          refine wa_iret dX5_mix_39 rfl ?_
          skip
          rw [hk_, he_]
          refine MW_of (by decide) [some (.ref 73), some (.int (nI r_)), some (.int p), some (.int (nI u_)), some (.int q), none] rfl (Nat.le_of_ble_eq_true rfl) ?_
          refine wa_iload_n dX6_mix_0 rfl ?_
          refine wa_callS1 (k' := kX6_isRow) (d' := 1) dX6_mix_1 lmX6_100 ksX6_isRow (by decide) (by omega) (Nat.le_of_ble_eq_true rfl) ?_
          refine isRo_1 (by omega) hr_ ?_
          refine wa_if_eqF 43 dX6_mix_4 (by decide) (by decide) ?_
          refine wa_iload_n dX6_mix_7 rfl ?_
          refine wa_callS1 (k' := kX6_isRow) (d' := 1) dX6_mix_8 lmX6_100 ksX6_isRow (by decide) (by omega) (Nat.le_of_ble_eq_true rfl) ?_
          refine isRo_1 (by omega) hu_ ?_
          refine wa_if_eqF 43 dX6_mix_11 (by decide) (by decide) ?_
          refine wa_iload_n dX6_mix_14 rfl ?_
          refine wa_i2l dX6_mix_15 ?_
          refine wa_ldc2 (-1000) dX6_mix_16 lcX6_131 ?_
          refine wa_ldc2 (1000) dX6_mix_19 lcX6_133 ?_
          refine wa_callS3 (k' := kX6_in) (d' := 0) dX6_mix_22 lmX6_60 ksX6_in (by decide) (by omega) (Nat.le_of_ble_eq_true rfl) ?_
          refine wp_X6_in (fun hi_ => ?_) (fun hi_ => ?_)
          · skip
            rw [Int32.toInt_toInt64, kN1000, k1000] at hi_
            try (exfalso; omega)
            all_goals
              skip
              refine wa_if_eqF 43 dX6_mix_25 (by decide) (by decide) ?_
              refine wa_iload dX6_mix_28 rfl ?_
              refine wa_i2l dX6_mix_30 ?_
              refine wa_ldc2 (-1000) dX6_mix_31 lcX6_131 ?_
              refine wa_ldc2 (1000) dX6_mix_34 lcX6_133 ?_
              refine wa_callS3 (k' := kX6_in) (d' := 0) dX6_mix_37 lmX6_60 ksX6_in (by decide) (by omega) (Nat.le_of_ble_eq_true rfl) ?_
              refine wp_X6_in (fun hj_ => ?_) (fun hj_ => ?_)
              · skip
                rw [Int32.toInt_toInt64, kN1000, k1000] at hj_
                try (exfalso; omega)
                all_goals
                  skip
                  refine wa_if_neT 46 dX6_mix_40 (by decide) (by decide) ?_
                  skip
              · skip
                rw [Int32.toInt_toInt64, kN1000, k1000] at hj_
                try (exfalso; omega)
                all_goals
                  skip
                  refine wa_if_neF 46 dX6_mix_40 (by decide) (by decide) ?_
                  refine wa_bipush (-2) dX6_mix_43 (by decide) ?_
                  refine wa_iret dX6_mix_45 rfl ?_
                  exact ⟨rfl, hrel.up⟩
          · skip
            rw [Int32.toInt_toInt64, kN1000, k1000] at hi_
            try (exfalso; omega)
            all_goals
              skip
              refine wa_if_eqT 43 dX6_mix_25 (by decide) (by decide) ?_
              refine wa_bipush (-2) dX6_mix_43 (by decide) ?_
              refine wa_iret dX6_mix_45 rfl ?_
              exact ⟨rfl, hrel.up⟩
      · skip
        rw [k1e3.1, k1e3.2, Int32.toInt_toInt64] at hp_
        refine wa_if_eqT 37 dX5_mix_22 (by decide) (by decide) ?_
        refine wa_bipush (-2) dX5_mix_37 (by decide) ?_
        refine wa_iret dX5_mix_39 rfl ?_
        skip
        rw [hk_, he_]
        refine MW_of (by decide) [some (.ref 73), some (.int (nI r_)), some (.int p), some (.int (nI u_)), some (.int q), none] rfl (Nat.le_of_ble_eq_true rfl) ?_
        refine wa_iload_n dX6_mix_0 rfl ?_
        refine wa_callS1 (k' := kX6_isRow) (d' := 1) dX6_mix_1 lmX6_100 ksX6_isRow (by decide) (by omega) (Nat.le_of_ble_eq_true rfl) ?_
        refine isRo_1 (by omega) hr_ ?_
        refine wa_if_eqF 43 dX6_mix_4 (by decide) (by decide) ?_
        refine wa_iload_n dX6_mix_7 rfl ?_
        refine wa_callS1 (k' := kX6_isRow) (d' := 1) dX6_mix_8 lmX6_100 ksX6_isRow (by decide) (by omega) (Nat.le_of_ble_eq_true rfl) ?_
        refine isRo_1 (by omega) hu_ ?_
        refine wa_if_eqF 43 dX6_mix_11 (by decide) (by decide) ?_
        refine wa_iload_n dX6_mix_14 rfl ?_
        refine wa_i2l dX6_mix_15 ?_
        refine wa_ldc2 (-1000) dX6_mix_16 lcX6_131 ?_
        refine wa_ldc2 (1000) dX6_mix_19 lcX6_133 ?_
        refine wa_callS3 (k' := kX6_in) (d' := 0) dX6_mix_22 lmX6_60 ksX6_in (by decide) (by omega) (Nat.le_of_ble_eq_true rfl) ?_
        refine wp_X6_in (fun hi_ => ?_) (fun hi_ => ?_)
        · skip
          rw [Int32.toInt_toInt64, kN1000, k1000] at hi_
          try (exfalso; omega)
          all_goals
            skip
            refine wa_if_eqF 43 dX6_mix_25 (by decide) (by decide) ?_
            refine wa_iload dX6_mix_28 rfl ?_
            refine wa_i2l dX6_mix_30 ?_
            refine wa_ldc2 (-1000) dX6_mix_31 lcX6_131 ?_
            refine wa_ldc2 (1000) dX6_mix_34 lcX6_133 ?_
            refine wa_callS3 (k' := kX6_in) (d' := 0) dX6_mix_37 lmX6_60 ksX6_in (by decide) (by omega) (Nat.le_of_ble_eq_true rfl) ?_
            refine wp_X6_in (fun hj_ => ?_) (fun hj_ => ?_)
            · skip
              rw [Int32.toInt_toInt64, kN1000, k1000] at hj_
              try (exfalso; omega)
              all_goals
                skip
                refine wa_if_neT 46 dX6_mix_40 (by decide) (by decide) ?_
                skip
            · skip
              rw [Int32.toInt_toInt64, kN1000, k1000] at hj_
              try (exfalso; omega)
              all_goals
                skip
                refine wa_if_neF 46 dX6_mix_40 (by decide) (by decide) ?_
                refine wa_bipush (-2) dX6_mix_43 (by decide) ?_
                refine wa_iret dX6_mix_45 rfl ?_
                exact ⟨rfl, hrel.up⟩
        · skip
          rw [Int32.toInt_toInt64, kN1000, k1000] at hi_
          try (exfalso; omega)
          all_goals
            skip
            refine wa_if_eqT 43 dX6_mix_25 (by decide) (by decide) ?_
            refine wa_bipush (-2) dX6_mix_43 (by decide) ?_
            refine wa_iret dX6_mix_45 rfl ?_
            exact ⟨rfl, hrel.up⟩
    · skip
      refine wa_if_eqT 37 dX5_mix_11 (by decide) (by decide) ?_
      refine wa_bipush (-2) dX5_mix_37 (by decide) ?_
      refine wa_iret dX5_mix_39 rfl ?_
      rw [hk_]
      refine MW_of (by decide) [some (.ref 73), some (.int (nI r_)), some (.int p), some (.int e), some (.int q), none] rfl (Nat.le_of_ble_eq_true rfl) ?_
      refine wa_iload_n dX6_mix_0 rfl ?_
      refine wa_callS1 (k' := kX6_isRow) (d' := 1) dX6_mix_1 lmX6_100 ksX6_isRow (by decide) (by omega) (Nat.le_of_ble_eq_true rfl) ?_
      refine isRo_1 (by omega) hr_ ?_
      refine wa_if_eqF 43 dX6_mix_4 (by decide) (by decide) ?_
      refine wa_iload_n dX6_mix_7 rfl ?_
      refine wa_callS1 (k' := kX6_isRow) (d' := 1) dX6_mix_8 lmX6_100 ksX6_isRow (by decide) (by omega) (Nat.le_of_ble_eq_true rfl) ?_
      refine isRo_0 (by omega) hoob ?_
      refine wa_if_eqT 43 dX6_mix_11 (by decide) (by decide) ?_
      refine wa_bipush (-2) dX6_mix_43 (by decide) ?_
      refine wa_iret dX6_mix_45 rfl ?_
      exact ⟨rfl, hrel.up⟩
  · skip
    refine wa_if_eqT 37 dX5_mix_4 (by decide) (by decide) ?_
    refine wa_bipush (-2) dX5_mix_37 (by decide) ?_
    refine wa_iret dX5_mix_39 rfl ?_
    skip
    refine MW_of (by decide) [some (.ref 73), some (.int k), some (.int p), some (.int e), some (.int q), none] rfl (Nat.le_of_ble_eq_true rfl) ?_
    refine wa_iload_n dX6_mix_0 rfl ?_
    refine wa_callS1 (k' := kX6_isRow) (d' := 1) dX6_mix_1 lmX6_100 ksX6_isRow (by decide) (by omega) (Nat.le_of_ble_eq_true rfl) ?_
    refine isRo_0 (by omega) hoob ?_
    refine wa_if_eqT 43 dX6_mix_4 (by decide) (by decide) ?_
    refine wa_bipush (-2) dX6_mix_43 (by decide) ?_
    refine wa_iret dX6_mix_45 rfl ?_
    exact ⟨rfl, hrel.up⟩
