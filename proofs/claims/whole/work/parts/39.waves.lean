/-! PAIRS: a wave, and rows of waves -/
theorem k4_L : (4 : Int64).toInt = 4 := by decide
theorem mUps_85 {μ : Mem} {r n w : Nat} (h : w < upN (mN μ r) n) : (mUps μ r n).1 85 w = nI (posU (mN μ r) n w) := by
  unfold mUps
  rw [sI_off (by omega), rb1e]
  exact upsF_at _ _ n w h
theorem mUps_80 {μ : Mem} {r n q : Nat} : (mUps μ r n).2 80 q = μ.2 80 q := rfl
theorem in4_1 {d c : Nat} {μ : Mem} {Q : QM} (hc : c < 5) (hQ : Q (some (.int (nI 1))) μ) : MW kX6_in d [.long (nI c).toInt64, .long 0, .long 4] μ Q :=
  in_1 (by rw [Int32.toInt_toInt64, z64, k4_L, nI_toInt (by omega)]; omega) hQ
theorem wp_X6_waveok {d r n w c : Nat} {μ : Mem} {Q : QM} (hd : 3 ≤ d) (hr : r < 6) (hn : μ.1 79 r = nI n) (hn64 : n ≤ 64) (hw : w < wvN (mN μ r) n) (hc : c < 5) (hQ : Q (some (.long (wfL (mN μ r) (posU (mN μ r) n w) (posU (mN μ r) n (w + 1)) c))) (mUps μ r n)) : MW kX6_wave d [.ref 73, .int (nI r), .int (nI w), .int (nI c)] μ Q := by
  have hle := upN_le (mN μ r) n
  have hw2 : w + 1 < upN (mN μ r) n := by unfold wvN at hw; omega
  have hwm : wvN (mN μ r) n ≤ 64 := by unfold wvN; omega
  have hab := posU_inc (mN μ r) n w hw2
  have hb := posU_lt (mN μ r) n (w + 1) hw2
  have ua := mUps_85 (μ := μ) (r := r) (n := n) (w := w) (by omega)
  have ub := mUps_85 (μ := μ) (r := r) (n := n) (w := w + 1) hw2
  have hvv : ∀ i, (mUps μ r n).2 80 (64 * r + i) = mN μ r i := fun i => rfl
  refine MW_of (by decide) [some (.ref 73), some (.int (nI r)), some (.int (nI w)), some (.int (nI c))] rfl (Nat.le_of_ble_eq_true rfl) ?_
  have hcc : c = 0 ∨ c = 1 ∨ c = 2 ∨ c = 3 ∨ c = 4 := by omega
  have K : WA kX6_wave d Q 44 [some (.ref 73), some (.int (nI r)), some (.int (nI w)), some (.int (nI c))] [] (mUps μ r n) := by
    rcases hcc with rfl | rfl | rfl | rfl | rfl
    · refine wa_iload_n dX6_wave_44 rfl ?_
      refine wa_tsI 76 0 dX6_wave_45 (by decide) (by decide) (by decide) rfl (by decide) ?_
      refine wa_aload_n dX6_wave_76 rfl ?_
      refine wa_getR dX6_wave_77 fgX6_55 (by first | assumption | rfl) (by rfl) ?_
      refine wa_iload_n dX6_wave_80 rfl ?_
      refine wa_iald _ dX6_wave_81 (by first | assumption | rfl) (by first | with_reducible rfl | with_reducible assumption | with_reducible exact ix_ma _ _ _ | with_reducible exact ix_maa _ _ _ _ | with_reducible exact ix_a _ _ | with_reducible exact ix_mama _ _ _ _ _) (by omega) ?_
      refine wa_i2l dX6_wave_82 ?_
      refine wa_lret dX6_wave_83 rfl ?_
      rw [ua]; exact hQ
    · refine wa_iload_n dX6_wave_44 rfl ?_
      refine wa_tsI 84 1 dX6_wave_45 (by decide) (by decide) (by decide) rfl (by decide) ?_
      refine wa_aload_n dX6_wave_84 rfl ?_
      refine wa_getR dX6_wave_85 fgX6_55 (by first | assumption | rfl) (by rfl) ?_
      refine wa_iload_n dX6_wave_88 rfl ?_
      refine wa_iconst (nI 1) dX6_wave_89 (by decide) ?_
      refine wa_iadd dX6_wave_90 ?_
      refine wa_iald _ dX6_wave_91 (by first | assumption | rfl) (by first | with_reducible rfl | with_reducible assumption | with_reducible exact ix_ma _ _ _ | with_reducible exact ix_maa _ _ _ _ | with_reducible exact ix_a _ _ | with_reducible exact ix_mama _ _ _ _ _) (by omega) ?_
      refine wa_aload_n dX6_wave_92 rfl ?_
      refine wa_getR dX6_wave_93 fgX6_55 (by first | assumption | rfl) (by rfl) ?_
      refine wa_iload_n dX6_wave_96 rfl ?_
      refine wa_iald _ dX6_wave_97 (by first | assumption | rfl) (by first | with_reducible rfl | with_reducible assumption | with_reducible exact ix_ma _ _ _ | with_reducible exact ix_maa _ _ _ _ | with_reducible exact ix_a _ _ | with_reducible exact ix_mama _ _ _ _ _) (by omega) ?_
      refine wa_isub dX6_wave_98 ?_
      refine wa_i2l dX6_wave_99 ?_
      refine wa_lret dX6_wave_100 rfl ?_
      rw [ua, ub, pk_sub (by omega)]; exact hQ
    · refine wa_iload_n dX6_wave_44 rfl ?_
      refine wa_tsI 101 2 dX6_wave_45 (by decide) (by decide) (by decide) rfl (by decide) ?_
      refine wa_aload_n dX6_wave_101 rfl ?_
      refine wa_iload_n dX6_wave_102 rfl ?_
      refine wa_iload_n dX6_wave_103 rfl ?_
      refine wa_iconst (nI 1) dX6_wave_104 (by decide) ?_
      refine wa_callV3 (k' := kX6_end) (d' := 0) dX6_wave_105 lmX6_150 kvX6_end (by first | assumption | rfl) (by rfl) (by decide) (by omega) (Nat.le_of_ble_eq_true rfl) ?_
      refine wp_X6_end hr (by omega) hvv ua ub hab (by omega) (fun q => absurd q (by decide)) (fun _ => ?_)
      refine wa_lret dX6_wave_108 rfl ?_
      exact hQ
    · refine wa_iload_n dX6_wave_44 rfl ?_
      refine wa_tsI 109 3 dX6_wave_45 (by decide) (by decide) (by decide) rfl (by decide) ?_
      refine wa_aload_n dX6_wave_109 rfl ?_
      refine wa_iload_n dX6_wave_110 rfl ?_
      refine wa_iload_n dX6_wave_111 rfl ?_
      refine wa_iconst (nI 0) dX6_wave_112 (by decide) ?_
      refine wa_callV3 (k' := kX6_end) (d' := 0) dX6_wave_113 lmX6_150 kvX6_end (by first | assumption | rfl) (by rfl) (by decide) (by omega) (Nat.le_of_ble_eq_true rfl) ?_
      refine wp_X6_end hr (by omega) hvv ua ub hab (by omega) (fun _ => ?_) (fun q => absurd nI_0z q)
      refine wa_lret dX6_wave_116 rfl ?_
      exact hQ
    · refine wa_iload_n dX6_wave_44 rfl ?_
      refine wa_tsO 117 dX6_wave_45 (by decide) (by decide) ?_
      refine wa_aload_n dX6_wave_117 rfl ?_
      refine wa_iload_n dX6_wave_118 rfl ?_
      refine wa_iload_n dX6_wave_119 rfl ?_
      refine wa_callV2 (k' := kX6_height) (d' := 1) dX6_wave_120 lmX6_159 kvX6_height (by first | assumption | rfl) (by rfl) (by decide) (by omega) (Nat.le_of_ble_eq_true rfl) ?_
      refine wp_X6_height (by omega) hr (by omega) hvv ua ub hab (by omega) ?_
      refine wa_lret dX6_wave_123 rfl ?_
      exact hQ
  refine wa_iload_n dX6_wave_0 rfl ?_
  refine wa_callS1 (k' := kX6_isRow) (d' := 1) dX6_wave_1 lmX6_100 ksX6_isRow (by decide) (by omega) (Nat.le_of_ble_eq_true rfl) ?_
  refine isRo_1 (by omega) hr ?_
  refine wa_if_eqF 19 dX6_wave_4 (by decide) (by decide) ?_
  refine wa_iload_n dX6_wave_7 rfl ?_
  refine wa_i2l dX6_wave_8 ?_
  refine wa_lconst (0) dX6_wave_9 (by decide) ?_
  refine wa_ldc2 (4) dX6_wave_10 lcX6_157 ?_
  refine wa_callS3 (k' := kX6_in) (d' := 0) dX6_wave_13 lmX6_60 ksX6_in (by decide) (by omega) (Nat.le_of_ble_eq_true rfl) ?_
  refine in4_1 hc ?_
  refine wa_if_neT 23 dX6_wave_16 (by decide) (by decide) ?_
  refine wa_iload_n dX6_wave_23 rfl ?_
  refine wa_i2l dX6_wave_24 ?_
  refine wa_lconst (0) dX6_wave_25 (by decide) ?_
  refine wa_aload_n dX6_wave_26 rfl ?_
  refine wa_iload_n dX6_wave_27 rfl ?_
  refine wa_callV1 (k' := kX6_waveMany) (d' := 1) dX6_wave_28 lmX6_154 kvX6_waveMany (by first | assumption | rfl) (by rfl) (by decide) (by omega) (Nat.le_of_ble_eq_true rfl) ?_
  refine wp_X6_waveMany (n := n) (by omega) hr hn hn64 ?_
  refine wa_iconst (nI 1) dX6_wave_31 (by decide) ?_
  refine wa_isub dX6_wave_32 ?_
  refine wa_i2l dX6_wave_33 ?_
  refine wa_callS3 (k' := kX6_in) (d' := 0) dX6_wave_34 lmX6_60 ksX6_in (by decide) (by omega) (Nat.le_of_ble_eq_true rfl) ?_
  refine in_n1 rfl hwm hw ?_
  refine wa_if_neT 44 dX6_wave_37 (by decide) (by decide) ?_
  exact K
theorem gmx_c {f g : Nat → Int64} {n a : Nat} (h : ∀ i, i < n → f i = g i) (ha : a < n) : ∀ m, a + m ≤ n → gmx f a m = gmx g a m
  | 0, _ => h a ha
  | m + 1, q => by rw [gmx, gmx, gmx_c h ha m (by omega), h (a + m) (by omega)]
theorem gmn_c {f g : Nat → Int64} {n a : Nat} (h : ∀ i, i < n → f i = g i) (ha : a < n) : ∀ m, a + m ≤ n → gmn f a m = gmn g a m
  | 0, _ => h a ha
  | m + 1, q => by rw [gmn, gmn, gmn_c h ha m (by omega), h (a + m) (by omega)]
theorem wfL_c {f g : Nat → Int64} {n a b : Nat} (c : Nat) (h : ∀ i, i < n → f i = g i) (hab : a < b) (hb : b < n) : wfL f a b c = wfL g a b c := by
  unfold wfL
  rw [gmx_c h (by omega) (b - a) (by omega), gmn_c h (by omega) (b - a) (by omega)]
theorem wvN_c {f g : Nat → Int64} {n : Nat} (h : ∀ i, i < n → f i = g i) : wvN f n = wvN g n := by
  rw [wvN, wvN, upN_c h]
theorem mN_offI {ν : Mem} {t r : Nat} {f : Nat → Int32} : mN (bI ν t f) r = mN ν r := rfl
theorem nI5 : (nI 5).toInt = 5 := by decide
theorem pr_wave (k w c : Int32) : PR kX5_wave kX6_wave [.int k, .int w, .int c] := by
  intro N μ d c_ hd hc hN hrel
  have e5_ := nI5
  refine MW_of (by decide) [some (.ref 0), some (.int k), some (.int w), some (.int c)] rfl (Nat.le_of_ble_eq_true rfl) ?_
  refine wa_iload_n dX5_wave_0 rfl ?_
  refine wa_callS1 (k' := kX5_isRow) (d' := 0) dX5_wave_1 lmX5_111 ksX5_isRow (by decide) (by omega) (Nat.le_of_ble_eq_true rfl) ?_
  refine wp_X5_isRow (fun r_ hr_ hk_ => ?_) (fun hoob => ?_)
  · skip
    obtain ⟨n_, s1_, s2_, s3_, s4_, s5_⟩ := hrel.2.1 r_ (by omega); have hR_ := isR_k (show r_ < 6 by omega); have hsh_ := (isR_sh hR_).1; have hwl_ := upN_le (μ.2 (43 + 5 * r_ + 1)) n_; have hwv_ : wvN (μ.2 (43 + 5 * r_ + 1)) n_ ≤ 64 := by unfold wvN; omega
    refine wa_if_eqF 16 dX5_wave_4 (by decide) (by decide) ?_
    refine wa_iload_n dX5_wave_7 rfl ?_
    refine wa_if_lt 16 dX5_wave_8 (by decide) (fun c8_2 => ?_) (fun c8_2 => ?_)
    · try simp (disch := omega) only [nI_toInt, Int32.toInt_toInt64, e5_] at c8_2
      refine wa_ldc2 (-5000000000000000002) dX5_wave_16 lcX5_123 ?_
      refine wa_lret dX5_wave_19 rfl ?_
      try rw [hk_]
      refine MW_of (by decide) [some (.ref 73), some (.int _), some (.int w), some (.int c)] rfl (Nat.le_of_ble_eq_true rfl) ?_
      refine wa_iload_n dX6_wave_0 rfl ?_
      refine wa_callS1 (k' := kX6_isRow) (d' := 1) dX6_wave_1 lmX6_100 ksX6_isRow (by decide) (by omega) (Nat.le_of_ble_eq_true rfl) ?_
      first | refine isRo_1 (by omega) hr_ ?_ | (refine isRo_0 (by omega) hoob ?_)
      refine wa_if_eq 19 dX6_wave_4 (by decide) (fun c4_2 => ?_) (fun c4_2 => ?_)
      · try simp (disch := omega) only [nI_toInt, Int32.toInt_toInt64, not_true_eq_false] at c4_2
        try (exfalso; omega)
        all_goals
          skip
          refine wa_ldc2 (-5000000000000000002) dX6_wave_19 lcX6_104 ?_
          refine wa_lret dX6_wave_22 rfl ?_
          exact ⟨rfl, hrel.up⟩
      · try simp (disch := omega) only [nI_toInt, Int32.toInt_toInt64, not_true_eq_false] at c4_2
        try (exfalso; omega)
        all_goals
          skip
          refine wa_iload_n dX6_wave_7 rfl ?_
          refine wa_i2l dX6_wave_8 ?_
          refine wa_lconst (0) dX6_wave_9 (by decide) ?_
          refine wa_ldc2 (4) dX6_wave_10 lcX6_157 ?_
          refine wa_callS3 (k' := kX6_in) (d' := 0) dX6_wave_13 lmX6_60 ksX6_in (by decide) (by omega) (Nat.le_of_ble_eq_true rfl) ?_
          refine wp_X6_in (fun hy_ => ?_) (fun hy_ => ?_)
          · skip
            rw [Int32.toInt_toInt64, z64, k4_L] at hy_
            try (exfalso; omega)
            all_goals
              skip
              refine wa_if_neT 23 dX6_wave_16 (by decide) (by decide) ?_
              skip
          · skip
            rw [Int32.toInt_toInt64, z64, k4_L] at hy_
            try (exfalso; omega)
            all_goals
              skip
              refine wa_if_neF 23 dX6_wave_16 (by decide) (by decide) ?_
              refine wa_ldc2 (-5000000000000000002) dX6_wave_19 lcX6_104 ?_
              refine wa_lret dX6_wave_22 rfl ?_
              exact ⟨rfl, hrel.up⟩
    · try simp (disch := omega) only [nI_toInt, Int32.toInt_toInt64, e5_] at c8_2
      refine wa_iload_n dX5_wave_11 rfl ?_
      refine wa_iconst (nI 5) dX5_wave_12 (by decide) ?_
      refine wa_ic_lt 20 dX5_wave_13 (by decide) (fun c13_3 => ?_) (fun c13_3 => ?_)
      · try simp (disch := omega) only [nI_toInt, Int32.toInt_toInt64, e5_] at c13_3
        refine wa_iload_n dX5_wave_20 rfl ?_
        refine wa_if_lt 37 dX5_wave_21 (by decide) (fun c21_4 => ?_) (fun c21_4 => ?_)
        · try simp (disch := omega) only [nI_toInt, Int32.toInt_toInt64, e5_] at c21_4
          refine wa_ldc2 (-5000000000000000013) dX5_wave_37 lcX5_125 ?_
          refine wa_lret dX5_wave_40 rfl ?_
          rw [hk_]
          refine MW_of (by decide) [some (.ref 73), some (.int (nI r_)), some (.int w), some (.int c)] rfl (Nat.le_of_ble_eq_true rfl) ?_
          refine wa_iload_n dX6_wave_0 rfl ?_
          refine wa_callS1 (k' := kX6_isRow) (d' := 1) dX6_wave_1 lmX6_100 ksX6_isRow (by decide) (by omega) (Nat.le_of_ble_eq_true rfl) ?_
          refine isRo_1 (by omega) hr_ ?_
          refine wa_if_eqF 19 dX6_wave_4 (by decide) (by decide) ?_
          refine wa_iload_n dX6_wave_7 rfl ?_
          refine wa_i2l dX6_wave_8 ?_
          refine wa_lconst (0) dX6_wave_9 (by decide) ?_
          refine wa_ldc2 (4) dX6_wave_10 lcX6_157 ?_
          refine wa_callS3 (k' := kX6_in) (d' := 0) dX6_wave_13 lmX6_60 ksX6_in (by decide) (by omega) (Nat.le_of_ble_eq_true rfl) ?_
          refine in_1 (by rw [Int32.toInt_toInt64, z64, k4_L]; omega) ?_
          refine wa_if_neT 23 dX6_wave_16 (by decide) (by decide) ?_
          refine wa_iload_n dX6_wave_23 rfl ?_
          refine wa_i2l dX6_wave_24 ?_
          refine wa_lconst (0) dX6_wave_25 (by decide) ?_
          refine wa_aload_n dX6_wave_26 rfl ?_
          refine wa_iload_n dX6_wave_27 rfl ?_
          refine wa_callV1 (k' := kX6_waveMany) (d' := 1) dX6_wave_28 lmX6_154 kvX6_waveMany (by first | assumption | rfl) (by rfl) (by decide) (by omega) (Nat.le_of_ble_eq_true rfl) ?_
          refine wp_X6_waveMany (n := n_) (by omega) hr_ s3_ s2_ ?_
          refine wa_iconst (nI 1) dX6_wave_31 (by decide) ?_
          refine wa_isub dX6_wave_32 ?_
          refine wa_i2l dX6_wave_33 ?_
          refine wa_callS3 (k' := kX6_in) (d' := 0) dX6_wave_34 lmX6_60 ksX6_in (by decide) (by omega) (Nat.le_of_ble_eq_true rfl) ?_
          refine in_n0 rfl (by rw [wvN_c (f := mN μ r_) s4_]; omega) (by rw [wvN_c (f := mN μ r_) s4_]; omega) ?_
          refine wa_if_neF 44 dX6_wave_37 (by decide) (by decide) ?_
          refine wa_ldc2 (-5000000000000000013) dX6_wave_40 lcX6_84 ?_
          refine wa_lret dX6_wave_43 rfl ?_
          refine ⟨rfl, ?_⟩
          unfold mUps
          refine Rel_0 hrel ?fs ?fr ?fp ?fw ?fm
          case fs =>
            intro j_ hj_
            refine ⟨?_, ?_, ?_, ?_, ?_, ?_, fun i_ hi_ => ?_, fun i_ hi_ => ?_⟩
            all_goals
              simp (disch := omega) only [sI_off, bI_off, sL_off, bL_off, r1l, r2l, rb1l, rb2l, r1m, r2m, rb1e, rb2e,r1e]
          case fr =>
            intro r_ hr_
            refine ⟨?_, ?_, ?_, fun i_ hi_ => ?_⟩
            all_goals
              simp (disch := omega) only [sI_off, bI_off, sL_off, bL_off, r1l, r2l, rb1l, rb2l, r1m, r2m, rb1e, rb2e,r1e]
          case fp =>
            refine ⟨?_, ?_, ?_, ?_, ?_⟩
            all_goals
              simp (disch := omega) only [sI_off, bI_off, sL_off, bL_off, r1l, r2l, rb1l, rb2l, r1m, r2m, rb1e, rb2e,r1e]
          case fw =>
            refine ⟨?_, fun q_ ha_ hb_ => ?_⟩
            all_goals
              simp (disch := omega) only [sI_off, bI_off, sL_off, bL_off, r1l, r2l, rb1l, rb2l, r1m, r2m, rb1e, rb2e,r1e]
          case fm =>
            refine ⟨?_, ?_, fun q_ ha_ hb_ => ?_⟩
            all_goals
              simp (disch := omega) only [sI_off, bI_off, sL_off, bL_off, r1l, r2l, rb1l, rb2l, r1m, r2m, rb1e, rb2e,r1e]
        · try simp (disch := omega) only [nI_toInt, Int32.toInt_toInt64, e5_] at c21_4
          refine wa_iload_n dX5_wave_24 rfl ?_
          refine wa_aload_n dX5_wave_25 rfl ?_
          refine wa_getR dX5_wave_26 fgX5_18 (by first | assumption | rfl) (by rfl) ?_
          refine wa_iload_n dX5_wave_29 rfl ?_
          refine wa_aalR _ dX5_wave_30 (by first | assumption | rfl) (by exact hk_) (by omega) ?_
          rw [show arf 2 r_ = 43 + 5 * r_ from rfl]
          refine wa_callV0 (k' := kX2_findWaves) (d' := 1) dX5_wave_31 lmX5_172 kvX2_findWaves (by first | assumption | rfl) (by rfl) (by decide) (by omega) (Nat.le_of_ble_eq_true rfl) ?_
          refine wp_X2_findWaves (n := n_) hR_ (by omega) s1_ s2_ ?_
          refine wa_ic_lt 41 dX5_wave_34 (by decide) (fun c34_6 => ?_) (fun c34_6 => ?_)
          · try simp (disch := omega) only [nI_toInt, Int32.toInt_toInt64, e5_] at c34_6
            refine wa_aload_n dX5_wave_41 rfl ?_
            refine wa_getR dX5_wave_42 fgX5_18 (by first | assumption | rfl) (by rfl) ?_
            refine wa_iload_n dX5_wave_45 rfl ?_
            refine wa_aalR _ dX5_wave_46 (by first | assumption | rfl) (by exact hk_) (by omega) ?_
            rw [show arf 2 r_ = 43 + 5 * r_ from rfl]
            refine wa_iload_n dX5_wave_47 rfl ?_
            refine wa_iload_n dX5_wave_48 rfl ?_
            obtain ⟨w_, hw_, hpw_⟩ := nI_ex (x := w) (n := wvN (μ.2 (43 + 5 * r_ + 1)) n_) (by omega) (by omega) (by omega); obtain ⟨q_, hq_, hpq_⟩ := nI_ex (x := c) (n := 5) (by omega) (by omega) (by omega); have hw2_ : w_ + 1 < upN (μ.2 (43 + 5 * r_ + 1)) n_ := by {unfold wvN at hw_; omega}; have hab_ := posU_inc (μ.2 (43 + 5 * r_ + 1)) n_ w_ hw2_; have hbb_ := posU_lt (μ.2 (43 + 5 * r_ + 1)) n_ (w_ + 1) hw2_; rw [hpw_, hpq_]
            refine wa_callV2 (k' := kX2_waveFact) (d' := 1) dX5_wave_49 lmX5_175 kvX2_waveFact (by first | assumption | rfl) (by rfl) (by decide) (by omega) (Nat.le_of_ble_eq_true rfl) ?_
            refine wp_X2_waveFact (a := posU (μ.2 (43 + 5 * r_ + 1)) n_ w_) (b := posU (μ.2 (43 + 5 * r_ + 1)) n_ (w_ + 1)) hR_ (by omega) (by omega) (by rw [rb1e]; exact upsF_at _ _ n_ w_ (by omega)) (by rw [rb1e]; exact upsF_at _ _ n_ (w_ + 1) (by omega)) hab_ (by omega) hq_ ?_
            refine wa_lret dX5_wave_52 rfl ?_
            rw [hk_]
            have em_ : mN (bI μ (43 + 5 * r_ + 3) (upsF (μ.2 (43 + 5 * r_ + 1)) (μ.1 (43 + 5 * r_ + 3)) n_)) r_ = mN μ r_ := mN_offI
            refine wp_X6_waveok (n := n_) (by omega) hr_ (by simp (disch := omega) only [sI_off, bI_off, sL_off, bL_off, r1l, r2l, rb1l, rb2l, r1m, r2m, rb1e, rb2e, r1e, r2e]; exact s3_) s2_ (by rw [em_, wvN_c (f := mN μ r_) s4_]; exact hw_) hq_ ⟨?_, ?_⟩
            · rw [em_, posU_c (f := mN μ r_) s4_, wfL_c (f := mN μ r_) _ s4_ hab_ hbb_]
              rfl
            · unfold mUps
              refine Rel_0 hrel ?fs ?fr ?fp ?fw ?fm
              case fs =>
                intro j_ hj_
                refine ⟨?_, ?_, ?_, ?_, ?_, ?_, fun i_ hi_ => ?_, fun i_ hi_ => ?_⟩
                all_goals
                  simp (disch := omega) only [sI_off, bI_off, sL_off, bL_off, r1l, r2l, rb1l, rb2l, r1m, r2m, rb1e, rb2e,r1e]
              case fr =>
                intro r_ hr_
                refine ⟨?_, ?_, ?_, fun i_ hi_ => ?_⟩
                all_goals
                  simp (disch := omega) only [sI_off, bI_off, sL_off, bL_off, r1l, r2l, rb1l, rb2l, r1m, r2m, rb1e, rb2e,r1e]
              case fp =>
                refine ⟨?_, ?_, ?_, ?_, ?_⟩
                all_goals
                  simp (disch := omega) only [sI_off, bI_off, sL_off, bL_off, r1l, r2l, rb1l, rb2l, r1m, r2m, rb1e, rb2e,r1e]
              case fw =>
                refine ⟨?_, fun q_ ha_ hb_ => ?_⟩
                all_goals
                  simp (disch := omega) only [sI_off, bI_off, sL_off, bL_off, r1l, r2l, rb1l, rb2l, r1m, r2m, rb1e, rb2e,r1e]
              case fm =>
                refine ⟨?_, ?_, fun q_ ha_ hb_ => ?_⟩
                all_goals
                  simp (disch := omega) only [sI_off, bI_off, sL_off, bL_off, r1l, r2l, rb1l, rb2l, r1m, r2m, rb1e, rb2e,r1e]
          · try simp (disch := omega) only [nI_toInt, Int32.toInt_toInt64, e5_] at c34_6
            refine wa_ldc2 (-5000000000000000013) dX5_wave_37 lcX5_125 ?_
            refine wa_lret dX5_wave_40 rfl ?_
            rw [hk_]
            have em_ : mN (bI μ (43 + 5 * r_ + 3) (upsF (μ.2 (43 + 5 * r_ + 1)) (μ.1 (43 + 5 * r_ + 3)) n_)) r_ = mN μ r_ := mN_offI
            refine MW_of (by decide) [some (.ref 73), some (.int (nI r_)), some (.int w), some (.int c)] rfl (Nat.le_of_ble_eq_true rfl) ?_
            refine wa_iload_n dX6_wave_0 rfl ?_
            refine wa_callS1 (k' := kX6_isRow) (d' := 1) dX6_wave_1 lmX6_100 ksX6_isRow (by decide) (by omega) (Nat.le_of_ble_eq_true rfl) ?_
            refine isRo_1 (by omega) hr_ ?_
            refine wa_if_eqF 19 dX6_wave_4 (by decide) (by decide) ?_
            refine wa_iload_n dX6_wave_7 rfl ?_
            refine wa_i2l dX6_wave_8 ?_
            refine wa_lconst (0) dX6_wave_9 (by decide) ?_
            refine wa_ldc2 (4) dX6_wave_10 lcX6_157 ?_
            refine wa_callS3 (k' := kX6_in) (d' := 0) dX6_wave_13 lmX6_60 ksX6_in (by decide) (by omega) (Nat.le_of_ble_eq_true rfl) ?_
            refine in_1 (by rw [Int32.toInt_toInt64, z64, k4_L]; omega) ?_
            refine wa_if_neT 23 dX6_wave_16 (by decide) (by decide) ?_
            refine wa_iload_n dX6_wave_23 rfl ?_
            refine wa_i2l dX6_wave_24 ?_
            refine wa_lconst (0) dX6_wave_25 (by decide) ?_
            refine wa_aload_n dX6_wave_26 rfl ?_
            refine wa_iload_n dX6_wave_27 rfl ?_
            refine wa_callV1 (k' := kX6_waveMany) (d' := 1) dX6_wave_28 lmX6_154 kvX6_waveMany (by first | assumption | rfl) (by rfl) (by decide) (by omega) (Nat.le_of_ble_eq_true rfl) ?_
            refine wp_X6_waveMany (n := n_) (by omega) hr_ (by simp (disch := omega) only [sI_off, bI_off, sL_off, bL_off, r1l, r2l, rb1l, rb2l, r1m, r2m, rb1e, rb2e, r1e, r2e]; exact s3_) s2_ ?_
            refine wa_iconst (nI 1) dX6_wave_31 (by decide) ?_
            refine wa_isub dX6_wave_32 ?_
            refine wa_i2l dX6_wave_33 ?_
            refine wa_callS3 (k' := kX6_in) (d' := 0) dX6_wave_34 lmX6_60 ksX6_in (by decide) (by omega) (Nat.le_of_ble_eq_true rfl) ?_
            refine in_n0 rfl (by rw [em_, wvN_c (f := mN μ r_) s4_]; omega) (by rw [em_, wvN_c (f := mN μ r_) s4_]; omega) ?_
            refine wa_if_neF 44 dX6_wave_37 (by decide) (by decide) ?_
            refine wa_ldc2 (-5000000000000000013) dX6_wave_40 lcX6_84 ?_
            refine wa_lret dX6_wave_43 rfl ?_
            refine ⟨rfl, ?_⟩
            unfold mUps
            refine Rel_0 hrel ?fs ?fr ?fp ?fw ?fm
            case fs =>
              intro j_ hj_
              refine ⟨?_, ?_, ?_, ?_, ?_, ?_, fun i_ hi_ => ?_, fun i_ hi_ => ?_⟩
              all_goals
                simp (disch := omega) only [sI_off, bI_off, sL_off, bL_off, r1l, r2l, rb1l, rb2l, r1m, r2m, rb1e, rb2e,r1e]
            case fr =>
              intro r_ hr_
              refine ⟨?_, ?_, ?_, fun i_ hi_ => ?_⟩
              all_goals
                simp (disch := omega) only [sI_off, bI_off, sL_off, bL_off, r1l, r2l, rb1l, rb2l, r1m, r2m, rb1e, rb2e,r1e]
            case fp =>
              refine ⟨?_, ?_, ?_, ?_, ?_⟩
              all_goals
                simp (disch := omega) only [sI_off, bI_off, sL_off, bL_off, r1l, r2l, rb1l, rb2l, r1m, r2m, rb1e, rb2e,r1e]
            case fw =>
              refine ⟨?_, fun q_ ha_ hb_ => ?_⟩
              all_goals
                simp (disch := omega) only [sI_off, bI_off, sL_off, bL_off, r1l, r2l, rb1l, rb2l, r1m, r2m, rb1e, rb2e,r1e]
            case fm =>
              refine ⟨?_, ?_, fun q_ ha_ hb_ => ?_⟩
              all_goals
                simp (disch := omega) only [sI_off, bI_off, sL_off, bL_off, r1l, r2l, rb1l, rb2l, r1m, r2m, rb1e, rb2e,r1e]
      · try simp (disch := omega) only [nI_toInt, Int32.toInt_toInt64, e5_] at c13_3
        refine wa_ldc2 (-5000000000000000002) dX5_wave_16 lcX5_123 ?_
        refine wa_lret dX5_wave_19 rfl ?_
        try rw [hk_]
        refine MW_of (by decide) [some (.ref 73), some (.int _), some (.int w), some (.int c)] rfl (Nat.le_of_ble_eq_true rfl) ?_
        refine wa_iload_n dX6_wave_0 rfl ?_
        refine wa_callS1 (k' := kX6_isRow) (d' := 1) dX6_wave_1 lmX6_100 ksX6_isRow (by decide) (by omega) (Nat.le_of_ble_eq_true rfl) ?_
        first | refine isRo_1 (by omega) hr_ ?_ | (refine isRo_0 (by omega) hoob ?_)
        refine wa_if_eq 19 dX6_wave_4 (by decide) (fun c4_2 => ?_) (fun c4_2 => ?_)
        · try simp (disch := omega) only [nI_toInt, Int32.toInt_toInt64, not_true_eq_false] at c4_2
          try (exfalso; omega)
          all_goals
            skip
            refine wa_ldc2 (-5000000000000000002) dX6_wave_19 lcX6_104 ?_
            refine wa_lret dX6_wave_22 rfl ?_
            exact ⟨rfl, hrel.up⟩
        · try simp (disch := omega) only [nI_toInt, Int32.toInt_toInt64, not_true_eq_false] at c4_2
          try (exfalso; omega)
          all_goals
            skip
            refine wa_iload_n dX6_wave_7 rfl ?_
            refine wa_i2l dX6_wave_8 ?_
            refine wa_lconst (0) dX6_wave_9 (by decide) ?_
            refine wa_ldc2 (4) dX6_wave_10 lcX6_157 ?_
            refine wa_callS3 (k' := kX6_in) (d' := 0) dX6_wave_13 lmX6_60 ksX6_in (by decide) (by omega) (Nat.le_of_ble_eq_true rfl) ?_
            refine wp_X6_in (fun hy_ => ?_) (fun hy_ => ?_)
            · skip
              rw [Int32.toInt_toInt64, z64, k4_L] at hy_
              try (exfalso; omega)
              all_goals
                skip
                refine wa_if_neT 23 dX6_wave_16 (by decide) (by decide) ?_
                skip
            · skip
              rw [Int32.toInt_toInt64, z64, k4_L] at hy_
              try (exfalso; omega)
              all_goals
                skip
                refine wa_if_neF 23 dX6_wave_16 (by decide) (by decide) ?_
                refine wa_ldc2 (-5000000000000000002) dX6_wave_19 lcX6_104 ?_
                refine wa_lret dX6_wave_22 rfl ?_
                exact ⟨rfl, hrel.up⟩
  · skip
    refine wa_if_eqT 16 dX5_wave_4 (by decide) (by decide) ?_
    refine wa_ldc2 (-5000000000000000002) dX5_wave_16 lcX5_123 ?_
    refine wa_lret dX5_wave_19 rfl ?_
    try rw [hk_]
    refine MW_of (by decide) [some (.ref 73), some (.int _), some (.int w), some (.int c)] rfl (Nat.le_of_ble_eq_true rfl) ?_
    refine wa_iload_n dX6_wave_0 rfl ?_
    refine wa_callS1 (k' := kX6_isRow) (d' := 1) dX6_wave_1 lmX6_100 ksX6_isRow (by decide) (by omega) (Nat.le_of_ble_eq_true rfl) ?_
    first | refine isRo_1 (by omega) hr_ ?_ | (refine isRo_0 (by omega) hoob ?_)
    refine wa_if_eq 19 dX6_wave_4 (by decide) (fun c4_2 => ?_) (fun c4_2 => ?_)
    · try simp (disch := omega) only [nI_toInt, Int32.toInt_toInt64, not_true_eq_false] at c4_2
      try (exfalso; omega)
      all_goals
        skip
        refine wa_ldc2 (-5000000000000000002) dX6_wave_19 lcX6_104 ?_
        refine wa_lret dX6_wave_22 rfl ?_
        exact ⟨rfl, hrel.up⟩
    · try simp (disch := omega) only [nI_toInt, Int32.toInt_toInt64, not_true_eq_false] at c4_2
      try (exfalso; omega)
      all_goals
        skip
        refine wa_iload_n dX6_wave_7 rfl ?_
        refine wa_i2l dX6_wave_8 ?_
        refine wa_lconst (0) dX6_wave_9 (by decide) ?_
        refine wa_ldc2 (4) dX6_wave_10 lcX6_157 ?_
        refine wa_callS3 (k' := kX6_in) (d' := 0) dX6_wave_13 lmX6_60 ksX6_in (by decide) (by omega) (Nat.le_of_ble_eq_true rfl) ?_
        refine wp_X6_in (fun hy_ => ?_) (fun hy_ => ?_)
        · skip
          rw [Int32.toInt_toInt64, z64, k4_L] at hy_
          try (exfalso; omega)
          all_goals
            skip
            refine wa_if_neT 23 dX6_wave_16 (by decide) (by decide) ?_
            skip
        · skip
          rw [Int32.toInt_toInt64, z64, k4_L] at hy_
          try (exfalso; omega)
          all_goals
            skip
            refine wa_if_neF 23 dX6_wave_16 (by decide) (by decide) ?_
            refine wa_ldc2 (-5000000000000000002) dX6_wave_19 lcX6_104 ?_
            refine wa_lret dX6_wave_22 rfl ?_
            exact ⟨rfl, hrel.up⟩
