/-! PAIRS: rows of waves -/
theorem wa_groups {d r n : Nat} {b : Int64} {q : Int32} {μ : Mem} {Q : QM} (hd : 2 ≤ d) (hr : r < 6) (hn : μ.1 79 r = nI n) (hn64 : n ≤ 64) (h0 : q.toInt = 0 → Q (some (.int (nI (rowsN (hWv (mN μ r) n) b.toInt (wvN (mN μ r) n))))) (mUps μ r n)) (h1 : ¬ q.toInt = 0 → Q (some (.int (nI (mosH (hWv (mN μ r) n) b.toInt (wvN (mN μ r) n))))) (mUps μ r n)) : WA kX6_groups d Q 21 [some (.ref 73), some (.int (nI r)), some (.long b), none, some (.int q), none, none, none, none, none] [] μ := by
  have hle := upN_le (mN μ r) n
  have hwm : wvN (mN μ r) n ≤ 64 := by unfold wvN; omega
  have hvv : ∀ i, (mUps μ r n).2 80 (64 * r + i) = mN μ r i := fun i => rfl
  have loop : ∀ m w, w + m = wvN (mN μ r) n → WA kX6_groups d Q 40 [some (.ref 73), some (.int (nI r)), some (.long b), none, some (.int q), some (.int (nI (wvN (mN μ r) n))), some (.int (nI (rowsN (hWv (mN μ r) n) b.toInt w))), some (.int (nI (mosH (hWv (mN μ r) n) b.toInt w))), some (.int (nI (runH (hWv (mN μ r) n) b.toInt w))), some (.int (nI w))] [] (mUps μ r n) := by
    intro m
    induction m with
    | zero =>
      intro w hw
      obtain rfl : w = wvN (mN μ r) n := by omega
      refine wa_iload dX6_groups_40 rfl ?_
      refine wa_iload dX6_groups_42 rfl ?_
      refine wa_ic_geT 107 dX6_groups_44 (by decide) (le_nI (by omega) (by omega)) ?_
      refine wa_iload dX6_groups_107 rfl ?_
      refine wa_if_ne 117 dX6_groups_109 (by decide) (fun c109_1 => ?_) (fun c109_1 => ?_)
      · try simp (disch := omega) only [nI_toInt, Int32.toInt_toInt64] at c109_1
        refine wa_iload dX6_groups_117 rfl ?_
        refine wa_iret dX6_groups_119 rfl ?_
        exact h1 (by assumption)
      · try simp (disch := omega) only [nI_toInt, Int32.toInt_toInt64] at c109_1
        refine wa_iload dX6_groups_112 rfl ?_
        refine wa_goto 119 dX6_groups_114 (by decide) ?_
        refine wa_iret dX6_groups_119 rfl ?_
        exact h0 (by omega)
    | succ m ih =>
      intro w hw
      have e_ := ih (w + 1) (by omega)
      have hw2 := wvN_lt (v := mN μ r) (n := n) (w := w) (by omega)
      have hab := posU_inc (mN μ r) n w hw2
      have hb := posU_lt (mN μ r) n (w + 1) hw2
      have ua := mUps_85 (μ := μ) (r := r) (n := n) (w := w) (by omega)
      have ub := mUps_85 (μ := μ) (r := r) (n := n) (w := w + 1) hw2
      have hrl := runH_le (hWv (mN μ r) n) b.toInt (w + 1)
      have hml := mosH_le (hWv (mN μ r) n) b.toInt w
      have K : ∀ x, runH (hWv (mN μ r) n) b.toInt (w + 1) = x → WA kX6_groups d Q 69 [some (.ref 73), some (.int (nI r)), some (.long b), none, some (.int q), some (.int (nI (wvN (mN μ r) n))), some (.int (nI (rowsN (hWv (mN μ r) n) b.toInt w))), some (.int (nI (mosH (hWv (mN μ r) n) b.toInt w))), some (.int (nI x)), some (.int (nI w))] [] (mUps μ r n) := by
        intro x hx
        rw [rowsN, mosH, hx] at e_
        rw [hx] at hrl
        refine wa_iload dX6_groups_69 rfl ?_
        refine wa_iload dX6_groups_71 rfl ?_
        refine wa_iconst (nI 2) dX6_groups_73 (by decide) ?_
        refine wa_ic_ne 81 dX6_groups_74 (by decide) (fun c74_1 => ?_) (fun c74_1 => ?_)
        · try simp (disch := omega) only [nI_toInt, Int32.toInt_toInt64] at c74_1
          refine wa_iconst (nI 0) dX6_groups_81 (by decide) ?_
          refine wa_iadd dX6_groups_82 ?_
          refine wa_istore dX6_groups_83 (by decide) ?_
          refine wa_iload dX6_groups_85 rfl ?_
          refine wa_iload dX6_groups_87 rfl ?_
          refine wa_ic_le 97 dX6_groups_89 (by decide) (fun c89_2 => ?_) (fun c89_2 => ?_)
          · try simp (disch := omega) only [nI_toInt, Int32.toInt_toInt64] at c89_2
            refine wa_iload dX6_groups_97 rfl ?_
            refine wa_istore dX6_groups_99 (by decide) ?_
            refine wa_iinc (nI 1) dX6_groups_101 rfl (by decide) (by decide) ?_
            refine wa_goto 40 dX6_groups_104 (by decide) ?_
            first | rw [if_pos (by omega)] at e_ | rw [if_neg (by omega)] at e_
            first | rw [Nat.max_eq_left (by omega)] at e_ | rw [Nat.max_eq_right (by omega)] at e_
            simp only [nI_add, Nat.add_zero] at e_ ⊢
            exact e_
          · try simp (disch := omega) only [nI_toInt, Int32.toInt_toInt64] at c89_2
            refine wa_iload dX6_groups_92 rfl ?_
            refine wa_goto 99 dX6_groups_94 (by decide) ?_
            refine wa_istore dX6_groups_99 (by decide) ?_
            refine wa_iinc (nI 1) dX6_groups_101 rfl (by decide) (by decide) ?_
            refine wa_goto 40 dX6_groups_104 (by decide) ?_
            first | rw [if_pos (by omega)] at e_ | rw [if_neg (by omega)] at e_
            first | rw [Nat.max_eq_left (by omega)] at e_ | rw [Nat.max_eq_right (by omega)] at e_
            simp only [nI_add, Nat.add_zero] at e_ ⊢
            exact e_
        · try simp (disch := omega) only [nI_toInt, Int32.toInt_toInt64] at c74_1
          refine wa_iconst (nI 1) dX6_groups_77 (by decide) ?_
          refine wa_goto 82 dX6_groups_78 (by decide) ?_
          refine wa_iadd dX6_groups_82 ?_
          refine wa_istore dX6_groups_83 (by decide) ?_
          refine wa_iload dX6_groups_85 rfl ?_
          refine wa_iload dX6_groups_87 rfl ?_
          refine wa_ic_le 97 dX6_groups_89 (by decide) (fun c89_3 => ?_) (fun c89_3 => ?_)
          · try simp (disch := omega) only [nI_toInt, Int32.toInt_toInt64] at c89_3
            refine wa_iload dX6_groups_97 rfl ?_
            refine wa_istore dX6_groups_99 (by decide) ?_
            refine wa_iinc (nI 1) dX6_groups_101 rfl (by decide) (by decide) ?_
            refine wa_goto 40 dX6_groups_104 (by decide) ?_
            first | rw [if_pos (by omega)] at e_ | rw [if_neg (by omega)] at e_
            first | rw [Nat.max_eq_left (by omega)] at e_ | rw [Nat.max_eq_right (by omega)] at e_
            simp only [nI_add, Nat.add_zero] at e_ ⊢
            exact e_
          · try simp (disch := omega) only [nI_toInt, Int32.toInt_toInt64] at c89_3
            refine wa_iload dX6_groups_92 rfl ?_
            refine wa_goto 99 dX6_groups_94 (by decide) ?_
            refine wa_istore dX6_groups_99 (by decide) ?_
            refine wa_iinc (nI 1) dX6_groups_101 rfl (by decide) (by decide) ?_
            refine wa_goto 40 dX6_groups_104 (by decide) ?_
            first | rw [if_pos (by omega)] at e_ | rw [if_neg (by omega)] at e_
            first | rw [Nat.max_eq_left (by omega)] at e_ | rw [Nat.max_eq_right (by omega)] at e_
            simp only [nI_add, Nat.add_zero] at e_ ⊢
            exact e_
      have eh : wfL (mN μ r) (posU (mN μ r) n w) (posU (mN μ r) n (w + 1)) 4 = hWv (mN μ r) n w := rfl
      refine wa_iload dX6_groups_40 rfl ?_
      refine wa_iload dX6_groups_42 rfl ?_
      refine wa_ic_geF 107 dX6_groups_44 (by decide) (nle_nI (by omega) (by omega)) ?_
      refine wa_aload_n dX6_groups_47 rfl ?_
      refine wa_iload_n dX6_groups_48 rfl ?_
      refine wa_iload dX6_groups_49 rfl ?_
      refine wa_callV2 (k' := kX6_height) (d' := 1) dX6_groups_51 lmX6_159 kvX6_height (by first | assumption | rfl) (by rfl) (by decide) (by omega) (Nat.le_of_ble_eq_true rfl) ?_
      refine wp_X6_height (by omega) hr (by omega) hvv ua ub hab (by omega) ?_
      rw [eh]
      refine wa_lload_n dX6_groups_54 rfl ?_
      refine wa_lc_le 66 dX6_groups_55 dX6_groups_56 (by decide) (fun c55_2 => ?_) (fun c55_2 => ?_)
      · try simp (disch := omega) only [nI_toInt, Int32.toInt_toInt64] at c55_2
        refine wa_iconst (nI 0) dX6_groups_66 (by decide) ?_
        refine wa_istore dX6_groups_67 (by decide) ?_
        rw [runH, if_neg (by omega)] at K; exact K 0 rfl
      · try simp (disch := omega) only [nI_toInt, Int32.toInt_toInt64] at c55_2
        refine wa_iload dX6_groups_59 rfl ?_
        refine wa_iconst (nI 1) dX6_groups_61 (by decide) ?_
        refine wa_iadd dX6_groups_62 ?_
        refine wa_goto 67 dX6_groups_63 (by decide) ?_
        refine wa_istore dX6_groups_67 (by decide) ?_
        rw [runH, if_pos (by omega)] at K; simp only [nI_add]; exact K _ rfl
  have e0 := loop (wvN (mN μ r) n) 0 (by omega)
  refine wa_aload_n dX6_groups_21 rfl ?_
  refine wa_iload_n dX6_groups_22 rfl ?_
  refine wa_callV1 (k' := kX6_waveMany) (d' := 1) dX6_groups_23 lmX6_154 kvX6_waveMany (by first | assumption | rfl) (by rfl) (by decide) (by omega) (Nat.le_of_ble_eq_true rfl) ?_
  refine wp_X6_waveMany (n := n) (by omega) hr hn hn64 ?_
  refine wa_istore dX6_groups_26 (by decide) ?_
  refine wa_iconst (nI 0) dX6_groups_28 (by decide) ?_
  refine wa_istore dX6_groups_29 (by decide) ?_
  refine wa_iconst (nI 0) dX6_groups_31 (by decide) ?_
  refine wa_istore dX6_groups_32 (by decide) ?_
  refine wa_iconst (nI 0) dX6_groups_34 (by decide) ?_
  refine wa_istore dX6_groups_35 (by decide) ?_
  refine wa_iconst (nI 0) dX6_groups_37 (by decide) ?_
  refine wa_istore dX6_groups_38 (by decide) ?_
  exact e0
theorem runH_c {f g : Nat → Int64} {b : Int} : ∀ {n : Nat}, (∀ i, i < n → f i = g i) → runH f b n = runH g b n
  | 0, _ => rfl
  | n + 1, h => by rw [runH, runH, runH_c (fun i hi => h i (by omega)), h n (by omega)]
theorem rowsN_c {f g : Nat → Int64} {b : Int} : ∀ {n : Nat}, (∀ i, i < n → f i = g i) → rowsN f b n = rowsN g b n
  | 0, _ => rfl
  | n + 1, h => by rw [rowsN, rowsN, rowsN_c (fun i hi => h i (by omega)), runH_c h]
theorem mosH_c {f g : Nat → Int64} {b : Int} : ∀ {n : Nat}, (∀ i, i < n → f i = g i) → mosH f b n = mosH g b n
  | 0, _ => rfl
  | n + 1, h => by rw [mosH, mosH, mosH_c (fun i hi => h i (by omega)), runH_c h]
theorem hWv_c {f g : Nat → Int64} {n w : Nat} (h : ∀ i, i < n → f i = g i) (hw : w < wvN g n) : hWv f n w = hWv g n w := by
  have hw2 := wvN_lt hw
  rw [hWv, hWv, posU_c h]
  exact wfL_c 4 h (posU_inc g n w hw2) (posU_lt g n (w + 1) hw2)
theorem pr_groups (k : Int32) (b : Int64) (q : Int32) : PR kX5_groups kX6_groups [.int k, .long b, .int q] := by
  intro N μ d c hd hc hN hrel
  refine MW_of (by decide) [some (.ref 0), some (.int k), some (.long b), none, some (.int q)] rfl (Nat.le_of_ble_eq_true rfl) ?_
  refine wa_iload_n dX5_groups_0 rfl ?_
  refine wa_callS1 (k' := kX5_isRow) (d' := 0) dX5_groups_1 lmX5_111 ksX5_isRow (by decide) (by omega) (Nat.le_of_ble_eq_true rfl) ?_
  refine wp_X5_isRow (fun r_ hr_ hk_ => ?_) (fun hoob => ?_)
  · skip
    obtain ⟨n_, s1_, s2_, s3_, s4_, s5_⟩ := hrel.2.1 r_ (by omega); have hR_ := isR_k (show r_ < 6 by omega); have hsh_ := (isR_sh hR_).1; have hwe_ := wvN_c (f := mN μ r_) s4_; have hhe_ : ∀ w, w < wvN (μ.2 (43 + 5 * r_ + 1)) n_ → hWv (mN μ r_) n_ w = hWv (μ.2 (43 + 5 * r_ + 1)) n_ w := fun w hw => hWv_c s4_ hw
    refine wa_if_eqF 18 dX5_groups_4 (by decide) (by decide) ?_
    refine wa_iload dX5_groups_7 rfl ?_
    refine wa_if_lt 18 dX5_groups_9 (by decide) (fun c9_2 => ?_) (fun c9_2 => ?_)
    · try simp (disch := omega) only [nI_toInt, Int32.toInt_toInt64] at c9_2
      refine wa_bipush (-2) dX5_groups_18 (by decide) ?_
      refine wa_iret dX5_groups_20 rfl ?_
      try rw [hk_]
      refine MW_of (by decide) [some (.ref 73), some (.int _), some (.long b), none, some (.int q), none, none, none, none, none] rfl (Nat.le_of_ble_eq_true rfl) ?_
      refine wa_iload_n dX6_groups_0 rfl ?_
      refine wa_callS1 (k' := kX6_isRow) (d' := 1) dX6_groups_1 lmX6_100 ksX6_isRow (by decide) (by omega) (Nat.le_of_ble_eq_true rfl) ?_
      first | refine isRo_1 (by omega) hr_ ?_ | (refine isRo_0 (by omega) hoob ?_)
      refine wa_if_eq 18 dX6_groups_4 (by decide) (fun c4_2 => ?_) (fun c4_2 => ?_)
      · try simp (disch := omega) only [nI_toInt, Int32.toInt_toInt64, not_true_eq_false] at c4_2
        try (exfalso; omega)
        all_goals
          skip
          refine wa_bipush (-2) dX6_groups_18 (by decide) ?_
          refine wa_iret dX6_groups_20 rfl ?_
          exact ⟨rfl, hrel.up⟩
      · try simp (disch := omega) only [nI_toInt, Int32.toInt_toInt64, not_true_eq_false] at c4_2
        try (exfalso; omega)
        all_goals
          skip
          refine wa_iload dX6_groups_7 rfl ?_
          refine wa_i2l dX6_groups_9 ?_
          refine wa_lconst (0) dX6_groups_10 (by decide) ?_
          refine wa_lconst (1) dX6_groups_11 (by decide) ?_
          refine wa_callS3 (k' := kX6_in) (d' := 0) dX6_groups_12 lmX6_60 ksX6_in (by decide) (by omega) (Nat.le_of_ble_eq_true rfl) ?_
          refine wp_X6_in (fun hy_ => ?_) (fun hy_ => ?_)
          · skip
            rw [Int32.toInt_toInt64, z64, k1L] at hy_
            try (exfalso; omega)
            all_goals
              skip
              refine wa_if_neT 21 dX6_groups_15 (by decide) (by decide) ?_
              skip
          · skip
            rw [Int32.toInt_toInt64, z64, k1L] at hy_
            try (exfalso; omega)
            all_goals
              skip
              refine wa_if_neF 21 dX6_groups_15 (by decide) (by decide) ?_
              refine wa_bipush (-2) dX6_groups_18 (by decide) ?_
              refine wa_iret dX6_groups_20 rfl ?_
              exact ⟨rfl, hrel.up⟩
    · try simp (disch := omega) only [nI_toInt, Int32.toInt_toInt64] at c9_2
      refine wa_iload dX5_groups_12 rfl ?_
      refine wa_iconst (nI 1) dX5_groups_14 (by decide) ?_
      refine wa_ic_le 21 dX5_groups_15 (by decide) (fun c15_3 => ?_) (fun c15_3 => ?_)
      · try simp (disch := omega) only [nI_toInt, Int32.toInt_toInt64] at c15_3
        refine wa_iload dX5_groups_21 rfl ?_
        refine wa_if_ne 39 dX5_groups_23 (by decide) (fun c23_4 => ?_) (fun c23_4 => ?_)
        · try simp (disch := omega) only [nI_toInt, Int32.toInt_toInt64] at c23_4
          refine wa_aload_n dX5_groups_39 rfl ?_
          refine wa_getR dX5_groups_40 fgX5_18 (by first | assumption | rfl) (by rfl) ?_
          refine wa_iload_n dX5_groups_43 rfl ?_
          refine wa_aalR _ dX5_groups_44 (by first | assumption | rfl) (by exact hk_) (by omega) ?_
          rw [show arf 2 r_ = 43 + 5 * r_ from rfl]
          refine wa_lload_n dX5_groups_45 rfl ?_
          refine wa_callV1 (k' := kX2_longestRowOfWaves) (d' := 2) dX5_groups_46 lmX5_194 kvX2_longestRowOfWaves (by first | assumption | rfl) (by rfl) (by decide) (by omega) (Nat.le_of_ble_eq_true rfl) ?_
          refine wp_X2_longestRowOfWaves (n := n_) hR_ (by omega) s1_ s2_ ?_
          refine wa_iret dX5_groups_49 rfl ?_
          rw [hk_]
          have em_ : mN (bI μ (43 + 5 * r_ + 3) (upsF (μ.2 (43 + 5 * r_ + 1)) (μ.1 (43 + 5 * r_ + 3)) n_)) r_ = mN μ r_ := mN_offI
          refine MW_of (by decide) [some (.ref 73), some (.int (nI r_)), some (.long b), none, some (.int q), none, none, none, none, none] rfl (Nat.le_of_ble_eq_true rfl) ?_
          refine wa_iload_n dX6_groups_0 rfl ?_
          refine wa_callS1 (k' := kX6_isRow) (d' := 1) dX6_groups_1 lmX6_100 ksX6_isRow (by decide) (by omega) (Nat.le_of_ble_eq_true rfl) ?_
          refine isRo_1 (by omega) hr_ ?_
          refine wa_if_eqF 18 dX6_groups_4 (by decide) (by decide) ?_
          refine wa_iload dX6_groups_7 rfl ?_
          refine wa_i2l dX6_groups_9 ?_
          refine wa_lconst (0) dX6_groups_10 (by decide) ?_
          refine wa_lconst (1) dX6_groups_11 (by decide) ?_
          refine wa_callS3 (k' := kX6_in) (d' := 0) dX6_groups_12 lmX6_60 ksX6_in (by decide) (by omega) (Nat.le_of_ble_eq_true rfl) ?_
          refine in_1 (by rw [Int32.toInt_toInt64, z64, k1L]; omega) ?_
          refine wa_if_neT 21 dX6_groups_15 (by decide) (by decide) ?_
          refine wa_groups (n := n_) (by omega) hr_ (by simp (disch := omega) only [sI_off, bI_off, sL_off, bL_off, r1l, r2l, rb1l, rb2l, r1m, r2m, rb1e, rb2e, r1e, r2e]; exact s3_) s2_ (fun hz_ => ?_) (fun hz_ => ?_)
          · exfalso; omega
          · refine ⟨by rw [em_, hwe_, mosH_c hhe_], ?_⟩
            unfold mUps
            refine Rel_0 hrel ?fs ?fr ?fp ?fw ?fm
            case fs =>
              intro j_ hj_
              refine ⟨?_, ?_, ?_, ?_, ?_, ?_, fun i_ hi_ => ?_, fun i_ hi_ => ?_⟩
              all_goals
                simp (disch := omega) only [sI_off, bI_off, sL_off, bL_off, r1l, r2l, rb1l, rb2l, r1m, r2m, rb1e, rb2e,r1e]
            case fr =>
              intro r_ hr_
              refine ⟨?_, ?_, ?_, fun i_ hi_ => ?_⟩
              all_goals
                simp (disch := omega) only [sI_off, bI_off, sL_off, bL_off, r1l, r2l, rb1l, rb2l, r1m, r2m, rb1e, rb2e,r1e]
            case fp =>
              refine ⟨?_, ?_, ?_, ?_, ?_⟩
              all_goals
                simp (disch := omega) only [sI_off, bI_off, sL_off, bL_off, r1l, r2l, rb1l, rb2l, r1m, r2m, rb1e, rb2e,r1e]
            case fw =>
              refine ⟨?_, fun q_ ha_ hb_ => ?_⟩
              all_goals
                simp (disch := omega) only [sI_off, bI_off, sL_off, bL_off, r1l, r2l, rb1l, rb2l, r1m, r2m, rb1e, rb2e,r1e]
            case fm =>
              refine ⟨?_, ?_, fun q_ ha_ hb_ => ?_⟩
              all_goals
                simp (disch := omega) only [sI_off, bI_off, sL_off, bL_off, r1l, r2l, rb1l, rb2l, r1m, r2m, rb1e, rb2e,r1e]
        · try simp (disch := omega) only [nI_toInt, Int32.toInt_toInt64] at c23_4
          refine wa_aload_n dX5_groups_26 rfl ?_
          refine wa_getR dX5_groups_27 fgX5_18 (by first | assumption | rfl) (by rfl) ?_
          refine wa_iload_n dX5_groups_30 rfl ?_
          refine wa_aalR _ dX5_groups_31 (by first | assumption | rfl) (by exact hk_) (by omega) ?_
          rw [show arf 2 r_ = 43 + 5 * r_ from rfl]
          refine wa_lload_n dX5_groups_32 rfl ?_
          refine wa_callV1 (k' := kX2_wavesInRows) (d' := 2) dX5_groups_33 lmX5_190 kvX2_wavesInRows (by first | assumption | rfl) (by rfl) (by decide) (by omega) (Nat.le_of_ble_eq_true rfl) ?_
          refine wp_X2_wavesInRows (n := n_) hR_ (by omega) s1_ s2_ ?_
          refine wa_goto 49 dX5_groups_36 (by decide) ?_
          refine wa_iret dX5_groups_49 rfl ?_
          rw [hk_]
          have em_ : mN (bI μ (43 + 5 * r_ + 3) (upsF (μ.2 (43 + 5 * r_ + 1)) (μ.1 (43 + 5 * r_ + 3)) n_)) r_ = mN μ r_ := mN_offI
          refine MW_of (by decide) [some (.ref 73), some (.int (nI r_)), some (.long b), none, some (.int q), none, none, none, none, none] rfl (Nat.le_of_ble_eq_true rfl) ?_
          refine wa_iload_n dX6_groups_0 rfl ?_
          refine wa_callS1 (k' := kX6_isRow) (d' := 1) dX6_groups_1 lmX6_100 ksX6_isRow (by decide) (by omega) (Nat.le_of_ble_eq_true rfl) ?_
          refine isRo_1 (by omega) hr_ ?_
          refine wa_if_eqF 18 dX6_groups_4 (by decide) (by decide) ?_
          refine wa_iload dX6_groups_7 rfl ?_
          refine wa_i2l dX6_groups_9 ?_
          refine wa_lconst (0) dX6_groups_10 (by decide) ?_
          refine wa_lconst (1) dX6_groups_11 (by decide) ?_
          refine wa_callS3 (k' := kX6_in) (d' := 0) dX6_groups_12 lmX6_60 ksX6_in (by decide) (by omega) (Nat.le_of_ble_eq_true rfl) ?_
          refine in_1 (by rw [Int32.toInt_toInt64, z64, k1L]; omega) ?_
          refine wa_if_neT 21 dX6_groups_15 (by decide) (by decide) ?_
          refine wa_groups (n := n_) (by omega) hr_ (by simp (disch := omega) only [sI_off, bI_off, sL_off, bL_off, r1l, r2l, rb1l, rb2l, r1m, r2m, rb1e, rb2e, r1e, r2e]; exact s3_) s2_ (fun hz_ => ?_) (fun hz_ => ?_)
          · refine ⟨by rw [em_, hwe_, rowsN_c hhe_], ?_⟩
            unfold mUps
            refine Rel_0 hrel ?fs ?fr ?fp ?fw ?fm
            case fs =>
              intro j_ hj_
              refine ⟨?_, ?_, ?_, ?_, ?_, ?_, fun i_ hi_ => ?_, fun i_ hi_ => ?_⟩
              all_goals
                simp (disch := omega) only [sI_off, bI_off, sL_off, bL_off, r1l, r2l, rb1l, rb2l, r1m, r2m, rb1e, rb2e,r1e]
            case fr =>
              intro r_ hr_
              refine ⟨?_, ?_, ?_, fun i_ hi_ => ?_⟩
              all_goals
                simp (disch := omega) only [sI_off, bI_off, sL_off, bL_off, r1l, r2l, rb1l, rb2l, r1m, r2m, rb1e, rb2e,r1e]
            case fp =>
              refine ⟨?_, ?_, ?_, ?_, ?_⟩
              all_goals
                simp (disch := omega) only [sI_off, bI_off, sL_off, bL_off, r1l, r2l, rb1l, rb2l, r1m, r2m, rb1e, rb2e,r1e]
            case fw =>
              refine ⟨?_, fun q_ ha_ hb_ => ?_⟩
              all_goals
                simp (disch := omega) only [sI_off, bI_off, sL_off, bL_off, r1l, r2l, rb1l, rb2l, r1m, r2m, rb1e, rb2e,r1e]
            case fm =>
              refine ⟨?_, ?_, fun q_ ha_ hb_ => ?_⟩
              all_goals
                simp (disch := omega) only [sI_off, bI_off, sL_off, bL_off, r1l, r2l, rb1l, rb2l, r1m, r2m, rb1e, rb2e,r1e]
          · exfalso; omega
      · try simp (disch := omega) only [nI_toInt, Int32.toInt_toInt64] at c15_3
        refine wa_bipush (-2) dX5_groups_18 (by decide) ?_
        refine wa_iret dX5_groups_20 rfl ?_
        try rw [hk_]
        refine MW_of (by decide) [some (.ref 73), some (.int _), some (.long b), none, some (.int q), none, none, none, none, none] rfl (Nat.le_of_ble_eq_true rfl) ?_
        refine wa_iload_n dX6_groups_0 rfl ?_
        refine wa_callS1 (k' := kX6_isRow) (d' := 1) dX6_groups_1 lmX6_100 ksX6_isRow (by decide) (by omega) (Nat.le_of_ble_eq_true rfl) ?_
        first | refine isRo_1 (by omega) hr_ ?_ | (refine isRo_0 (by omega) hoob ?_)
        refine wa_if_eq 18 dX6_groups_4 (by decide) (fun c4_2 => ?_) (fun c4_2 => ?_)
        · try simp (disch := omega) only [nI_toInt, Int32.toInt_toInt64, not_true_eq_false] at c4_2
          try (exfalso; omega)
          all_goals
            skip
            refine wa_bipush (-2) dX6_groups_18 (by decide) ?_
            refine wa_iret dX6_groups_20 rfl ?_
            exact ⟨rfl, hrel.up⟩
        · try simp (disch := omega) only [nI_toInt, Int32.toInt_toInt64, not_true_eq_false] at c4_2
          try (exfalso; omega)
          all_goals
            skip
            refine wa_iload dX6_groups_7 rfl ?_
            refine wa_i2l dX6_groups_9 ?_
            refine wa_lconst (0) dX6_groups_10 (by decide) ?_
            refine wa_lconst (1) dX6_groups_11 (by decide) ?_
            refine wa_callS3 (k' := kX6_in) (d' := 0) dX6_groups_12 lmX6_60 ksX6_in (by decide) (by omega) (Nat.le_of_ble_eq_true rfl) ?_
            refine wp_X6_in (fun hy_ => ?_) (fun hy_ => ?_)
            · skip
              rw [Int32.toInt_toInt64, z64, k1L] at hy_
              try (exfalso; omega)
              all_goals
                skip
                refine wa_if_neT 21 dX6_groups_15 (by decide) (by decide) ?_
                skip
            · skip
              rw [Int32.toInt_toInt64, z64, k1L] at hy_
              try (exfalso; omega)
              all_goals
                skip
                refine wa_if_neF 21 dX6_groups_15 (by decide) (by decide) ?_
                refine wa_bipush (-2) dX6_groups_18 (by decide) ?_
                refine wa_iret dX6_groups_20 rfl ?_
                exact ⟨rfl, hrel.up⟩
  · skip
    refine wa_if_eqT 18 dX5_groups_4 (by decide) (by decide) ?_
    refine wa_bipush (-2) dX5_groups_18 (by decide) ?_
    refine wa_iret dX5_groups_20 rfl ?_
    try rw [hk_]
    refine MW_of (by decide) [some (.ref 73), some (.int _), some (.long b), none, some (.int q), none, none, none, none, none] rfl (Nat.le_of_ble_eq_true rfl) ?_
    refine wa_iload_n dX6_groups_0 rfl ?_
    refine wa_callS1 (k' := kX6_isRow) (d' := 1) dX6_groups_1 lmX6_100 ksX6_isRow (by decide) (by omega) (Nat.le_of_ble_eq_true rfl) ?_
    first | refine isRo_1 (by omega) hr_ ?_ | (refine isRo_0 (by omega) hoob ?_)
    refine wa_if_eq 18 dX6_groups_4 (by decide) (fun c4_2 => ?_) (fun c4_2 => ?_)
    · try simp (disch := omega) only [nI_toInt, Int32.toInt_toInt64, not_true_eq_false] at c4_2
      try (exfalso; omega)
      all_goals
        skip
        refine wa_bipush (-2) dX6_groups_18 (by decide) ?_
        refine wa_iret dX6_groups_20 rfl ?_
        exact ⟨rfl, hrel.up⟩
    · try simp (disch := omega) only [nI_toInt, Int32.toInt_toInt64, not_true_eq_false] at c4_2
      try (exfalso; omega)
      all_goals
        skip
        refine wa_iload dX6_groups_7 rfl ?_
        refine wa_i2l dX6_groups_9 ?_
        refine wa_lconst (0) dX6_groups_10 (by decide) ?_
        refine wa_lconst (1) dX6_groups_11 (by decide) ?_
        refine wa_callS3 (k' := kX6_in) (d' := 0) dX6_groups_12 lmX6_60 ksX6_in (by decide) (by omega) (Nat.le_of_ble_eq_true rfl) ?_
        refine wp_X6_in (fun hy_ => ?_) (fun hy_ => ?_)
        · skip
          rw [Int32.toInt_toInt64, z64, k1L] at hy_
          try (exfalso; omega)
          all_goals
            skip
            refine wa_if_neT 21 dX6_groups_15 (by decide) (by decide) ?_
            skip
        · skip
          rw [Int32.toInt_toInt64, z64, k1L] at hy_
          try (exfalso; omega)
          all_goals
            skip
            refine wa_if_neF 21 dX6_groups_15 (by decide) (by decide) ?_
            refine wa_bipush (-2) dX6_groups_18 (by decide) ?_
            refine wa_iret dX6_groups_20 rfl ?_
            exact ⟨rfl, hrel.up⟩
