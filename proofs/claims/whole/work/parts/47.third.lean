/-! PAIRS: THIRD -/
theorem upN_63 {v : Nat → Int64} {n : Nat} (h : n ≤ 64) : upN v n ≤ 63 := by
  cases n with
  | zero => simp [upN]
  | succ n =>
    have := upN_pred v n
    omega
theorem ofI_lN {A : Nat} (h : A < 9000000000000000000) : Int64.ofInt A = lN A := by
  apply Int64.toInt_inj.mp
  rw [zin (by omega) (by omega), lN_toInt63 (by omega)]
theorem third_sum {v : Nat → Int64} {n f K : Nat} (hb : inB v n 4000000000000000) (hf : f = wvN v n) (hK : K ≤ f) (hn64 : n ≤ 64) : ∃ A : Nat, (A : Int) = selZ K (lsB (vZ (hWv v n)) f) ∧ A < 9000000000000000000 ∧ ∀ H, sumL (srtA (fun w => wfL v (posU v n w) (posU v n (w + 1)) 4) H f) K = lN A := by
  have hin : ∀ i, i < f → 0 ≤ (hWv v n i).toInt ∧ (hWv v n i).toInt ≤ 8000000000000000 := fun i hi => hWv_in hb (by rw [← hf]; exact hi)
  have hs := selZ_in (B := 8000000000000000) (by omega) K (l := lsB (vZ (hWv v n)) f) (fun x hx => by
    obtain ⟨i, hi, rfl⟩ := lsB_mem hx
    exact hin i hi) (by rw [lsB_len]; exact hK)
  have hu := upN_63 (v := v) hn64
  have hw : wvN v n = upN v n - 1 := rfl
  have hA : selZ K (lsB (vZ (hWv v n)) f) = ((selZ K (lsB (vZ (hWv v n)) f)).toNat : Int) := by omega
  refine ⟨(selZ K (lsB (vZ (hWv v n)) f)).toNat, hA.symm, by omega, fun H => ?_⟩
  rw [z_sum]
  have e_ := srtA_sum (hs := hWv v n) (H := H) hK (fun i hi => (hin i hi).1)
  have e2_ : (fun w => wfL v (posU v n w) (posU v n (w + 1)) 4) = hWv v n := rfl
  rw [e2_, e_, hA]
  exact ofI_lN (by omega)
theorem wa_third {d r n f K A : Nat} {q : Int32} {μ : Mem} {Q : QM} (hd : 2 ≤ d) (hr : r < 6) (hn64 : n ≤ 64) (hf : f = wvN (mN μ r) n) (hf0 : 0 < f) (hK : max (f / 3) 1 = K) (hb : inB (mN μ r) n 4000000000000000) (hA : (A : Int) = selZ K (lsB (vZ (hWv (mN μ r) n)) f)) (hA9 : A < 9000000000000000000) (h0 : q.toInt = 0 → ∀ D, Q (some (.long (lN (A / Nat.gcd A K)))) (bL (mUps μ r n) 81 D)) (h1 : ¬ q.toInt = 0 → ∀ D, Q (some (.long (lN (K / Nat.gcd A K)))) (bL (mUps μ r n) 81 D)) : WA kX6_third d Q 35 [some (.ref 73), some (.int (nI r)), some (.int q), some (.int (nI f)), none, none, none, none, none, none] [] (mUps μ r n) := by
  have hw : wvN (mN μ r) n = upN (mN μ r) n - 1 := rfl
  have hu := upN_63 (v := mN μ r) hn64
  have hG := Nat.gcd_pos_of_pos_right A (show 0 < K by omega)
  have hGK := Nat.gcd_le_right A (show 0 < K by omega)
  have hG0 : ¬ lN (Nat.gcd A K) = 0 := fun q => by
    have := congrArg Int64.toInt q
    rw [lN_toInt63 (by omega), z64] at this
    omega
  have fin : ∀ D z8 z9, WA kX6_third d Q 166 [some (.ref 73), some (.int (nI r)), some (.int q), some (.int (nI f)), some (.int (nI K)), some (.long (lN A)), none, some (.int (nI K)), z8, z9] [] (bL (mUps μ r n) 81 D) := by
    intro D z8 z9
    refine wa_lload dX6_third_166 rfl ?_
    refine wa_iload dX6_third_168 rfl ?_
    refine wa_i2l dX6_third_170 ?_
    rw [lN_nI (show K < 2 ^ 31 by omega)]
    refine wa_callS2 (k' := kX6_divisor) (d' := 0) dX6_third_171 lmX6_163 ksX6_divisor (by decide) (by omega) (Nat.le_of_ble_eq_true rfl) ?_
    refine wp_X6_divisor (A := A) (B := K) (by omega) (by omega) ?_
    refine wa_lstore dX6_third_174 (by decide) ?_
    refine wa_iload_n dX6_third_176 rfl ?_
    refine wa_if_ne 188 dX6_third_177 (by decide) (fun c177_2 => ?_) (fun c177_2 => ?_)
    · try simp (disch := omega) only [nI_toInt, Int32.toInt_toInt64] at c177_2
      refine wa_iload dX6_third_188 rfl ?_
      refine wa_i2l dX6_third_190 ?_
      refine wa_lload dX6_third_191 rfl ?_
      refine wa_ldiv dX6_third_193 (hG0) ?_
      refine wa_lret dX6_third_194 rfl ?_
      rw [lN_nI (show K < 2 ^ 31 by omega), pk_lDiv (by omega) hG (by omega)]; exact h1 (by assumption) D
    · try simp (disch := omega) only [nI_toInt, Int32.toInt_toInt64] at c177_2
      refine wa_lload dX6_third_180 rfl ?_
      refine wa_lload dX6_third_182 rfl ?_
      refine wa_ldiv dX6_third_184 (hG0) ?_
      refine wa_goto 194 dX6_third_185 (by decide) ?_
      refine wa_lret dX6_third_194 rfl ?_
      rw [pk_lDiv (by omega) hG (by omega)]; exact h0 (by omega) D
  have loopB : ∀ m t D s R, t + m = K → (∀ x, x ∈ R → 0 ≤ x) → R.length = f - t → (lsB (vZ D) f).Perm (List.replicate t (-1) ++ R) → s + selZ m R = A → ∀ z8 z9, WA kX6_third d Q 86 [some (.ref 73), some (.int (nI r)), some (.int q), some (.int (nI f)), some (.int (nI K)), some (.long (Int64.ofInt s)), none, some (.int (nI t)), z8, z9] [] (bL (mUps μ r n) 81 D) := by
    intro m
    induction m with
    | zero =>
      intro t D s R ht hR hl hp hs z8 z9
      obtain rfl : t = K := by omega
      rw [selZ] at hs
      obtain rfl : s = A := by omega
      rw [ofI_lN hA9]
      refine wa_iload dX6_third_86 rfl ?_
      refine wa_iload dX6_third_88 rfl ?_
      refine wa_ic_geT 166 dX6_third_90 (by decide) (le_nI (by omega) (by omega)) ?_
      exact fin D z8 z9
    | succ m ih =>
      intro t D s R ht hR hl hp hs z8 z9
      obtain ⟨R', a1_, a2_, a3_, a4_⟩ := sel_step (k := m) hf0 hR hl (by omega) hp
      obtain ⟨g, rfl⟩ : ∃ g, f = g + 1 := ⟨f - 1, by omega⟩
      have hbl := bsI_lt D g
      have e_ := ih (t + 1) (vp_updL D (bsI D (g + 1)) (-1)) (s + (D (bsI D (g + 1))).toInt) R' (by omega) a1_ a2_ a3_ (by omega)
      rw [Int64.ofInt_add, Int64.ofInt_toInt] at e_
      have inner : ∀ m2 w, w + m2 = g + 1 → 1 ≤ w → WA kX6_third d Q 99 [some (.ref 73), some (.int (nI r)), some (.int q), some (.int (nI (g + 1))), some (.int (nI K)), some (.long (Int64.ofInt s)), none, some (.int (nI t)), some (.int (nI (bsI D w))), some (.int (nI w))] [] (bL (mUps μ r n) 81 D) := by
        intro m2
        induction m2 with
        | zero =>
          intro w hw2 hw1
          obtain rfl : w = g + 1 := by omega
          refine wa_iload dX6_third_99 rfl ?_
          refine wa_iload_n dX6_third_101 rfl ?_
          refine wa_ic_geT 138 dX6_third_102 (by decide) (le_nI (by omega) (by omega)) ?_
          refine wa_lload dX6_third_138 rfl ?_
          refine wa_aload_n dX6_third_140 rfl ?_
          refine wa_getR dX6_third_141 fgX6_33 (by first | assumption | rfl) (by rfl) ?_
          refine wa_iload dX6_third_144 rfl ?_
          refine wa_lald _ dX6_third_146 (by first | assumption | rfl) (by first | with_reducible rfl | with_reducible assumption | with_reducible exact ix_ma _ _ _ | with_reducible exact ix_maa _ _ _ _ | with_reducible exact ix_a _ _ | with_reducible exact ix_mama _ _ _ _ _) (by omega) ?_
          refine wa_ladd dX6_third_147 ?_
          refine wa_lstore dX6_third_148 (by decide) ?_
          refine wa_aload_n dX6_third_150 rfl ?_
          refine wa_getR dX6_third_151 fgX6_33 (by first | assumption | rfl) (by rfl) ?_
          refine wa_iload dX6_third_154 rfl ?_
          refine wa_ldc2 (-1) dX6_third_156 lcX6_108 ?_
          refine wa_last _ dX6_third_159 (by first | assumption | rfl) (by first | with_reducible rfl | with_reducible assumption | with_reducible exact ix_ma _ _ _ | with_reducible exact ix_maa _ _ _ _ | with_reducible exact ix_a _ _ | with_reducible exact ix_mama _ _ _ _ _) (by omega) ?_
          refine wa_iinc (nI 1) dX6_third_160 rfl (by decide) (by decide) ?_
          refine wa_goto 86 dX6_third_163 (by decide) ?_
          rw [sLb, rb2e]; simp only [nI_add]; exact e_ _ _
        | succ m2 ih2 =>
          intro w hw2 hw1
          have hbw : bsI D w < w := by
            obtain ⟨x, rfl⟩ : ∃ x, w = x + 1 := ⟨w - 1, by omega⟩
            exact bsI_lt D x
          have e2_ := ih2 (w + 1) (by omega) (by omega)
          rw [bsI] at e2_
          refine wa_iload dX6_third_99 rfl ?_
          refine wa_iload_n dX6_third_101 rfl ?_
          refine wa_ic_geF 138 dX6_third_102 (by decide) (nle_nI (by omega) (by omega)) ?_
          refine wa_aload_n dX6_third_105 rfl ?_
          refine wa_getR dX6_third_106 fgX6_33 (by first | assumption | rfl) (by rfl) ?_
          refine wa_iload dX6_third_109 rfl ?_
          refine wa_lald _ dX6_third_111 (by first | assumption | rfl) (by first | with_reducible rfl | with_reducible assumption | with_reducible exact ix_ma _ _ _ | with_reducible exact ix_maa _ _ _ _ | with_reducible exact ix_a _ _ | with_reducible exact ix_mama _ _ _ _ _) (by omega) ?_
          refine wa_aload_n dX6_third_112 rfl ?_
          refine wa_getR dX6_third_113 fgX6_33 (by first | assumption | rfl) (by rfl) ?_
          refine wa_iload dX6_third_116 rfl ?_
          refine wa_lald _ dX6_third_118 (by first | assumption | rfl) (by first | with_reducible rfl | with_reducible assumption | with_reducible exact ix_ma _ _ _ | with_reducible exact ix_maa _ _ _ _ | with_reducible exact ix_a _ _ | with_reducible exact ix_mama _ _ _ _ _) (by omega) ?_
          refine wa_lc_le 128 dX6_third_119 dX6_third_120 (by decide) (fun c119_1 => ?_) (fun c119_1 => ?_)
          · try simp (disch := omega) only [nI_toInt, Int32.toInt_toInt64, rb2e] at c119_1
            refine wa_iload dX6_third_128 rfl ?_
            refine wa_istore dX6_third_130 (by decide) ?_
            refine wa_iinc (nI 1) dX6_third_132 rfl (by decide) (by decide) ?_
            refine wa_goto 99 dX6_third_135 (by decide) ?_
            rw [if_neg (by omega)] at e2_; simp only [nI_add]; exact e2_
          · try simp (disch := omega) only [nI_toInt, Int32.toInt_toInt64, rb2e] at c119_1
            refine wa_iload dX6_third_123 rfl ?_
            refine wa_goto 130 dX6_third_125 (by decide) ?_
            refine wa_istore dX6_third_130 (by decide) ?_
            refine wa_iinc (nI 1) dX6_third_132 rfl (by decide) (by decide) ?_
            refine wa_goto 99 dX6_third_135 (by decide) ?_
            rw [if_pos (by omega)] at e2_; simp only [nI_add]; exact e2_
      have i0_ := inner g 1 (by omega) (by omega)
      have eb_ : bsI D 1 = 0 := by
        have h1 : bsI D 1 < 1 := bsI_lt D 0
        omega
      rw [eb_] at i0_
      refine wa_iload dX6_third_86 rfl ?_
      refine wa_iload dX6_third_88 rfl ?_
      refine wa_ic_geF 166 dX6_third_90 (by decide) (nle_nI (by omega) (by omega)) ?_
      refine wa_iconst (nI 0) dX6_third_93 (by decide) ?_
      refine wa_istore dX6_third_94 (by decide) ?_
      refine wa_iconst (nI 1) dX6_third_96 (by decide) ?_
      refine wa_istore dX6_third_97 (by decide) ?_
      exact i0_
  have hvv : ∀ i, (mUps μ r n).2 80 (64 * r + i) = mN μ r i := fun i => rfl
  have loopA : ∀ m w, w + m = f → WA kX6_third d Q 54 [some (.ref 73), some (.int (nI r)), some (.int q), some (.int (nI f)), some (.int (nI K)), some (.int (nI w)), none, none, none, none] [] (bL (mUps μ r n) 81 (frF (hWv (mN μ r) n) ((mUps μ r n).2 81) w)) := by
    intro m
    induction m with
    | zero =>
      intro w hw2
      obtain rfl : w = f := by omega
      have e_ := loopB K 0 (frF (hWv (mN μ r) n) ((mUps μ r n).2 81) w) 0 (lsB (vZ (hWv (mN μ r) n)) w) (by omega) (fun x hx => by
        obtain ⟨i, hi, rfl⟩ := lsB_mem hx
        exact (hWv_in hb (by omega)).1) (by rw [lsB_len]; omega) (by
        rw [List.replicate_zero, List.nil_append, lsB_c (H := vZ (frF (hWv (mN μ r) n) ((mUps μ r n).2 81) w)) (G := vZ (hWv (mN μ r) n)) (fun i hi => by rw [vZ, vZ, frF, if_pos hi])]) (by omega)
      refine wa_iload dX6_third_54 rfl ?_
      refine wa_iload_n dX6_third_56 rfl ?_
      refine wa_ic_geT 80 dX6_third_57 (by decide) (le_nI (by omega) (by omega)) ?_
      refine wa_lconst (0) dX6_third_80 (by decide) ?_
      refine wa_lstore dX6_third_81 (by decide) ?_
      refine wa_iconst (nI 0) dX6_third_83 (by decide) ?_
      refine wa_istore dX6_third_84 (by decide) ?_
      exact e_ _ _
    | succ m ih =>
      intro w hw2
      have e_ := ih (w + 1) (by omega)
      have hw3 := wvN_lt (v := mN μ r) (n := n) (w := w) (by omega)
      have hab := posU_inc (mN μ r) n w hw3
      have hbb := posU_lt (mN μ r) n (w + 1) hw3
      have ua := mUps_85 (μ := μ) (r := r) (n := n) (w := w) (by omega)
      have ub := mUps_85 (μ := μ) (r := r) (n := n) (w := w + 1) hw3
      have eh : wfL (mN μ r) (posU (mN μ r) n w) (posU (mN μ r) n (w + 1)) 4 = hWv (mN μ r) n w := rfl
      refine wa_iload dX6_third_54 rfl ?_
      refine wa_iload_n dX6_third_56 rfl ?_
      refine wa_ic_geF 80 dX6_third_57 (by decide) (nle_nI (by omega) (by omega)) ?_
      refine wa_aload_n dX6_third_60 rfl ?_
      refine wa_getR dX6_third_61 fgX6_33 (by first | assumption | rfl) (by rfl) ?_
      refine wa_iload dX6_third_64 rfl ?_
      refine wa_aload_n dX6_third_66 rfl ?_
      refine wa_iload_n dX6_third_67 rfl ?_
      refine wa_iload dX6_third_68 rfl ?_
      refine wa_callV2 (k' := kX6_height) (d' := 1) dX6_third_70 lmX6_159 kvX6_height (by first | assumption | rfl) (by rfl) (by decide) (by omega) (Nat.le_of_ble_eq_true rfl) ?_
      refine wp_X6_height (v := mN μ r) (by omega) hr (by omega) (fun i => by rw [bL_off (by omega)]; exact hvv i) (by rw [rb2l]; exact ua) (by rw [rb2l]; exact ub) hab (by omega) ?_
      rw [eh]
      refine wa_last _ dX6_third_73 (by first | assumption | rfl) (by first | with_reducible rfl | with_reducible assumption | with_reducible exact ix_ma _ _ _ | with_reducible exact ix_maa _ _ _ _ | with_reducible exact ix_a _ _ | with_reducible exact ix_mama _ _ _ _ _) (by omega) ?_
      refine wa_iinc (nI 1) dX6_third_74 rfl (by decide) (by decide) ?_
      refine wa_goto 54 dX6_third_77 (by decide) ?_
      rw [sLb, frF_s]; simp only [nI_add]; exact e_
  have e0 := loopA f 0 (by omega)
  rw [frF_0, bL_self] at e0
  have ed : nI f / nI 3 = nI (f / 3) := pk_div (by omega) (by omega) (by omega)
  refine wa_iload_n dX6_third_35 rfl ?_
  refine wa_iconst (nI 3) dX6_third_36 (by decide) ?_
  refine wa_idiv dX6_third_37 (by decide) ?_
  refine wa_iconst (nI 1) dX6_third_38 (by decide) ?_
  refine wa_ic_le 48 dX6_third_39 (by decide) (fun c39_1 => ?_) (fun c39_1 => ?_)
  · try simp (disch := omega) only [nI_toInt, Int32.toInt_toInt64, ed] at c39_1
    refine wa_iconst (nI 1) dX6_third_48 (by decide) ?_
    refine wa_istore dX6_third_49 (by decide) ?_
    refine wa_iconst (nI 0) dX6_third_51 (by decide) ?_
    refine wa_istore dX6_third_52 (by decide) ?_
    obtain rfl : K = 1 := by omega
    exact e0
  · try simp (disch := omega) only [nI_toInt, Int32.toInt_toInt64, ed] at c39_1
    refine wa_iload_n dX6_third_42 rfl ?_
    refine wa_iconst (nI 3) dX6_third_43 (by decide) ?_
    refine wa_idiv dX6_third_44 (by decide) ?_
    refine wa_goto 49 dX6_third_45 (by decide) ?_
    refine wa_istore dX6_third_49 (by decide) ?_
    refine wa_iconst (nI 0) dX6_third_51 (by decide) ?_
    refine wa_istore dX6_third_52 (by decide) ?_
    rw [ed, show f / 3 = K by omega]; exact e0
theorem third_c {f g : Nat → Int64} {n : Nat} (h : ∀ i, i < n → f i = g i) : lsB (vZ (hWv f n)) (wvN g n) = lsB (vZ (hWv g n)) (wvN g n) := lsB_c (fun i hi => by rw [vZ, vZ, hWv_c h hi])
theorem pr_third (k q : Int32) : PR kX5_third kX6_third [.int k, .int q] := by
  intro N μ d c hd hc hN hrel
  refine MW_of (by decide) [some (.ref 0), some (.int k), some (.int q), none, none, none, none, none] rfl (Nat.le_of_ble_eq_true rfl) ?_
  refine wa_iload_n dX5_third_0 rfl ?_
  refine wa_callS1 (k' := kX5_isRow) (d' := 0) dX5_third_1 lmX5_111 ksX5_isRow (by decide) (by omega) (Nat.le_of_ble_eq_true rfl) ?_
  refine wp_X5_isRow (fun r_ hr_ hk_ => ?_) (fun hoob => ?_)
  · skip
    subst hk_; obtain ⟨n_, s1_, s2_, s3_, s4_, s5_⟩ := hrel.2.1 r_ (by omega); have hR_ := isR_k (show r_ < 6 by omega); have hsh_ := (isR_sh hR_).1; have hwe_ := wvN_c (f := mN μ r_) s4_; have hu_ := upN_63 (v := μ.2 (43 + 5 * r_ + 1)) s2_; have hwd_ : wvN (μ.2 (43 + 5 * r_ + 1)) n_ = upN (μ.2 (43 + 5 * r_ + 1)) n_ - 1 := rfl
    refine wa_if_eqF 16 dX5_third_4 (by decide) (by decide) ?_
    refine wa_iload_n dX5_third_7 rfl ?_
    refine wa_if_lt 16 dX5_third_8 (by decide) (fun c8_2 => ?_) (fun c8_2 => ?_)
    · try simp (disch := omega) only [nI_toInt, Int32.toInt_toInt64] at c8_2
      refine wa_ldc2 (-5000000000000000002) dX5_third_16 lcX5_123 ?_
      refine wa_lret dX5_third_19 rfl ?_
      skip
      refine MW_of (by decide) [some (.ref 73), some (.int _), some (.int q), none, none, none, none, none, none, none] rfl (Nat.le_of_ble_eq_true rfl) ?_
      refine wa_iload_n dX6_third_0 rfl ?_
      refine wa_callS1 (k' := kX6_isRow) (d' := 1) dX6_third_1 lmX6_100 ksX6_isRow (by decide) (by omega) (Nat.le_of_ble_eq_true rfl) ?_
      first | refine isRo_1 (by omega) hr_ ?_ | refine isRo_0 (by omega) hoob ?_
      refine wa_if_eq 17 dX6_third_4 (by decide) (fun c4_2 => ?_) (fun c4_2 => ?_)
      · try simp (disch := omega) only [nI_toInt, Int32.toInt_toInt64, not_true_eq_false] at c4_2
        try (exfalso; omega)
        all_goals
          skip
          refine wa_ldc2 (-5000000000000000002) dX6_third_17 lcX6_104 ?_
          refine wa_lret dX6_third_20 rfl ?_
          exact ⟨rfl, hrel.up⟩
      · try simp (disch := omega) only [nI_toInt, Int32.toInt_toInt64, not_true_eq_false] at c4_2
        try (exfalso; omega)
        all_goals
          skip
          refine wa_iload_n dX6_third_7 rfl ?_
          refine wa_i2l dX6_third_8 ?_
          refine wa_lconst (0) dX6_third_9 (by decide) ?_
          refine wa_lconst (1) dX6_third_10 (by decide) ?_
          refine wa_callS3 (k' := kX6_in) (d' := 0) dX6_third_11 lmX6_60 ksX6_in (by decide) (by omega) (Nat.le_of_ble_eq_true rfl) ?_
          refine wp_X6_in (fun hy_ => ?_) (fun hy_ => ?_)
          · skip
            rw [Int32.toInt_toInt64, z64, k1L] at hy_
            try (exfalso; omega)
            all_goals
              skip
              refine wa_if_neT 21 dX6_third_14 (by decide) (by decide) ?_
              skip
          · skip
            rw [Int32.toInt_toInt64, z64, k1L] at hy_
            try (exfalso; omega)
            all_goals
              skip
              refine wa_if_neF 21 dX6_third_14 (by decide) (by decide) ?_
              refine wa_ldc2 (-5000000000000000002) dX6_third_17 lcX6_104 ?_
              refine wa_lret dX6_third_20 rfl ?_
              exact ⟨rfl, hrel.up⟩
    · try simp (disch := omega) only [nI_toInt, Int32.toInt_toInt64] at c8_2
      refine wa_iload_n dX5_third_11 rfl ?_
      refine wa_iconst (nI 1) dX5_third_12 (by decide) ?_
      refine wa_ic_le 20 dX5_third_13 (by decide) (fun c13_3 => ?_) (fun c13_3 => ?_)
      · try simp (disch := omega) only [nI_toInt, Int32.toInt_toInt64] at c13_3
        refine wa_aload_n dX5_third_20 rfl ?_
        refine wa_getR dX5_third_21 fgX5_18 (by first | assumption | rfl) (by rfl) ?_
        refine wa_iload_n dX5_third_24 rfl ?_
        refine wa_aalR _ dX5_third_25 (by first | assumption | rfl) (by first | with_reducible rfl | with_reducible assumption | with_reducible exact ix_ma _ _ _ | with_reducible exact ix_maa _ _ _ _ | with_reducible exact ix_a _ _ | with_reducible exact ix_mama _ _ _ _ _) (by omega) ?_
        rw [show arf 2 r_ = 43 + 5 * r_ from rfl]
        refine wa_callV0 (k' := kX2_findWaves) (d' := 1) dX5_third_26 lmX5_172 kvX2_findWaves (by first | assumption | rfl) (by rfl) (by decide) (by omega) (Nat.le_of_ble_eq_true rfl) ?_
        refine wp_X2_findWaves (n := n_) hR_ (by omega) s1_ s2_ ?_
        refine wa_istore_n dX5_third_29 (by decide) ?_
        refine wa_iload_n dX5_third_30 rfl ?_
        refine wa_if_ne 38 dX5_third_31 (by decide) (fun c31_5 => ?_) (fun c31_5 => ?_)
        · try simp (disch := omega) only [nI_toInt, Int32.toInt_toInt64] at c31_5
          refine wa_iload_n dX5_third_38 rfl ?_
          refine wa_iconst (nI 3) dX5_third_39 (by decide) ?_
          refine wa_idiv dX5_third_40 (by decide) ?_
          refine wa_iconst (nI 1) dX5_third_41 (by decide) ?_
          refine wa_mmaxI dX5_third_42 lmX5_178 (by omega) (Nat.le_of_ble_eq_true rfl) ?_
          rw [pk_div (by omega) (by omega) (by omega), mxI_nI (by omega) (by omega)]
          generalize hK_ : max (wvN (μ.2 (43 + 5 * r_ + 1)) n_ / 3) 1 = K_
          obtain ⟨A_, hA_, hA9_, hsum_⟩ := third_sum (v := μ.2 (43 + 5 * r_ + 1)) (n := n_) (K := K_) s5_ rfl (by omega) s2_
          refine wa_istore dX5_third_45 (by decide) ?_
          refine wa_aload_n dX5_third_47 rfl ?_
          refine wa_getR dX5_third_48 fgX5_18 (by first | assumption | rfl) (by rfl) ?_
          refine wa_iload_n dX5_third_51 rfl ?_
          refine wa_aalR _ dX5_third_52 (by first | assumption | rfl) (by first | with_reducible rfl | with_reducible assumption | with_reducible exact ix_ma _ _ _ | with_reducible exact ix_maa _ _ _ _ | with_reducible exact ix_a _ _ | with_reducible exact ix_mama _ _ _ _ _) (by omega) ?_
          rw [show arf 2 r_ = 43 + 5 * r_ from rfl]
          refine wa_iload_n dX5_third_53 rfl ?_
          refine wa_iload dX5_third_54 rfl ?_
          refine wa_callV2 (k' := kX2_highestTogether) (d' := 2) dX5_third_56 lmX5_183 kvX2_highestTogether (by first | assumption | rfl) (by rfl) (by decide) (by omega) (Nat.le_of_ble_eq_true rfl) ?_
          refine wp_X2_highestTogether (f := wvN (μ.2 (43 + 5 * r_ + 1)) n_) (k := K_) (U := posU (μ.2 (43 + 5 * r_ + 1)) n_) hR_ (by omega) (by omega) (by omega) (fun w hw => by rw [rb1e]; exact upsF_at _ _ n_ w (by omega)) (fun w hw => posU_inc _ n_ w (by omega)) (fun w hw => by have := posU_lt (μ.2 (43 + 5 * r_ + 1)) n_ w (by omega); omega) ?_
          simp only [rb1l]; rw [hsum_]
          refine wa_lstore dX5_third_59 (by decide) ?_
          refine wa_lload dX5_third_61 rfl ?_
          refine wa_iload dX5_third_63 rfl ?_
          refine wa_callS2 (k' := kX5_commonDivisor) (d' := 0) dX5_third_65 lmX5_186 ksX5_commonDivisor (by decide) (by omega) (Nat.le_of_ble_eq_true rfl) ?_
          refine wp_X5_commonDivisor (k := K_) (by omega) (by omega) ?_
          rw [cdF_gcd (by omega) (by omega) (by omega) K_ (Nat.le_refl K_) (Nat.gcd_le_right A_ (by omega))]; have hG_ := Nat.gcd_pos_of_pos_right A_ (show 0 < K_ by omega); have hGK_ := Nat.gcd_le_right A_ (show 0 < K_ by omega)
          refine wa_istore dX5_third_68 (by decide) ?_
          refine wa_iload_n dX5_third_70 rfl ?_
          refine wa_if_ne 83 dX5_third_71 (by decide) (fun c71_8 => ?_) (fun c71_8 => ?_)
          · try simp (disch := omega) only [nI_toInt, Int32.toInt_toInt64] at c71_8
            refine wa_iload dX5_third_83 rfl ?_
            refine wa_iload dX5_third_85 rfl ?_
            refine wa_idiv dX5_third_87 (nI_ne0 (by omega) (by omega)) ?_
            refine wa_i2l dX5_third_88 ?_
            refine wa_lret dX5_third_89 rfl ?_
            have em_ : mN (bL (bI μ (43 + 5 * r_ + 3) (upsF (μ.2 (43 + 5 * r_ + 1)) (μ.1 (43 + 5 * r_ + 3)) n_)) (43 + 5 * r_ + 4) (srtA (fun w => wfL (μ.2 (43 + 5 * r_ + 1)) (posU (μ.2 (43 + 5 * r_ + 1)) n_ w) (posU (μ.2 (43 + 5 * r_ + 1)) n_ (w + 1)) 4) (μ.2 (43 + 5 * r_ + 4)) (wvN (μ.2 (43 + 5 * r_ + 1)) n_))) r_ = mN μ r_ := (mN_off (by omega)).trans mN_offI
            refine MW_of (by decide) [some (.ref 73), some (.int (nI r_)), some (.int q), none, none, none, none, none, none, none] rfl (Nat.le_of_ble_eq_true rfl) ?_
            refine wa_iload_n dX6_third_0 rfl ?_
            refine wa_callS1 (k' := kX6_isRow) (d' := 1) dX6_third_1 lmX6_100 ksX6_isRow (by decide) (by omega) (Nat.le_of_ble_eq_true rfl) ?_
            refine isRo_1 (by omega) hr_ ?_
            refine wa_if_eqF 17 dX6_third_4 (by decide) (by decide) ?_
            refine wa_iload_n dX6_third_7 rfl ?_
            refine wa_i2l dX6_third_8 ?_
            refine wa_lconst (0) dX6_third_9 (by decide) ?_
            refine wa_lconst (1) dX6_third_10 (by decide) ?_
            refine wa_callS3 (k' := kX6_in) (d' := 0) dX6_third_11 lmX6_60 ksX6_in (by decide) (by omega) (Nat.le_of_ble_eq_true rfl) ?_
            refine in_1 (by rw [Int32.toInt_toInt64, z64, k1L]; omega) ?_
            refine wa_if_neT 21 dX6_third_14 (by decide) (by decide) ?_
            refine wa_aload_n dX6_third_21 rfl ?_
            refine wa_iload_n dX6_third_22 rfl ?_
            refine wa_callV1 (k' := kX6_waveMany) (d' := 1) dX6_third_23 lmX6_154 kvX6_waveMany (by first | assumption | rfl) (by rfl) (by decide) (by omega) (Nat.le_of_ble_eq_true rfl) ?_
            refine wp_X6_waveMany (n := n_) (by omega) hr_ (by simp (disch := omega) only [sI_off, bI_off, sL_off, bL_off, r1l, r2l, rb1l, rb2l, r1m, r2m, rb1e, rb2e, r1e, r2e]; exact s3_) s2_ ?_
            rw [em_, hwe_]
            refine wa_istore_n dX6_third_26 (by decide) ?_
            refine wa_iload_n dX6_third_27 rfl ?_
            refine wa_if_neT 35 dX6_third_28 (by decide) (by rw [nI_toInt (by omega)]; omega) ?_
            refine wa_third (n := n_) (f := wvN (μ.2 (43 + 5 * r_ + 1)) n_) (K := K_) (A := A_) (by omega) hr_ s2_ (by rw [em_, hwe_]) (by omega) hK_ (by rw [em_]; exact inB_c (fun i hi => (s4_ i hi).symm) s5_) (by rw [em_, third_c (f := mN μ r_) s4_]; exact hA_) hA9_ (fun hq_ D_ => ⟨?_, ?_⟩) (fun hq_ D_ => ⟨?_, ?_⟩)
            · first | (exfalso; omega) | (rw [lN_nI (by omega), pk_lDiv (by omega) (by omega) (by omega)])
            · unfold mUps
              refine Rel_0 hrel ?fs ?fr ?fp ?fw ?fm
              case fs =>
                intro j_ hj_
                refine ⟨?_, ?_, ?_, ?_, ?_, ?_, fun i_ hi_ => ?_, fun i_ hi_ => ?_⟩
                all_goals
                  simp (disch := omega) only [sI_off, bI_off, sL_off, bL_off, r1l, r2l, rb1l, rb2l, r1m, r2m, rb1e, rb2e,r1e]
              case fr =>
                intro r_ hr_
                refine ⟨?_, ?_, ?_, fun i_ hi_ => ?_⟩
                all_goals
                  simp (disch := omega) only [sI_off, bI_off, sL_off, bL_off, r1l, r2l, rb1l, rb2l, r1m, r2m, rb1e, rb2e,r1e]
              case fp =>
                refine ⟨?_, ?_, ?_, ?_, ?_⟩
                all_goals
                  simp (disch := omega) only [sI_off, bI_off, sL_off, bL_off, r1l, r2l, rb1l, rb2l, r1m, r2m, rb1e, rb2e,r1e]
              case fw =>
                refine ⟨?_, fun q_ ha_ hb_ => ?_⟩
                all_goals
                  simp (disch := omega) only [sI_off, bI_off, sL_off, bL_off, r1l, r2l, rb1l, rb2l, r1m, r2m, rb1e, rb2e,r1e]
              case fm =>
                refine ⟨?_, ?_, fun q_ ha_ hb_ => ?_⟩
                all_goals
                  simp (disch := omega) only [sI_off, bI_off, sL_off, bL_off, r1l, r2l, rb1l, rb2l, r1m, r2m, rb1e, rb2e,r1e]
            · first | (exfalso; omega) | (rw [pk_div (by omega) (by omega) (by omega), lN_nI (by have := Nat.div_le_self K_ (Nat.gcd A_ K_); omega)])
            · unfold mUps
              refine Rel_0 hrel ?fs ?fr ?fp ?fw ?fm
              case fs =>
                intro j_ hj_
                refine ⟨?_, ?_, ?_, ?_, ?_, ?_, fun i_ hi_ => ?_, fun i_ hi_ => ?_⟩
                all_goals
                  simp (disch := omega) only [sI_off, bI_off, sL_off, bL_off, r1l, r2l, rb1l, rb2l, r1m, r2m, rb1e, rb2e,r1e]
              case fr =>
                intro r_ hr_
                refine ⟨?_, ?_, ?_, fun i_ hi_ => ?_⟩
                all_goals
                  simp (disch := omega) only [sI_off, bI_off, sL_off, bL_off, r1l, r2l, rb1l, rb2l, r1m, r2m, rb1e, rb2e,r1e]
              case fp =>
                refine ⟨?_, ?_, ?_, ?_, ?_⟩
                all_goals
                  simp (disch := omega) only [sI_off, bI_off, sL_off, bL_off, r1l, r2l, rb1l, rb2l, r1m, r2m, rb1e, rb2e,r1e]
              case fw =>
                refine ⟨?_, fun q_ ha_ hb_ => ?_⟩
                all_goals
                  simp (disch := omega) only [sI_off, bI_off, sL_off, bL_off, r1l, r2l, rb1l, rb2l, r1m, r2m, rb1e, rb2e,r1e]
              case fm =>
                refine ⟨?_, ?_, fun q_ ha_ hb_ => ?_⟩
                all_goals
                  simp (disch := omega) only [sI_off, bI_off, sL_off, bL_off, r1l, r2l, rb1l, rb2l, r1m, r2m, rb1e, rb2e,r1e]
          · try simp (disch := omega) only [nI_toInt, Int32.toInt_toInt64] at c71_8
            refine wa_lload dX5_third_74 rfl ?_
            refine wa_iload dX5_third_76 rfl ?_
            refine wa_i2l dX5_third_78 ?_
            refine wa_ldiv dX5_third_79 (nIl_ne (by omega) (by omega)) ?_
            refine wa_goto 89 dX5_third_80 (by decide) ?_
            refine wa_lret dX5_third_89 rfl ?_
            have em_ : mN (bL (bI μ (43 + 5 * r_ + 3) (upsF (μ.2 (43 + 5 * r_ + 1)) (μ.1 (43 + 5 * r_ + 3)) n_)) (43 + 5 * r_ + 4) (srtA (fun w => wfL (μ.2 (43 + 5 * r_ + 1)) (posU (μ.2 (43 + 5 * r_ + 1)) n_ w) (posU (μ.2 (43 + 5 * r_ + 1)) n_ (w + 1)) 4) (μ.2 (43 + 5 * r_ + 4)) (wvN (μ.2 (43 + 5 * r_ + 1)) n_))) r_ = mN μ r_ := (mN_off (by omega)).trans mN_offI
            refine MW_of (by decide) [some (.ref 73), some (.int (nI r_)), some (.int q), none, none, none, none, none, none, none] rfl (Nat.le_of_ble_eq_true rfl) ?_
            refine wa_iload_n dX6_third_0 rfl ?_
            refine wa_callS1 (k' := kX6_isRow) (d' := 1) dX6_third_1 lmX6_100 ksX6_isRow (by decide) (by omega) (Nat.le_of_ble_eq_true rfl) ?_
            refine isRo_1 (by omega) hr_ ?_
            refine wa_if_eqF 17 dX6_third_4 (by decide) (by decide) ?_
            refine wa_iload_n dX6_third_7 rfl ?_
            refine wa_i2l dX6_third_8 ?_
            refine wa_lconst (0) dX6_third_9 (by decide) ?_
            refine wa_lconst (1) dX6_third_10 (by decide) ?_
            refine wa_callS3 (k' := kX6_in) (d' := 0) dX6_third_11 lmX6_60 ksX6_in (by decide) (by omega) (Nat.le_of_ble_eq_true rfl) ?_
            refine in_1 (by rw [Int32.toInt_toInt64, z64, k1L]; omega) ?_
            refine wa_if_neT 21 dX6_third_14 (by decide) (by decide) ?_
            refine wa_aload_n dX6_third_21 rfl ?_
            refine wa_iload_n dX6_third_22 rfl ?_
            refine wa_callV1 (k' := kX6_waveMany) (d' := 1) dX6_third_23 lmX6_154 kvX6_waveMany (by first | assumption | rfl) (by rfl) (by decide) (by omega) (Nat.le_of_ble_eq_true rfl) ?_
            refine wp_X6_waveMany (n := n_) (by omega) hr_ (by simp (disch := omega) only [sI_off, bI_off, sL_off, bL_off, r1l, r2l, rb1l, rb2l, r1m, r2m, rb1e, rb2e, r1e, r2e]; exact s3_) s2_ ?_
            rw [em_, hwe_]
            refine wa_istore_n dX6_third_26 (by decide) ?_
            refine wa_iload_n dX6_third_27 rfl ?_
            refine wa_if_neT 35 dX6_third_28 (by decide) (by rw [nI_toInt (by omega)]; omega) ?_
            refine wa_third (n := n_) (f := wvN (μ.2 (43 + 5 * r_ + 1)) n_) (K := K_) (A := A_) (by omega) hr_ s2_ (by rw [em_, hwe_]) (by omega) hK_ (by rw [em_]; exact inB_c (fun i hi => (s4_ i hi).symm) s5_) (by rw [em_, third_c (f := mN μ r_) s4_]; exact hA_) hA9_ (fun hq_ D_ => ⟨?_, ?_⟩) (fun hq_ D_ => ⟨?_, ?_⟩)
            · first | (exfalso; omega) | (rw [lN_nI (by omega), pk_lDiv (by omega) (by omega) (by omega)])
            · unfold mUps
              refine Rel_0 hrel ?fs ?fr ?fp ?fw ?fm
              case fs =>
                intro j_ hj_
                refine ⟨?_, ?_, ?_, ?_, ?_, ?_, fun i_ hi_ => ?_, fun i_ hi_ => ?_⟩
                all_goals
                  simp (disch := omega) only [sI_off, bI_off, sL_off, bL_off, r1l, r2l, rb1l, rb2l, r1m, r2m, rb1e, rb2e,r1e]
              case fr =>
                intro r_ hr_
                refine ⟨?_, ?_, ?_, fun i_ hi_ => ?_⟩
                all_goals
                  simp (disch := omega) only [sI_off, bI_off, sL_off, bL_off, r1l, r2l, rb1l, rb2l, r1m, r2m, rb1e, rb2e,r1e]
              case fp =>
                refine ⟨?_, ?_, ?_, ?_, ?_⟩
                all_goals
                  simp (disch := omega) only [sI_off, bI_off, sL_off, bL_off, r1l, r2l, rb1l, rb2l, r1m, r2m, rb1e, rb2e,r1e]
              case fw =>
                refine ⟨?_, fun q_ ha_ hb_ => ?_⟩
                all_goals
                  simp (disch := omega) only [sI_off, bI_off, sL_off, bL_off, r1l, r2l, rb1l, rb2l, r1m, r2m, rb1e, rb2e,r1e]
              case fm =>
                refine ⟨?_, ?_, fun q_ ha_ hb_ => ?_⟩
                all_goals
                  simp (disch := omega) only [sI_off, bI_off, sL_off, bL_off, r1l, r2l, rb1l, rb2l, r1m, r2m, rb1e, rb2e,r1e]
            · first | (exfalso; omega) | (rw [pk_div (by omega) (by omega) (by omega), lN_nI (by have := Nat.div_le_self K_ (Nat.gcd A_ K_); omega)])
            · unfold mUps
              refine Rel_0 hrel ?fs ?fr ?fp ?fw ?fm
              case fs =>
                intro j_ hj_
                refine ⟨?_, ?_, ?_, ?_, ?_, ?_, fun i_ hi_ => ?_, fun i_ hi_ => ?_⟩
                all_goals
                  simp (disch := omega) only [sI_off, bI_off, sL_off, bL_off, r1l, r2l, rb1l, rb2l, r1m, r2m, rb1e, rb2e,r1e]
              case fr =>
                intro r_ hr_
                refine ⟨?_, ?_, ?_, fun i_ hi_ => ?_⟩
                all_goals
                  simp (disch := omega) only [sI_off, bI_off, sL_off, bL_off, r1l, r2l, rb1l, rb2l, r1m, r2m, rb1e, rb2e,r1e]
              case fp =>
                refine ⟨?_, ?_, ?_, ?_, ?_⟩
                all_goals
                  simp (disch := omega) only [sI_off, bI_off, sL_off, bL_off, r1l, r2l, rb1l, rb2l, r1m, r2m, rb1e, rb2e,r1e]
              case fw =>
                refine ⟨?_, fun q_ ha_ hb_ => ?_⟩
                all_goals
                  simp (disch := omega) only [sI_off, bI_off, sL_off, bL_off, r1l, r2l, rb1l, rb2l, r1m, r2m, rb1e, rb2e,r1e]
              case fm =>
                refine ⟨?_, ?_, fun q_ ha_ hb_ => ?_⟩
                all_goals
                  simp (disch := omega) only [sI_off, bI_off, sL_off, bL_off, r1l, r2l, rb1l, rb2l, r1m, r2m, rb1e, rb2e,r1e]
        · try simp (disch := omega) only [nI_toInt, Int32.toInt_toInt64] at c31_5
          refine wa_ldc2 (-5000000000000000003) dX5_third_34 lcX5_162 ?_
          refine wa_lret dX5_third_37 rfl ?_
          have em_ : mN (bI μ (43 + 5 * r_ + 3) (upsF (μ.2 (43 + 5 * r_ + 1)) (μ.1 (43 + 5 * r_ + 3)) n_)) r_ = mN μ r_ := mN_offI
          refine MW_of (by decide) [some (.ref 73), some (.int (nI r_)), some (.int q), none, none, none, none, none, none, none] rfl (Nat.le_of_ble_eq_true rfl) ?_
          refine wa_iload_n dX6_third_0 rfl ?_
          refine wa_callS1 (k' := kX6_isRow) (d' := 1) dX6_third_1 lmX6_100 ksX6_isRow (by decide) (by omega) (Nat.le_of_ble_eq_true rfl) ?_
          refine isRo_1 (by omega) hr_ ?_
          refine wa_if_eqF 17 dX6_third_4 (by decide) (by decide) ?_
          refine wa_iload_n dX6_third_7 rfl ?_
          refine wa_i2l dX6_third_8 ?_
          refine wa_lconst (0) dX6_third_9 (by decide) ?_
          refine wa_lconst (1) dX6_third_10 (by decide) ?_
          refine wa_callS3 (k' := kX6_in) (d' := 0) dX6_third_11 lmX6_60 ksX6_in (by decide) (by omega) (Nat.le_of_ble_eq_true rfl) ?_
          refine in_1 (by rw [Int32.toInt_toInt64, z64, k1L]; omega) ?_
          refine wa_if_neT 21 dX6_third_14 (by decide) (by decide) ?_
          refine wa_aload_n dX6_third_21 rfl ?_
          refine wa_iload_n dX6_third_22 rfl ?_
          refine wa_callV1 (k' := kX6_waveMany) (d' := 1) dX6_third_23 lmX6_154 kvX6_waveMany (by first | assumption | rfl) (by rfl) (by decide) (by omega) (Nat.le_of_ble_eq_true rfl) ?_
          refine wp_X6_waveMany (n := n_) (by omega) hr_ (by simp (disch := omega) only [sI_off, bI_off, sL_off, bL_off, r1l, r2l, rb1l, rb2l, r1m, r2m, rb1e, rb2e, r1e, r2e]; exact s3_) s2_ ?_
          rw [em_, hwe_]
          refine wa_istore_n dX6_third_26 (by decide) ?_
          refine wa_iload_n dX6_third_27 rfl ?_
          refine wa_if_ne 35 dX6_third_28 (by decide) (fun c28_4 => ?_) (fun c28_4 => ?_)
          · try simp (disch := omega) only [nI_toInt, Int32.toInt_toInt64, not_true_eq_false] at c28_4
            try (exfalso; omega)
            all_goals
              skip
              skip
          · try simp (disch := omega) only [nI_toInt, Int32.toInt_toInt64, not_true_eq_false] at c28_4
            try (exfalso; omega)
            all_goals
              skip
              refine wa_ldc2 (-5000000000000000003) dX6_third_31 lcX6_141 ?_
              refine wa_lret dX6_third_34 rfl ?_
              refine ⟨rfl, ?_⟩
              unfold mUps
              refine Rel_0 hrel ?fs ?fr ?fp ?fw ?fm
              case fs =>
                intro j_ hj_
                refine ⟨?_, ?_, ?_, ?_, ?_, ?_, fun i_ hi_ => ?_, fun i_ hi_ => ?_⟩
                all_goals
                  simp (disch := omega) only [sI_off, bI_off, sL_off, bL_off, r1l, r2l, rb1l, rb2l, r1m, r2m, rb1e, rb2e,r1e]
              case fr =>
                intro r_ hr_
                refine ⟨?_, ?_, ?_, fun i_ hi_ => ?_⟩
                all_goals
                  simp (disch := omega) only [sI_off, bI_off, sL_off, bL_off, r1l, r2l, rb1l, rb2l, r1m, r2m, rb1e, rb2e,r1e]
              case fp =>
                refine ⟨?_, ?_, ?_, ?_, ?_⟩
                all_goals
                  simp (disch := omega) only [sI_off, bI_off, sL_off, bL_off, r1l, r2l, rb1l, rb2l, r1m, r2m, rb1e, rb2e,r1e]
              case fw =>
                refine ⟨?_, fun q_ ha_ hb_ => ?_⟩
                all_goals
                  simp (disch := omega) only [sI_off, bI_off, sL_off, bL_off, r1l, r2l, rb1l, rb2l, r1m, r2m, rb1e, rb2e,r1e]
              case fm =>
                refine ⟨?_, ?_, fun q_ ha_ hb_ => ?_⟩
                all_goals
                  simp (disch := omega) only [sI_off, bI_off, sL_off, bL_off, r1l, r2l, rb1l, rb2l, r1m, r2m, rb1e, rb2e,r1e]
      · try simp (disch := omega) only [nI_toInt, Int32.toInt_toInt64] at c13_3
        refine wa_ldc2 (-5000000000000000002) dX5_third_16 lcX5_123 ?_
        refine wa_lret dX5_third_19 rfl ?_
        skip
        refine MW_of (by decide) [some (.ref 73), some (.int _), some (.int q), none, none, none, none, none, none, none] rfl (Nat.le_of_ble_eq_true rfl) ?_
        refine wa_iload_n dX6_third_0 rfl ?_
        refine wa_callS1 (k' := kX6_isRow) (d' := 1) dX6_third_1 lmX6_100 ksX6_isRow (by decide) (by omega) (Nat.le_of_ble_eq_true rfl) ?_
        first | refine isRo_1 (by omega) hr_ ?_ | refine isRo_0 (by omega) hoob ?_
        refine wa_if_eq 17 dX6_third_4 (by decide) (fun c4_2 => ?_) (fun c4_2 => ?_)
        · try simp (disch := omega) only [nI_toInt, Int32.toInt_toInt64, not_true_eq_false] at c4_2
          try (exfalso; omega)
          all_goals
            skip
            refine wa_ldc2 (-5000000000000000002) dX6_third_17 lcX6_104 ?_
            refine wa_lret dX6_third_20 rfl ?_
            exact ⟨rfl, hrel.up⟩
        · try simp (disch := omega) only [nI_toInt, Int32.toInt_toInt64, not_true_eq_false] at c4_2
          try (exfalso; omega)
          all_goals
            skip
            refine wa_iload_n dX6_third_7 rfl ?_
            refine wa_i2l dX6_third_8 ?_
            refine wa_lconst (0) dX6_third_9 (by decide) ?_
            refine wa_lconst (1) dX6_third_10 (by decide) ?_
            refine wa_callS3 (k' := kX6_in) (d' := 0) dX6_third_11 lmX6_60 ksX6_in (by decide) (by omega) (Nat.le_of_ble_eq_true rfl) ?_
            refine wp_X6_in (fun hy_ => ?_) (fun hy_ => ?_)
            · skip
              rw [Int32.toInt_toInt64, z64, k1L] at hy_
              try (exfalso; omega)
              all_goals
                skip
                refine wa_if_neT 21 dX6_third_14 (by decide) (by decide) ?_
                skip
            · skip
              rw [Int32.toInt_toInt64, z64, k1L] at hy_
              try (exfalso; omega)
              all_goals
                skip
                refine wa_if_neF 21 dX6_third_14 (by decide) (by decide) ?_
                refine wa_ldc2 (-5000000000000000002) dX6_third_17 lcX6_104 ?_
                refine wa_lret dX6_third_20 rfl ?_
                exact ⟨rfl, hrel.up⟩
  · skip
    refine wa_if_eqT 16 dX5_third_4 (by decide) (by decide) ?_
    refine wa_ldc2 (-5000000000000000002) dX5_third_16 lcX5_123 ?_
    refine wa_lret dX5_third_19 rfl ?_
    skip
    refine MW_of (by decide) [some (.ref 73), some (.int _), some (.int q), none, none, none, none, none, none, none] rfl (Nat.le_of_ble_eq_true rfl) ?_
    refine wa_iload_n dX6_third_0 rfl ?_
    refine wa_callS1 (k' := kX6_isRow) (d' := 1) dX6_third_1 lmX6_100 ksX6_isRow (by decide) (by omega) (Nat.le_of_ble_eq_true rfl) ?_
    first | refine isRo_1 (by omega) hr_ ?_ | refine isRo_0 (by omega) hoob ?_
    refine wa_if_eq 17 dX6_third_4 (by decide) (fun c4_2 => ?_) (fun c4_2 => ?_)
    · try simp (disch := omega) only [nI_toInt, Int32.toInt_toInt64, not_true_eq_false] at c4_2
      try (exfalso; omega)
      all_goals
        skip
        refine wa_ldc2 (-5000000000000000002) dX6_third_17 lcX6_104 ?_
        refine wa_lret dX6_third_20 rfl ?_
        exact ⟨rfl, hrel.up⟩
    · try simp (disch := omega) only [nI_toInt, Int32.toInt_toInt64, not_true_eq_false] at c4_2
      try (exfalso; omega)
      all_goals
        skip
        refine wa_iload_n dX6_third_7 rfl ?_
        refine wa_i2l dX6_third_8 ?_
        refine wa_lconst (0) dX6_third_9 (by decide) ?_
        refine wa_lconst (1) dX6_third_10 (by decide) ?_
        refine wa_callS3 (k' := kX6_in) (d' := 0) dX6_third_11 lmX6_60 ksX6_in (by decide) (by omega) (Nat.le_of_ble_eq_true rfl) ?_
        refine wp_X6_in (fun hy_ => ?_) (fun hy_ => ?_)
        · skip
          rw [Int32.toInt_toInt64, z64, k1L] at hy_
          try (exfalso; omega)
          all_goals
            skip
            refine wa_if_neT 21 dX6_third_14 (by decide) (by decide) ?_
            skip
        · skip
          rw [Int32.toInt_toInt64, z64, k1L] at hy_
          try (exfalso; omega)
          all_goals
            skip
            refine wa_if_neF 21 dX6_third_14 (by decide) (by decide) ?_
            refine wa_ldc2 (-5000000000000000002) dX6_third_17 lcX6_104 ?_
            refine wa_lret dX6_third_20 rfl ?_
            exact ⟨rfl, hrel.up⟩
