/-! THE MODEL: one object of tag 73, its arrays behind it -/
def mF (μ : Mem) (j : Nat) : Nat → Int32 := fun i => μ.1 77 (64 * j + i)
def mV (μ : Mem) (j : Nat) : Nat → Int32 := fun i => μ.1 78 (64 * j + i)
def mN (μ : Mem) (r : Nat) : Nat → Int64 := fun i => μ.2 80 (64 * r + i)
theorem wp_X6_in {d : Nat} {v lo hi : Int64} {μ : Mem} {Q : QM} (h1 : lo.toInt ≤ v.toInt ∧ v.toInt ≤ hi.toInt → Q (some (.int (nI 1))) μ) (h0 : (v.toInt < lo.toInt ∨ hi.toInt < v.toInt) → Q (some (.int (nI 0))) μ) : MW kX6_in d [.long v, .long lo, .long hi] μ Q := by
  refine MW_of (by decide) [some (.long v), none, some (.long lo), none, some (.long hi), none] rfl (Nat.le_of_ble_eq_true rfl) ?_
  refine wa_lload_n dX6_in_0 rfl ?_
  refine wa_lload_n dX6_in_1 rfl ?_
  refine wa_lc_lt 17 dX6_in_2 dX6_in_3 (by decide) (fun c2_1 => ?_) (fun c2_1 => ?_)
  · try simp (disch := omega) only [nI_toInt, Int32.toInt_toInt64] at c2_1
    refine wa_iconst (nI 0) dX6_in_17 (by decide) ?_
    refine wa_zret dX6_in_18 rfl (by decide) ?_
    exact h0 (by omega)
  · try simp (disch := omega) only [nI_toInt, Int32.toInt_toInt64] at c2_1
    refine wa_lload_n dX6_in_6 rfl ?_
    refine wa_lload dX6_in_7 rfl ?_
    refine wa_lc_gt 17 dX6_in_9 dX6_in_10 (by decide) (fun c9_2 => ?_) (fun c9_2 => ?_)
    · try simp (disch := omega) only [nI_toInt, Int32.toInt_toInt64] at c9_2
      refine wa_iconst (nI 0) dX6_in_17 (by decide) ?_
      refine wa_zret dX6_in_18 rfl (by decide) ?_
      exact h0 (by omega)
    · try simp (disch := omega) only [nI_toInt, Int32.toInt_toInt64] at c9_2
      refine wa_iconst (nI 1) dX6_in_13 (by decide) ?_
      refine wa_goto 18 dX6_in_14 (by decide) ?_
      refine wa_zret dX6_in_18 rfl (by decide) ?_
      exact h1 (by omega)
theorem ltI7 : (7 : Int64).toInt = 7 := by decide
theorem ltI5 : (5 : Int64).toInt = 5 := by decide
theorem wp_X6_noSheet {d : Nat} {k : Int32} {μ : Mem} {Q : QM} (hd : 1 ≤ d) (hB : oob k 8 → Q (some (.int (-2))) μ) (hN : ∀ j, j < 8 → k = nI j → (μ.1 74 j).toInt = 0 → Q (some (.int (-10))) μ) (hF : ∀ j, j < 8 → k = nI j → ¬ (μ.1 74 j).toInt = 0 → Q (some (.int (nI 0))) μ) : MW kX6_noSheet d [.ref 73, .int k] μ Q := by
  refine MW_of (by decide) [some (.ref 73), some (.int k)] rfl (Nat.le_of_ble_eq_true rfl) ?_
  unfold oob at hB
  refine wa_iload_n dX6_noSheet_0 rfl ?_
  refine wa_i2l dX6_noSheet_1 ?_
  refine wa_lconst (0) dX6_noSheet_2 (by decide) ?_
  refine wa_ldc2 (7) dX6_noSheet_3 lcX6_58 ?_
  refine wa_callS3 (k' := kX6_in) (d' := 0) dX6_noSheet_6 lmX6_60 ksX6_in (by decide) (by omega) (Nat.le_of_ble_eq_true rfl) ?_
  refine wp_X6_in (fun hi => ?_) (fun hi => ?_)
  · skip
    simp only [Int32.toInt_toInt64, z64, ltI7] at hi; obtain ⟨j, hj, rfl⟩ := nI_ex (x := k) (n := 8) (by omega) (by omega) (by omega)
    refine wa_if_neT 17 dX6_noSheet_9 (by decide) (by decide) ?_
    refine wa_aload_n dX6_noSheet_17 rfl ?_
    refine wa_getR dX6_noSheet_18 fgX6_7 (by first | assumption | rfl) (by rfl) ?_
    refine wa_iload_n dX6_noSheet_21 rfl ?_
    refine wa_zald _ dX6_noSheet_22 (by first | assumption | rfl) (by first | with_reducible rfl | with_reducible assumption | with_reducible exact ix_ma _ _ _ | with_reducible exact ix_maa _ _ _ _ | with_reducible exact ix_a _ _ | with_reducible exact ix_mama _ _ _ _ _) (by omega) ?_
    refine wa_if_eq 30 dX6_noSheet_23 (by decide) (fun c23_2 => ?_) (fun c23_2 => ?_)
    · try simp (disch := omega) only [nI_toInt, Int32.toInt_toInt64] at c23_2
      refine wa_bipush (-10) dX6_noSheet_30 (by decide) ?_
      refine wa_iret dX6_noSheet_32 rfl ?_
      exact hN j hj rfl (by omega)
    · try simp (disch := omega) only [nI_toInt, Int32.toInt_toInt64] at c23_2
      refine wa_iconst (nI 0) dX6_noSheet_26 (by decide) ?_
      refine wa_goto 32 dX6_noSheet_27 (by decide) ?_
      refine wa_iret dX6_noSheet_32 rfl ?_
      exact hF j hj rfl (by omega)
  · skip
    simp only [Int32.toInt_toInt64, z64, ltI7] at hi
    refine wa_if_neF 17 dX6_noSheet_9 (by decide) (by decide) ?_
    refine wa_bipush (-2) dX6_noSheet_12 (by decide) ?_
    refine wa_goto 32 dX6_noSheet_14 (by decide) ?_
    refine wa_iret dX6_noSheet_32 rfl ?_
    exact hB (by omega)
theorem wp_X6_isRow {d : Nat} {k : Int32} {μ : Mem} {Q : QM} (hd : 1 ≤ d) (h1 : ∀ j, j < 6 → k = nI j → Q (some (.int (nI 1))) μ) (h0 : oob k 6 → Q (some (.int (nI 0))) μ) : MW kX6_isRow d [.int k] μ Q := by
  refine MW_of (by decide) [some (.int k)] rfl (Nat.le_of_ble_eq_true rfl) ?_
  unfold oob at h0
  refine wa_iload_n dX6_isRow_0 rfl ?_
  refine wa_i2l dX6_isRow_1 ?_
  refine wa_lconst (0) dX6_isRow_2 (by decide) ?_
  refine wa_ldc2 (5) dX6_isRow_3 lcX6_90 ?_
  refine wa_callS3 (k' := kX6_in) (d' := 0) dX6_isRow_6 lmX6_60 ksX6_in (by decide) (by omega) (Nat.le_of_ble_eq_true rfl) ?_
  refine wp_X6_in (fun hi => ?_) (fun hi => ?_)
  · skip
    simp only [Int32.toInt_toInt64, z64, ltI5] at hi
    refine wa_zret dX6_isRow_9 rfl (by decide) ?_
    obtain ⟨j, hj, e⟩ := nI_ex (x := k) (n := 6) (by omega) (by omega) (by omega)
    exact h1 j hj e
  · skip
    simp only [Int32.toInt_toInt64, z64, ltI5] at hi
    refine wa_zret dX6_isRow_9 rfl (by decide) ?_
    exact h0 (by omega)
theorem k128 : (-128 : Int64).toInt = -128 ∧ (127 : Int64).toInt = 127 ∧ (-32768 : Int64).toInt = -32768 ∧ (32767 : Int64).toInt = 32767 := by decide
theorem wp_X6_fits {d : Nat} {s v : Int32} {μ : Mem} {Q : QM} (hd : 1 ≤ d) (hs : s = nI 0 ∨ s = nI 1 ∨ s = nI 2) (h1 : fitsP s.toInt v.toInt → Q (some (.int (nI 1))) μ) (h0 : ¬ fitsP s.toInt v.toInt → Q (some (.int (nI 0))) μ) : MW kX6_fits d [.int s, .int v] μ Q := by
  unfold fitsP at h1 h0
  obtain ⟨e1, e2, e3, e4⟩ := k128
  rcases hs with rfl | rfl | rfl
  · rw [nI_0z] at h1 h0
    refine MW_of (by decide) [some (.int (nI 0)), some (.int v)] rfl (Nat.le_of_ble_eq_true rfl) ?_
    refine wa_iload_n dX6_fits_0 rfl ?_
    refine wa_iconst (nI 2) dX6_fits_1 (by decide) ?_
    refine wa_ic_eqF 39 dX6_fits_2 (by decide) (by decide) ?_
    refine wa_iload_n dX6_fits_5 rfl ?_
    refine wa_i2l dX6_fits_6 ?_
    refine wa_iload_n dX6_fits_7 rfl ?_
    refine wa_if_neF 17 dX6_fits_8 (by decide) (by decide) ?_
    refine wa_ldc2 (-128) dX6_fits_11 lcX6_70 ?_
    refine wa_goto 20 dX6_fits_14 (by decide) ?_
    refine wa_iload_n dX6_fits_20 rfl ?_
    refine wa_if_neF 30 dX6_fits_21 (by decide) (by decide) ?_
    refine wa_ldc2 (127) dX6_fits_24 lcX6_74 ?_
    refine wa_goto 33 dX6_fits_27 (by decide) ?_
    refine wa_callS3 (k' := kX6_in) (d' := 0) dX6_fits_33 lmX6_60 ksX6_in (by decide) (by omega) (Nat.le_of_ble_eq_true rfl) ?_
    refine wp_X6_in (fun hi => ?_) (fun hi => ?_)
    · skip
      simp only [Int32.toInt_toInt64, e1, e2] at hi
      refine wa_if_eqF 43 dX6_fits_36 (by decide) (by decide) ?_
      refine wa_iconst (nI 1) dX6_fits_39 (by decide) ?_
      refine wa_goto 44 dX6_fits_40 (by decide) ?_
      refine wa_zret dX6_fits_44 rfl (by decide) ?_
      exact h1 (by omega)
    · skip
      simp only [Int32.toInt_toInt64, e1, e2] at hi
      refine wa_if_eqT 43 dX6_fits_36 (by decide) (by decide) ?_
      refine wa_iconst (nI 0) dX6_fits_43 (by decide) ?_
      refine wa_zret dX6_fits_44 rfl (by decide) ?_
      exact h0 (by omega)
  · rw [nI_1z] at h1 h0
    refine MW_of (by decide) [some (.int (nI 1)), some (.int v)] rfl (Nat.le_of_ble_eq_true rfl) ?_
    refine wa_iload_n dX6_fits_0 rfl ?_
    refine wa_iconst (nI 2) dX6_fits_1 (by decide) ?_
    refine wa_ic_eqF 39 dX6_fits_2 (by decide) (by decide) ?_
    refine wa_iload_n dX6_fits_5 rfl ?_
    refine wa_i2l dX6_fits_6 ?_
    refine wa_iload_n dX6_fits_7 rfl ?_
    refine wa_if_neT 17 dX6_fits_8 (by decide) (by decide) ?_
    refine wa_ldc2 (-32768) dX6_fits_17 lcX6_72 ?_
    refine wa_iload_n dX6_fits_20 rfl ?_
    refine wa_if_neT 30 dX6_fits_21 (by decide) (by decide) ?_
    refine wa_ldc2 (32767) dX6_fits_30 lcX6_76 ?_
    refine wa_callS3 (k' := kX6_in) (d' := 0) dX6_fits_33 lmX6_60 ksX6_in (by decide) (by omega) (Nat.le_of_ble_eq_true rfl) ?_
    refine wp_X6_in (fun hi => ?_) (fun hi => ?_)
    · skip
      simp only [Int32.toInt_toInt64, e3, e4] at hi
      refine wa_if_eqF 43 dX6_fits_36 (by decide) (by decide) ?_
      refine wa_iconst (nI 1) dX6_fits_39 (by decide) ?_
      refine wa_goto 44 dX6_fits_40 (by decide) ?_
      refine wa_zret dX6_fits_44 rfl (by decide) ?_
      exact h1 (by omega)
    · skip
      simp only [Int32.toInt_toInt64, e3, e4] at hi
      refine wa_if_eqT 43 dX6_fits_36 (by decide) (by decide) ?_
      refine wa_iconst (nI 0) dX6_fits_43 (by decide) ?_
      refine wa_zret dX6_fits_44 rfl (by decide) ?_
      exact h0 (by omega)
  · rw [nI_2z] at h1 h0
    refine MW_of (by decide) [some (.int (nI 2)), some (.int v)] rfl (Nat.le_of_ble_eq_true rfl) ?_
    refine wa_iload_n dX6_fits_0 rfl ?_
    refine wa_iconst (nI 2) dX6_fits_1 (by decide) ?_
    refine wa_ic_eqT 39 dX6_fits_2 (by decide) (by decide) ?_
    refine wa_iconst (nI 1) dX6_fits_39 (by decide) ?_
    refine wa_goto 44 dX6_fits_40 (by decide) ?_
    refine wa_zret dX6_fits_44 rfl (by decide) ?_
    exact h1 (by omega)
theorem wp_X6_those {d j n : Nat} {s : Int32} {μ : Mem} {Q : QM} (hj : j < 9) (hn : μ.1 76 j = nI n) (hn64 : n ≤ 64) (hQ : Q (some (.int (nI (cntN (mF μ j) s n)))) μ) : MW kX6_those d [.ref 73, .int (nI j), .int s] μ Q := by
  refine MW_of (by decide) [some (.ref 73), some (.int (nI j)), some (.int s), none, none] rfl (Nat.le_of_ble_eq_true rfl) ?_
  have loop : ∀ m i, i + m = n → WA kX6_those d Q 5 [some (.ref 73), some (.int (nI j)), some (.int s), some (.int (nI (cntN (mF μ j) s i))), some (.int (nI i))] [] μ := by
    intro m
    induction m with
    | zero =>
      intro i hi
      obtain rfl : i = n := by omega
      refine wa_iload dX6_those_5 rfl ?_
      refine wa_aload_n dX6_those_7 rfl ?_
      refine wa_getR dX6_those_8 fgX6_17 (by first | assumption | rfl) (by rfl) ?_
      refine wa_iload_n dX6_those_11 rfl ?_
      refine wa_iald _ dX6_those_12 (by first | assumption | rfl) (by first | with_reducible rfl | with_reducible assumption | with_reducible exact ix_ma _ _ _ | with_reducible exact ix_maa _ _ _ _ | with_reducible exact ix_a _ _ | with_reducible exact ix_mama _ _ _ _ _) (by omega) ?_
      refine wa_ic_geT 46 dX6_those_13 (by decide) (by rw [hn]; exact le_nI (by omega) (by omega)) ?_
      refine wa_iload_n dX6_those_46 rfl ?_
      refine wa_iret dX6_those_47 rfl ?_
      exact hQ
    | succ m ih =>
      intro i hi
      have e := ih (i + 1) (by omega)
      refine wa_iload dX6_those_5 rfl ?_
      refine wa_aload_n dX6_those_7 rfl ?_
      refine wa_getR dX6_those_8 fgX6_17 (by first | assumption | rfl) (by rfl) ?_
      refine wa_iload_n dX6_those_11 rfl ?_
      refine wa_iald _ dX6_those_12 (by first | assumption | rfl) (by first | with_reducible rfl | with_reducible assumption | with_reducible exact ix_ma _ _ _ | with_reducible exact ix_maa _ _ _ _ | with_reducible exact ix_a _ _ | with_reducible exact ix_mama _ _ _ _ _) (by omega) ?_
      refine wa_ic_geF 46 dX6_those_13 (by decide) (by rw [hn]; exact nle_nI (by omega) (by omega)) ?_
      refine wa_iload_n dX6_those_16 rfl ?_
      refine wa_aload_n dX6_those_17 rfl ?_
      refine wa_getR dX6_those_18 fgX6_20 (by first | assumption | rfl) (by rfl) ?_
      refine wa_bipush (nI 64) dX6_those_21 (by decide) ?_
      refine wa_iload_n dX6_those_23 rfl ?_
      refine wa_imul dX6_those_24 ?_
      refine wa_iload dX6_those_25 rfl ?_
      refine wa_iadd dX6_those_27 ?_
      refine wa_iald _ dX6_those_28 (by first | assumption | rfl) (by first | with_reducible rfl | with_reducible assumption | with_reducible exact ix_ma _ _ _ | with_reducible exact ix_maa _ _ _ _ | with_reducible exact ix_a _ _ | with_reducible exact ix_mama _ _ _ _ _) (by omega) ?_
      refine wa_iload_n dX6_those_29 rfl ?_
      refine wa_ic_ne 37 dX6_those_30 (by decide) (fun c30_1 => ?_) (fun c30_1 => ?_)
      · try simp (disch := omega) only [nI_toInt, Int32.toInt_toInt64] at c30_1
        refine wa_iconst (nI 0) dX6_those_37 (by decide) ?_
        refine wa_iadd dX6_those_38 ?_
        refine wa_istore_n dX6_those_39 (by decide) ?_
        refine wa_iinc (nI 1) dX6_those_40 rfl (by decide) (by decide) ?_
        refine wa_goto 5 dX6_those_43 (by decide) ?_
        rw [cntN, if_neg (by unfold mF; assumption)] at e; simp only [nI_add]; exact e
      · try simp (disch := omega) only [nI_toInt, Int32.toInt_toInt64] at c30_1
        refine wa_iconst (nI 1) dX6_those_33 (by decide) ?_
        refine wa_goto 38 dX6_those_34 (by decide) ?_
        refine wa_iadd dX6_those_38 ?_
        refine wa_istore_n dX6_those_39 (by decide) ?_
        refine wa_iinc (nI 1) dX6_those_40 rfl (by decide) (by decide) ?_
        refine wa_goto 5 dX6_those_43 (by decide) ?_
        rw [cntN, if_pos (by unfold mF; omega)] at e; simp only [nI_add]; exact e
  refine wa_iconst (nI 0) dX6_those_0 (by decide) ?_
  refine wa_istore_n dX6_those_1 (by decide) ?_
  refine wa_iconst (nI 0) dX6_those_2 (by decide) ?_
  refine wa_istore dX6_those_3 (by decide) ?_
  exact loop n 0 (by omega)
theorem wp_X6_gaps {d j n : Nat} {g : Int32} {μ : Mem} {Q : QM} (hj : j < 9) (hn : μ.1 76 j = nI n) (hn64 : n ≤ 64) (h0 : g.toInt = 0 → Q (some (.int (nI (gapN (mF μ j) n)))) μ) (h1 : ¬ g.toInt = 0 → Q (some (.int (nI (mostN (mF μ j) n)))) μ) : MW kX6_gaps d [.ref 73, .int (nI j), .int g] μ Q := by
  refine MW_of (by decide) [some (.ref 73), some (.int (nI j)), some (.int g), none, none, none, none] rfl (Nat.le_of_ble_eq_true rfl) ?_
  have loop : ∀ m i, i + m = n → WA kX6_gaps d Q 11 [some (.ref 73), some (.int (nI j)), some (.int g), some (.int (nI (gapN (mF μ j) i))), some (.int (nI (mostN (mF μ j) i))), some (.int (nI (runN (mF μ j) i))), some (.int (nI i))] [] μ := by
    intro m
    induction m with
    | zero =>
      intro i hi
      obtain rfl : i = n := by omega
      refine wa_iload dX6_gaps_11 rfl ?_
      refine wa_aload_n dX6_gaps_13 rfl ?_
      refine wa_getR dX6_gaps_14 fgX6_17 (by first | assumption | rfl) (by rfl) ?_
      refine wa_iload_n dX6_gaps_17 rfl ?_
      refine wa_iald _ dX6_gaps_18 (by first | assumption | rfl) (by first | with_reducible rfl | with_reducible assumption | with_reducible exact ix_ma _ _ _ | with_reducible exact ix_maa _ _ _ _ | with_reducible exact ix_a _ _ | with_reducible exact ix_mama _ _ _ _ _) (by omega) ?_
      refine wa_ic_geT 83 dX6_gaps_19 (by decide) (by rw [hn]; exact le_nI (by omega) (by omega)) ?_
      refine wa_iload_n dX6_gaps_83 rfl ?_
      refine wa_if_eq 92 dX6_gaps_84 (by decide) (fun c84_1 => ?_) (fun c84_1 => ?_)
      · try simp (disch := omega) only [nI_toInt, Int32.toInt_toInt64] at c84_1
        refine wa_iload_n dX6_gaps_92 rfl ?_
        refine wa_iret dX6_gaps_93 rfl ?_
        exact h0 (by omega)
      · try simp (disch := omega) only [nI_toInt, Int32.toInt_toInt64] at c84_1
        refine wa_iload dX6_gaps_87 rfl ?_
        refine wa_goto 93 dX6_gaps_89 (by decide) ?_
        refine wa_iret dX6_gaps_93 rfl ?_
        exact h1 (by assumption)
    | succ m ih =>
      intro i hi
      have e := ih (i + 1) (by omega)
      have b1 := runN_le (mF μ j) i
      have b2 := mostN_le (mF μ j) i
      have b3 := runN_le (mF μ j) (i + 1)
      rw [gapN, mostN] at e
      have K : WA kX6_gaps d Q 47 [some (.ref 73), some (.int (nI j)), some (.int g), some (.int (nI (gapN (mF μ j) i))), some (.int (nI (mostN (mF μ j) i))), some (.int (nI (runN (mF μ j) (i + 1)))), some (.int (nI i))] [] μ := by
        have K2 : ∀ z, z = gapN (mF μ j) i + (if runN (mF μ j) (i + 1) = 1 then 1 else 0) → WA kX6_gaps d Q 61 [some (.ref 73), some (.int (nI j)), some (.int g), some (.int (nI z)), some (.int (nI (mostN (mF μ j) i))), some (.int (nI (runN (mF μ j) (i + 1)))), some (.int (nI i))] [] μ := by
          intro z hz
          rw [← hz] at e
          refine wa_iload dX6_gaps_61 rfl ?_
          refine wa_iload dX6_gaps_63 rfl ?_
          refine wa_ic_le 73 dX6_gaps_65 (by decide) (fun c65_1 => ?_) (fun c65_1 => ?_)
          · try simp (disch := omega) only [nI_toInt, Int32.toInt_toInt64] at c65_1
            refine wa_iload dX6_gaps_73 rfl ?_
            refine wa_istore dX6_gaps_75 (by decide) ?_
            refine wa_iinc (nI 1) dX6_gaps_77 rfl (by decide) (by decide) ?_
            refine wa_goto 11 dX6_gaps_80 (by decide) ?_
            rw [show max (mostN (mF μ j) i) (runN (mF μ j) (i + 1)) = mostN (mF μ j) i by omega] at e; simp only [nI_add]; exact e
          · try simp (disch := omega) only [nI_toInt, Int32.toInt_toInt64] at c65_1
            refine wa_iload dX6_gaps_68 rfl ?_
            refine wa_goto 75 dX6_gaps_70 (by decide) ?_
            refine wa_istore dX6_gaps_75 (by decide) ?_
            refine wa_iinc (nI 1) dX6_gaps_77 rfl (by decide) (by decide) ?_
            refine wa_goto 11 dX6_gaps_80 (by decide) ?_
            rw [show max (mostN (mF μ j) i) (runN (mF μ j) (i + 1)) = runN (mF μ j) (i + 1) by omega] at e; simp only [nI_add]; exact e
        refine wa_iload_n dX6_gaps_47 rfl ?_
        refine wa_iload dX6_gaps_48 rfl ?_
        refine wa_iconst (nI 1) dX6_gaps_50 (by decide) ?_
        refine wa_ic_ne 58 dX6_gaps_51 (by decide) (fun c51_1 => ?_) (fun c51_1 => ?_)
        · try simp (disch := omega) only [nI_toInt, Int32.toInt_toInt64] at c51_1
          refine wa_iconst (nI 0) dX6_gaps_58 (by decide) ?_
          refine wa_iadd dX6_gaps_59 ?_
          refine wa_istore_n dX6_gaps_60 (by decide) ?_
          simp only [nI_add]; exact K2 _ (by rw [if_neg (by omega)])
        · try simp (disch := omega) only [nI_toInt, Int32.toInt_toInt64] at c51_1
          refine wa_iconst (nI 1) dX6_gaps_54 (by decide) ?_
          refine wa_goto 59 dX6_gaps_55 (by decide) ?_
          refine wa_iadd dX6_gaps_59 ?_
          refine wa_istore_n dX6_gaps_60 (by decide) ?_
          simp only [nI_add]; exact K2 _ (by rw [if_pos (by omega)])
      refine wa_iload dX6_gaps_11 rfl ?_
      refine wa_aload_n dX6_gaps_13 rfl ?_
      refine wa_getR dX6_gaps_14 fgX6_17 (by first | assumption | rfl) (by rfl) ?_
      refine wa_iload_n dX6_gaps_17 rfl ?_
      refine wa_iald _ dX6_gaps_18 (by first | assumption | rfl) (by first | with_reducible rfl | with_reducible assumption | with_reducible exact ix_ma _ _ _ | with_reducible exact ix_maa _ _ _ _ | with_reducible exact ix_a _ _ | with_reducible exact ix_mama _ _ _ _ _) (by omega) ?_
      refine wa_ic_geF 83 dX6_gaps_19 (by decide) (by rw [hn]; exact nle_nI (by omega) (by omega)) ?_
      refine wa_aload_n dX6_gaps_22 rfl ?_
      refine wa_getR dX6_gaps_23 fgX6_20 (by first | assumption | rfl) (by rfl) ?_
      refine wa_bipush (nI 64) dX6_gaps_26 (by decide) ?_
      refine wa_iload_n dX6_gaps_28 rfl ?_
      refine wa_imul dX6_gaps_29 ?_
      refine wa_iload dX6_gaps_30 rfl ?_
      refine wa_iadd dX6_gaps_32 ?_
      refine wa_iald _ dX6_gaps_33 (by first | assumption | rfl) (by first | with_reducible rfl | with_reducible assumption | with_reducible exact ix_ma _ _ _ | with_reducible exact ix_maa _ _ _ _ | with_reducible exact ix_a _ _ | with_reducible exact ix_mama _ _ _ _ _) (by omega) ?_
      refine wa_if_ne 44 dX6_gaps_34 (by decide) (fun c34_1 => ?_) (fun c34_1 => ?_)
      · try simp (disch := omega) only [nI_toInt, Int32.toInt_toInt64] at c34_1
        refine wa_iconst (nI 0) dX6_gaps_44 (by decide) ?_
        refine wa_istore dX6_gaps_45 (by decide) ?_
        rw [runN, if_neg (by unfold mF; assumption)] at K; exact K
      · try simp (disch := omega) only [nI_toInt, Int32.toInt_toInt64] at c34_1
        refine wa_iload dX6_gaps_37 rfl ?_
        refine wa_iconst (nI 1) dX6_gaps_39 (by decide) ?_
        refine wa_iadd dX6_gaps_40 ?_
        refine wa_goto 45 dX6_gaps_41 (by decide) ?_
        refine wa_istore dX6_gaps_45 (by decide) ?_
        rw [runN, if_pos (by unfold mF; omega)] at K; simp only [nI_add]; exact K
  refine wa_iconst (nI 0) dX6_gaps_0 (by decide) ?_
  refine wa_istore_n dX6_gaps_1 (by decide) ?_
  refine wa_iconst (nI 0) dX6_gaps_2 (by decide) ?_
  refine wa_istore dX6_gaps_3 (by decide) ?_
  refine wa_iconst (nI 0) dX6_gaps_5 (by decide) ?_
  refine wa_istore dX6_gaps_6 (by decide) ?_
  refine wa_iconst (nI 0) dX6_gaps_8 (by decide) ?_
  refine wa_istore dX6_gaps_9 (by decide) ?_
  exact loop n 0 (by omega)
theorem wp_X6_about {d j n w : Nat} {μ : Mem} {Q : QM} (hd : 1 ≤ d) (hj : j < 8) (hth : ¬ (μ.1 74 j).toInt = 0) (hn : μ.1 76 j = nI n) (hn64 : n ≤ 64) (hw : w < 6) (hQ : Q (some (.int (fctN (mF μ j) (μ.1 75 j) n w))) μ) : MW kX6_about d [.ref 73, .int (nI j), .int (nI w)] μ Q := by
  refine MW_of (by decide) [some (.ref 73), some (.int (nI j)), some (.int (nI w))] rfl (Nat.le_of_ble_eq_true rfl) ?_
  have ej : (nI j).toInt = j := nI_toInt (by omega)
  have ew : (nI w).toInt = w := nI_toInt (by omega)
  have K : WA kX6_about d Q 39 [some (.ref 73), some (.int (nI j)), some (.int (nI w))] [] μ := by
    have : w = 0 ∨ w = 1 ∨ w = 2 ∨ w = 3 ∨ w = 4 ∨ w = 5 := by omega
    rcases this with rfl | rfl | rfl | rfl | rfl | rfl
    · refine wa_iload_n dX6_about_39 rfl ?_
      refine wa_tsI 76 0 dX6_about_40 (by decide) (by decide) (by decide) rfl (by decide) ?_
      refine wa_aload_n dX6_about_76 rfl ?_
      refine wa_getR dX6_about_77 fgX6_13 (by first | assumption | rfl) (by rfl) ?_
      refine wa_iload_n dX6_about_80 rfl ?_
      refine wa_iald _ dX6_about_81 (by first | assumption | rfl) (by first | with_reducible rfl | with_reducible assumption | with_reducible exact ix_ma _ _ _ | with_reducible exact ix_maa _ _ _ _ | with_reducible exact ix_a _ _ | with_reducible exact ix_mama _ _ _ _ _) (by omega) ?_
      refine wa_iret dX6_about_82 rfl ?_
      exact hQ
    · refine wa_iload_n dX6_about_39 rfl ?_
      refine wa_tsI 83 1 dX6_about_40 (by decide) (by decide) (by decide) rfl (by decide) ?_
      refine wa_aload_n dX6_about_83 rfl ?_
      refine wa_getR dX6_about_84 fgX6_17 (by first | assumption | rfl) (by rfl) ?_
      refine wa_iload_n dX6_about_87 rfl ?_
      refine wa_iald _ dX6_about_88 (by first | assumption | rfl) (by first | with_reducible rfl | with_reducible assumption | with_reducible exact ix_ma _ _ _ | with_reducible exact ix_maa _ _ _ _ | with_reducible exact ix_a _ _ | with_reducible exact ix_mama _ _ _ _ _) (by omega) ?_
      refine wa_iret dX6_about_89 rfl ?_
      rw [hn]; exact hQ
    · refine wa_iload_n dX6_about_39 rfl ?_
      refine wa_tsI 90 2 dX6_about_40 (by decide) (by decide) (by decide) rfl (by decide) ?_
      refine wa_aload_n dX6_about_90 rfl ?_
      refine wa_iload_n dX6_about_91 rfl ?_
      refine wa_iconst (nI 0) dX6_about_92 (by decide) ?_
      refine wa_callV2 (k' := kX6_gaps) (d' := 0) dX6_about_93 lmX6_92 kvX6_gaps (by first | assumption | rfl) (by rfl) (by decide) (by omega) (Nat.le_of_ble_eq_true rfl) ?_
      refine wp_X6_gaps (n := n) (by omega) hn hn64 (fun _ => ?_) (fun q => absurd nI_0z q)
      refine wa_iret dX6_about_96 rfl ?_
      exact hQ
    · refine wa_iload_n dX6_about_39 rfl ?_
      refine wa_tsI 97 3 dX6_about_40 (by decide) (by decide) (by decide) rfl (by decide) ?_
      refine wa_aload_n dX6_about_97 rfl ?_
      refine wa_iload_n dX6_about_98 rfl ?_
      refine wa_iconst (nI 1) dX6_about_99 (by decide) ?_
      refine wa_callV2 (k' := kX6_gaps) (d' := 0) dX6_about_100 lmX6_92 kvX6_gaps (by first | assumption | rfl) (by rfl) (by decide) (by omega) (Nat.le_of_ble_eq_true rfl) ?_
      refine wp_X6_gaps (n := n) (by omega) hn hn64 (fun q => absurd q (by decide)) (fun _ => ?_)
      refine wa_iret dX6_about_103 rfl ?_
      exact hQ
    · refine wa_iload_n dX6_about_39 rfl ?_
      refine wa_tsI 104 4 dX6_about_40 (by decide) (by decide) (by decide) rfl (by decide) ?_
      refine wa_aload_n dX6_about_104 rfl ?_
      refine wa_iload_n dX6_about_105 rfl ?_
      refine wa_iconst (nI 0) dX6_about_106 (by decide) ?_
      refine wa_callV2 (k' := kX6_those) (d' := 0) dX6_about_107 lmX6_96 kvX6_those (by first | assumption | rfl) (by rfl) (by decide) (by omega) (Nat.le_of_ble_eq_true rfl) ?_
      refine wp_X6_those (by omega) (by assumption) (by assumption) ?_
      refine wa_iret dX6_about_110 rfl ?_
      exact hQ
    · refine wa_iload_n dX6_about_39 rfl ?_
      refine wa_tsO 111 dX6_about_40 (by decide) (by decide) ?_
      refine wa_aload_n dX6_about_111 rfl ?_
      refine wa_iload_n dX6_about_112 rfl ?_
      refine wa_iconst (nI 2) dX6_about_113 (by decide) ?_
      refine wa_callV2 (k' := kX6_those) (d' := 0) dX6_about_114 lmX6_96 kvX6_those (by first | assumption | rfl) (by rfl) (by decide) (by omega) (Nat.le_of_ble_eq_true rfl) ?_
      refine wp_X6_those (by omega) (by assumption) (by assumption) ?_
      refine wa_iret dX6_about_117 rfl ?_
      exact hQ
  refine wa_iload_n dX6_about_0 rfl ?_
  refine wa_i2l dX6_about_1 ?_
  refine wa_lconst (0) dX6_about_2 (by decide) ?_
  refine wa_ldc2 (7) dX6_about_3 lcX6_58 ?_
  refine wa_callS3 (k' := kX6_in) (d' := 0) dX6_about_6 lmX6_60 ksX6_in (by decide) (by omega) (Nat.le_of_ble_eq_true rfl) ?_
  refine wp_X6_in (fun hi => ?_) (fun hi => ?_)
  · skip
    refine wa_if_eqF 24 dX6_about_9 (by decide) (by decide) ?_
    refine wa_iload_n dX6_about_12 rfl ?_
    refine wa_i2l dX6_about_13 ?_
    refine wa_lconst (0) dX6_about_14 (by decide) ?_
    refine wa_ldc2 (5) dX6_about_15 lcX6_90 ?_
    refine wa_callS3 (k' := kX6_in) (d' := 0) dX6_about_18 lmX6_60 ksX6_in (by decide) (by omega) (Nat.le_of_ble_eq_true rfl) ?_
    refine wp_X6_in (fun hi2 => ?_) (fun hi2 => ?_)
    · skip
      refine wa_if_neT 27 dX6_about_21 (by decide) (by decide) ?_
      refine wa_aload_n dX6_about_27 rfl ?_
      refine wa_getR dX6_about_28 fgX6_7 (by first | assumption | rfl) (by rfl) ?_
      refine wa_iload_n dX6_about_31 rfl ?_
      refine wa_zald _ dX6_about_32 (by first | assumption | rfl) (by first | with_reducible rfl | with_reducible assumption | with_reducible exact ix_ma _ _ _ | with_reducible exact ix_maa _ _ _ _ | with_reducible exact ix_a _ _ | with_reducible exact ix_mama _ _ _ _ _) (by omega) ?_
      refine wa_if_neT 39 dX6_about_33 (by decide) (hth) ?_
      exact K
    · simp only [Int32.toInt_toInt64, z64, ltI5] at hi2; omega
  · simp only [Int32.toInt_toInt64, z64, ltI7] at hi; omega
theorem wp_X6_isPlace {d : Nat} {x y : Int32} {μ : Mem} {Q : QM} (hd : 1 ≤ d) (h1 : plc x.toInt y.toInt → Q (some (.int (nI 1))) μ) (h0 : ¬ plc x.toInt y.toInt → Q (some (.int (nI 0))) μ) : MW kX6_isPlace d [.int x, .int y] μ Q := by
  refine MW_of (by decide) [some (.int x), some (.int y)] rfl (Nat.le_of_ble_eq_true rfl) ?_
  unfold plc at h0 h1
  have ea := k1e6.1
  have eb : (-1000000 : Int64).toInt = -1000000 := by decide
  refine wa_iload_n dX6_isPlace_0 rfl ?_
  refine wa_i2l dX6_isPlace_1 ?_
  refine wa_ldc2 (-1000000) dX6_isPlace_2 lcX6_123 ?_
  refine wa_ldc2 (1000000) dX6_isPlace_5 lcX6_125 ?_
  refine wa_callS3 (k' := kX6_in) (d' := 0) dX6_isPlace_8 lmX6_60 ksX6_in (by decide) (by omega) (Nat.le_of_ble_eq_true rfl) ?_
  refine wp_X6_in (fun hw => ?_) (fun hw => ?_)
  · skip
    rw [ea, eb, Int32.toInt_toInt64] at hw
    refine wa_if_eqF 32 dX6_isPlace_11 (by decide) (by decide) ?_
    refine wa_iload_n dX6_isPlace_14 rfl ?_
    refine wa_i2l dX6_isPlace_15 ?_
    refine wa_ldc2 (-1000000) dX6_isPlace_16 lcX6_123 ?_
    refine wa_ldc2 (1000000) dX6_isPlace_19 lcX6_125 ?_
    refine wa_callS3 (k' := kX6_in) (d' := 0) dX6_isPlace_22 lmX6_60 ksX6_in (by decide) (by omega) (Nat.le_of_ble_eq_true rfl) ?_
    refine wp_X6_in (fun hv => ?_) (fun hv => ?_)
    · skip
      rw [ea, eb, Int32.toInt_toInt64] at hv
      refine wa_if_eqF 32 dX6_isPlace_25 (by decide) (by decide) ?_
      refine wa_iconst (nI 1) dX6_isPlace_28 (by decide) ?_
      refine wa_goto 33 dX6_isPlace_29 (by decide) ?_
      refine wa_zret dX6_isPlace_33 rfl (by decide) ?_
      exact h1 ⟨hw, hv⟩
    · skip
      rw [ea, eb, Int32.toInt_toInt64] at hv
      refine wa_if_eqT 32 dX6_isPlace_25 (by decide) (by decide) ?_
      refine wa_iconst (nI 0) dX6_isPlace_32 (by decide) ?_
      refine wa_zret dX6_isPlace_33 rfl (by decide) ?_
      exact h0 (fun q => by omega)
  · skip
    rw [ea, eb, Int32.toInt_toInt64] at hw
    refine wa_if_eqT 32 dX6_isPlace_11 (by decide) (by decide) ?_
    refine wa_iconst (nI 0) dX6_isPlace_32 (by decide) ?_
    refine wa_zret dX6_isPlace_33 rfl (by decide) ?_
    exact h0 (fun q => by omega)
theorem wp_X6_isPower {d n : Nat} {μ : Mem} {Q : QM} (hn64 : n ≤ 64) (h1 : P2 n → Q (some (.int (nI 1))) μ) (h0 : ¬ P2 n → Q (some (.int (nI 0))) μ) : MW kX6_isPower d [.int (nI n)] μ Q := by
  refine MW_of (by decide) [some (.int (nI n)), none] rfl (Nat.le_of_ble_eq_true rfl) ?_
  have hpp : ∀ b, b ≤ 7 → 2 ^ b ≤ 128 := by decide
  have loop : ∀ m q, q + m = 7 → (q = 0 ∨ 2 ^ (q - 1) < n) → WA kX6_isPower d Q 2 [some (.int (nI n)), some (.int (nI (2 ^ q)))] [] μ := by
    intro m
    induction m with
    | zero =>
      intro q hq hl
      obtain rfl : q = 7 := by omega
      simp at hl
      omega
    | succ m ih =>
      intro q hq hl
      have hq7 := hpp q (by omega)
      by_cases hc : n ≤ 2 ^ q
      · refine wa_iload_n dX6_isPower_2 rfl ?_
        refine wa_iload_n dX6_isPower_3 rfl ?_
        refine wa_ic_geT 14 dX6_isPower_4 (by decide) (le_nI hc (by omega)) ?_
        refine wa_iload_n dX6_isPower_14 rfl ?_
        refine wa_if_le 27 dX6_isPower_15 (by decide) (fun c15_1 => ?_) (fun c15_1 => ?_)
        · try simp (disch := omega) only [nI_toInt, Int32.toInt_toInt64] at c15_1
          refine wa_iconst (nI 0) dX6_isPower_27 (by decide) ?_
          refine wa_zret dX6_isPower_28 rfl (by decide) ?_
          refine h0 (fun z => ?_)
          obtain ⟨p, hp, rfl⟩ := z
          have := Nat.two_pow_pos p
          omega
        · try simp (disch := omega) only [nI_toInt, Int32.toInt_toInt64] at c15_1
          refine wa_iload_n dX6_isPower_18 rfl ?_
          refine wa_iload_n dX6_isPower_19 rfl ?_
          refine wa_ic_ne 27 dX6_isPower_20 (by decide) (fun c20_2 => ?_) (fun c20_2 => ?_)
          · try simp (disch := omega) only [nI_toInt, Int32.toInt_toInt64] at c20_2
            refine wa_iconst (nI 0) dX6_isPower_27 (by decide) ?_
            refine wa_zret dX6_isPower_28 rfl (by decide) ?_
            refine h0 (fun z => ?_)
            obtain ⟨p, hp, rfl⟩ := z
            have h2 : p ≤ q := (Nat.pow_le_pow_iff_right (by omega)).mp hc
            rcases hl with h | h
            · have hp0 : p = q := by omega
              subst hp0
              omega
            · have h3 : q - 1 < p := (Nat.pow_lt_pow_iff_right (by omega)).mp h
              have hp0 : p = q := by omega
              subst hp0
              omega
          · try simp (disch := omega) only [nI_toInt, Int32.toInt_toInt64] at c20_2
            refine wa_iconst (nI 1) dX6_isPower_23 (by decide) ?_
            refine wa_goto 28 dX6_isPower_24 (by decide) ?_
            refine wa_zret dX6_isPower_28 rfl (by decide) ?_
            exact h1 ⟨q, by omega, by omega⟩
      · refine wa_iload_n dX6_isPower_2 rfl ?_
        refine wa_iload_n dX6_isPower_3 rfl ?_
        refine wa_ic_geF 14 dX6_isPower_4 (by decide) (nle_nI (by omega) (by omega)) ?_
        refine wa_iconst (nI 2) dX6_isPower_7 (by decide) ?_
        refine wa_iload_n dX6_isPower_8 rfl ?_
        refine wa_imul dX6_isPower_9 ?_
        refine wa_istore_n dX6_isPower_10 (by decide) ?_
        refine wa_goto 2 dX6_isPower_11 (by decide) ?_
        have e := ih (q + 1) (by omega) (Or.inr (by simpa using Nat.lt_of_not_le hc))
        rw [pk_mul, show 2 * 2 ^ q = 2 ^ (q + 1) by rw [Nat.pow_succ]; omega]
        exact e
  refine wa_iconst (nI 1) dX6_isPower_0 (by decide) ?_
  refine wa_istore_n dX6_isPower_1 (by decide) ?_
  exact loop 7 0 (by omega) (Or.inl rfl)
