/-! SHEETS of the class -/
theorem isS_mod {t : Nat} (h : isS t) : t % 4 = 3 ∧ 7 ≤ t ∧ t ≤ 39 := by
  obtain ⟨k, h1, h2⟩ := h
  omega
theorem isR_mod {t : Nat} (h : isR t) : t % 5 = 3 ∧ 43 ≤ t ∧ t ≤ 68 := by
  obtain ⟨k, h1, h2⟩ := h
  omega
theorem le_nI {a b : Nat} (h : a ≤ b) (hb : b < 2 ^ 31) : (nI a).toInt ≤ (nI b).toInt := by
  rw [nI_toInt hb, nI_toInt (by omega)]; omega
theorem nle_nI {a b : Nat} (h : b < a) (ha : a < 2 ^ 31) : ¬ (nI a).toInt ≤ (nI b).toInt := by
  rw [nI_toInt ha, nI_toInt (by omega)]; omega
theorem lt_nI {a b : Nat} (h : a < b) (hb : b < 2 ^ 31) : (nI a).toInt < (nI b).toInt := by
  rw [nI_toInt hb, nI_toInt (by omega)]; omega
theorem nlt_nI {a b : Nat} (h : b ≤ a) (ha : a < 2 ^ 31) : ¬ (nI a).toInt < (nI b).toInt := by
  rw [nI_toInt ha, nI_toInt (by omega)]; omega
/-- an int within 0 .. n - 1 is nI of a natural -/
theorem nI_ex {x : Int32} {n : Nat} (h0 : 0 ≤ x.toInt) (h1 : x.toInt < n) (hn : n < 2 ^ 31) : ∃ j, j < n ∧ x = nI j := by
  refine ⟨x.toInt.toNat, by omega, ?_⟩
  apply Int32.toInt_inj.mp
  rw [nI_toInt (by omega)]
  omega
theorem nI_0z : (nI 0).toInt = 0 := by decide
theorem nI_1z : (nI 1).toInt = 1 := by decide
theorem nI_2z : (nI 2).toInt = 2 := by decide
theorem wp_X3_begin {d t : Nat} {so n : Int32} {μ : Mem} {Q : QM} (ht : isS t) (hd : 1 ≤ d) (hQ : Q none (bI (bI (sI (sI (sI μ t 0 (nI 1)) t 1 so) t 2 n) (t + 1) (fillF (μ.1 (t + 1)) (nI 0) 64)) (t + 2) (fillF (μ.1 (t + 2)) (nI 1) 64))) : MW kX3_begin d [.ref t, .int so, .int n] μ Q := by
  obtain ⟨hs0t, hs1t, hs2t, hs3t⟩ := isS_sh ht
  have hmt := isS_mod ht
  refine MW_of (by decide) [some (.ref t), some (.int so), some (.int n)] rfl (Nat.le_of_ble_eq_true rfl) ?_
  refine wa_aload_n dX3_begin_0 rfl ?_
  refine wa_iconst (nI 1) dX3_begin_1 (by decide) ?_
  refine wa_putZ dX3_begin_2 fgX3_22 fw3_0 (by first | assumption | rfl) (by rfl) (Or.inr rfl) ?_
  refine wa_aload_n dX3_begin_5 rfl ?_
  refine wa_iload_n dX3_begin_6 rfl ?_
  refine wa_putI dX3_begin_7 fgX3_26 fw3_1 (by first | assumption | rfl) (by rfl) ?_
  refine wa_aload_n dX3_begin_10 rfl ?_
  refine wa_iload_n dX3_begin_11 rfl ?_
  refine wa_putI dX3_begin_12 fgX3_30 fw3_2 (by first | assumption | rfl) (by rfl) ?_
  refine wa_aload_n dX3_begin_15 rfl ?_
  refine wa_getR dX3_begin_16 fgX3_9 (by first | assumption | rfl) (by rfl) ?_
  refine wa_iconst (nI 0) dX3_begin_19 (by decide) ?_
  refine wa_callS2 (k' := kJ7_fill_53178) (d' := _) dX3_begin_20 lmX3_33 ksJ7_fill_53178 (by decide) (by omega) (Nat.le_of_ble_eq_true rfl) ?_
  refine wp_fill (by assumption) ?_
  refine wa_aload_n dX3_begin_23 rfl ?_
  refine wa_getR dX3_begin_24 fgX3_15 (by first | assumption | rfl) (by rfl) ?_
  refine wa_iconst (nI 1) dX3_begin_27 (by decide) ?_
  refine wa_callS2 (k' := kJ7_fill_53178) (d' := _) dX3_begin_28 lmX3_33 ksJ7_fill_53178 (by decide) (by omega) (Nat.le_of_ble_eq_true rfl) ?_
  refine wp_fill (by assumption) ?_
  refine wa_vret dX3_begin_31 rfl ?_
  simp (disch := omega) only [sI_off, bI_off]; exact hQ
theorem wp_X3_isThere {d t : Nat} {μ : Mem} {Q : QM} (ht : isS t) (hb : μ.1 t 0 = nI 0 ∨ μ.1 t 0 = nI 1) (h1 : μ.1 t 0 = nI 1 → Q (some (.int (nI 1))) μ) (h0 : μ.1 t 0 = nI 0 → Q (some (.int (nI 0))) μ) : MW kX3_isThere d [.ref t] μ Q := by
  obtain ⟨hs0t, hs1t, hs2t, hs3t⟩ := isS_sh ht
  have hmt := isS_mod ht
  refine MW_of (by decide) [some (.ref t)] rfl (Nat.le_of_ble_eq_true rfl) ?_
  refine wa_aload_n dX3_isThere_0 rfl ?_
  refine wa_getI dX3_isThere_1 fgX3_22 (by first | assumption | rfl) (by rfl) ?_
  refine wa_zret dX3_isThere_4 rfl (by rcases hb with h | h <;> rw [h] <;> decide) ?_
  rcases hb with h | h
  · rw [h]; exact h0 h
  · rw [h]; exact h1 h
theorem wp_X3_size {d t : Nat} {μ : Mem} {Q : QM} (ht : isS t) (hQ : Q (some (.int (μ.1 t 2))) μ) : MW kX3_size d [.ref t] μ Q := by
  obtain ⟨hs0t, hs1t, hs2t, hs3t⟩ := isS_sh ht
  have hmt := isS_mod ht
  refine MW_of (by decide) [some (.ref t)] rfl (Nat.le_of_ble_eq_true rfl) ?_
  refine wa_aload_n dX3_size_0 rfl ?_
  refine wa_getI dX3_size_1 fgX3_30 (by first | assumption | rfl) (by rfl) ?_
  refine wa_iret dX3_size_4 rfl ?_
  exact hQ
theorem wp_X3_has {d t n : Nat} {i : Int32} {μ : Mem} {Q : QM} (ht : isS t) (hn : μ.1 t 2 = nI n) (hn64 : n ≤ 64) (h1 : ∀ j, j < n → i = nI j → Q (some (.int (nI 1))) μ) (h0 : (i.toInt < 0 ∨ (n : Int) ≤ i.toInt) → Q (some (.int (nI 0))) μ) : MW kX3_has d [.ref t, .int i] μ Q := by
  obtain ⟨hs0t, hs1t, hs2t, hs3t⟩ := isS_sh ht
  have hmt := isS_mod ht
  refine MW_of (by decide) [some (.ref t), some (.int i)] rfl (Nat.le_of_ble_eq_true rfl) ?_
  refine wa_iload_n dX3_has_0 rfl ?_
  refine wa_if_lt 16 dX3_has_1 (by decide) (fun c1_1 => ?_) (fun c1_1 => ?_)
  · try simp (disch := omega) only [nI_toInt, hn] at c1_1
    refine wa_iconst (nI 0) dX3_has_16 (by decide) ?_
    refine wa_zret dX3_has_17 rfl (by decide) ?_
    exact h0 (by omega)
  · try simp (disch := omega) only [nI_toInt, hn] at c1_1
    refine wa_iload_n dX3_has_4 rfl ?_
    refine wa_aload_n dX3_has_5 rfl ?_
    refine wa_getI dX3_has_6 fgX3_30 (by first | assumption | rfl) (by rfl) ?_
    refine wa_ic_ge 16 dX3_has_9 (by decide) (fun c9_2 => ?_) (fun c9_2 => ?_)
    · try simp (disch := omega) only [nI_toInt, hn] at c9_2
      refine wa_iconst (nI 0) dX3_has_16 (by decide) ?_
      refine wa_zret dX3_has_17 rfl (by decide) ?_
      exact h0 (by omega)
    · try simp (disch := omega) only [nI_toInt, hn] at c9_2
      refine wa_iconst (nI 1) dX3_has_12 (by decide) ?_
      refine wa_goto 17 dX3_has_13 (by decide) ?_
      refine wa_zret dX3_has_17 rfl (by decide) ?_
      obtain ⟨j, hj, e⟩ := nI_ex (x := i) (n := n) (by omega) (by omega) (by omega)
      exact h1 j hj e
/-- what fits a SORT -/
def fitsP (s v : Int) : Prop := (s = 0 → -128 ≤ v ∧ v ≤ 127) ∧ (s = 1 → -32768 ≤ v ∧ v ≤ 32767)
theorem wp_X3_fits {d t : Nat} {v : Int32} {μ : Mem} {Q : QM} (ht : isS t) (hs : μ.1 t 1 = nI 0 ∨ μ.1 t 1 = nI 1 ∨ μ.1 t 1 = nI 2) (h1 : fitsP (μ.1 t 1).toInt v.toInt → Q (some (.int (nI 1))) μ) (h0 : ¬ fitsP (μ.1 t 1).toInt v.toInt → Q (some (.int (nI 0))) μ) : MW kX3_fits d [.ref t, .int v] μ Q := by
  obtain ⟨hs0t, hs1t, hs2t, hs3t⟩ := isS_sh ht
  have hmt := isS_mod ht
  refine MW_of (by decide) [some (.ref t), some (.int v)] rfl (Nat.le_of_ble_eq_true rfl) ?_
  have e1 : (-128 : Int32).toInt = -128 := by decide
  have e2 : (-32768 : Int32).toInt = -32768 := by decide
  unfold fitsP at h1 h0
  rcases hs with hs | hs | hs
  · rw [hs, nI_0z] at h1 h0
    refine wa_aload_n dX3_fits_0 rfl ?_
    refine wa_getI dX3_fits_1 fgX3_26 (by first | assumption | rfl) (by rfl) ?_
    refine wa_ls (off := 28) 32 dX3_fits_4 (by decide) (by rw [hs]; decide) (by decide) ?_
    refine wa_iload_n dX3_fits_32 rfl ?_
    refine wa_bipush (-128) dX3_fits_33 (by decide) ?_
    refine wa_ic_lt 48 dX3_fits_35 (by decide) (fun c35_1 => ?_) (fun c35_1 => ?_)
    · try simp (disch := omega) only [nI_toInt, e1] at c35_1
      refine wa_iconst (nI 0) dX3_fits_48 (by decide) ?_
      refine wa_zret dX3_fits_49 rfl (by decide) ?_
      exact h0 (by omega)
    · try simp (disch := omega) only [nI_toInt, e1] at c35_1
      refine wa_iload_n dX3_fits_38 rfl ?_
      refine wa_bipush (nI 127) dX3_fits_39 (by decide) ?_
      refine wa_ic_gt 48 dX3_fits_41 (by decide) (fun c41_2 => ?_) (fun c41_2 => ?_)
      · try simp (disch := omega) only [nI_toInt, e1] at c41_2
        refine wa_iconst (nI 0) dX3_fits_48 (by decide) ?_
        refine wa_zret dX3_fits_49 rfl (by decide) ?_
        exact h0 (by omega)
      · try simp (disch := omega) only [nI_toInt, e1] at c41_2
        refine wa_iconst (nI 1) dX3_fits_44 (by decide) ?_
        refine wa_goto 49 dX3_fits_45 (by decide) ?_
        refine wa_zret dX3_fits_49 rfl (by decide) ?_
        exact h1 (by omega)
  · rw [hs, nI_1z] at h1 h0
    refine wa_aload_n dX3_fits_0 rfl ?_
    refine wa_getI dX3_fits_1 fgX3_26 (by first | assumption | rfl) (by rfl) ?_
    refine wa_ls (off := 46) 50 dX3_fits_4 (by decide) (by rw [hs]; decide) (by decide) ?_
    refine wa_iload_n dX3_fits_50 rfl ?_
    refine wa_sipush (-32768) dX3_fits_51 (by decide) ?_
    refine wa_ic_lt 68 dX3_fits_54 (by decide) (fun c54_1 => ?_) (fun c54_1 => ?_)
    · try simp (disch := omega) only [nI_toInt, e2] at c54_1
      refine wa_iconst (nI 0) dX3_fits_68 (by decide) ?_
      refine wa_zret dX3_fits_69 rfl (by decide) ?_
      exact h0 (by omega)
    · try simp (disch := omega) only [nI_toInt, e2] at c54_1
      refine wa_iload_n dX3_fits_57 rfl ?_
      refine wa_sipush (nI 32767) dX3_fits_58 (by decide) ?_
      refine wa_ic_gt 68 dX3_fits_61 (by decide) (fun c61_2 => ?_) (fun c61_2 => ?_)
      · try simp (disch := omega) only [nI_toInt, e2] at c61_2
        refine wa_iconst (nI 0) dX3_fits_68 (by decide) ?_
        refine wa_zret dX3_fits_69 rfl (by decide) ?_
        exact h0 (by omega)
      · try simp (disch := omega) only [nI_toInt, e2] at c61_2
        refine wa_iconst (nI 1) dX3_fits_64 (by decide) ?_
        refine wa_goto 69 dX3_fits_65 (by decide) ?_
        refine wa_zret dX3_fits_69 rfl (by decide) ?_
        exact h1 (by omega)
  · rw [hs, nI_2z] at h1 h0
    refine wa_aload_n dX3_fits_0 rfl ?_
    refine wa_getI dX3_fits_1 fgX3_26 (by first | assumption | rfl) (by rfl) ?_
    refine wa_ls (off := 66) 70 dX3_fits_4 (by decide) (by rw [hs]; decide) (by decide) ?_
    refine wa_iconst (nI 1) dX3_fits_70 (by decide) ?_
    refine wa_zret dX3_fits_71 rfl (by decide) ?_
    exact h1 (by omega)
theorem wp_X3_tell {d t j : Nat} {v : Int32} {μ : Mem} {Q : QM} (ht : isS t) (hj : j < 64) (hQ : Q none (sI (sI μ (t + 1) j v) (t + 2) j (nI 1))) : MW kX3_tell d [.ref t, .int (nI j), .int v] μ Q := by
  obtain ⟨hs0t, hs1t, hs2t, hs3t⟩ := isS_sh ht
  have hmt := isS_mod ht
  refine MW_of (by decide) [some (.ref t), some (.int (nI j)), some (.int v)] rfl (Nat.le_of_ble_eq_true rfl) ?_
  refine wa_aload_n dX3_tell_0 rfl ?_
  refine wa_getR dX3_tell_1 fgX3_9 (by first | assumption | rfl) (by rfl) ?_
  refine wa_iload_n dX3_tell_4 rfl ?_
  refine wa_iload_n dX3_tell_5 rfl ?_
  refine wa_iast _ dX3_tell_6 (by first | assumption | rfl) (by first | with_reducible rfl | with_reducible assumption | with_reducible exact ix_ma _ _ _ | with_reducible exact ix_maa _ _ _ _ | with_reducible exact ix_a _ _ | with_reducible exact ix_mama _ _ _ _ _) (by omega) ?_
  refine wa_aload_n dX3_tell_7 rfl ?_
  refine wa_getR dX3_tell_8 fgX3_15 (by first | assumption | rfl) (by rfl) ?_
  refine wa_iload_n dX3_tell_11 rfl ?_
  refine wa_iconst (nI 1) dX3_tell_12 (by decide) ?_
  refine wa_iast _ dX3_tell_13 (by first | assumption | rfl) (by first | with_reducible rfl | with_reducible assumption | with_reducible exact ix_ma _ _ _ | with_reducible exact ix_maa _ _ _ _ | with_reducible exact ix_a _ _ | with_reducible exact ix_mama _ _ _ _ _) (by omega) ?_
  refine wa_vret dX3_tell_14 rfl ?_
  exact hQ
theorem wp_X3_valueAt {d t j : Nat} {i : Int32} {μ : Mem} {Q : QM} (ht : isS t) (hi : i = nI j) (hj : j < 64) (hQ : Q (some (.int (μ.1 (t + 1) j))) μ) : MW kX3_valueAt d [.ref t, .int i] μ Q := by
  obtain ⟨hs0t, hs1t, hs2t, hs3t⟩ := isS_sh ht
  have hmt := isS_mod ht
  refine MW_of (by decide) [some (.ref t), some (.int i)] rfl (Nat.le_of_ble_eq_true rfl) ?_
  refine wa_aload_n dX3_valueAt_0 rfl ?_
  refine wa_getR dX3_valueAt_1 fgX3_9 (by first | assumption | rfl) (by rfl) ?_
  refine wa_iload_n dX3_valueAt_4 rfl ?_
  refine wa_iald _ dX3_valueAt_5 (by first | assumption | rfl) (by first | with_reducible rfl | with_reducible assumption | with_reducible exact ix_ma _ _ _ | with_reducible exact ix_maa _ _ _ _ | with_reducible exact ix_a _ _ | with_reducible exact ix_mama _ _ _ _ _) (by omega) ?_
  refine wa_iret dX3_valueAt_6 rfl ?_
  exact hQ
def cntN (f : Nat → Int32) (v : Int32) : Nat → Nat
  | 0 => 0
  | n + 1 => cntN f v n + (if (f n).toInt = v.toInt then 1 else 0)
theorem wp_X3_samplesThatStand {d t n : Nat} {s : Int32} {μ : Mem} {Q : QM} (ht : isS t) (hn : μ.1 t 2 = nI n) (hn64 : n ≤ 64) (hQ : Q (some (.int (nI (cntN (μ.1 (t + 2)) s n)))) μ) : MW kX3_samplesThatStand d [.ref t, .int s] μ Q := by
  obtain ⟨hs0t, hs1t, hs2t, hs3t⟩ := isS_sh ht
  have hmt := isS_mod ht
  refine MW_of (by decide) [some (.ref t), some (.int s), none, none] rfl (Nat.le_of_ble_eq_true rfl) ?_
  have loop : ∀ m i, i + m = n → WA kX3_samplesThatStand d Q 4 [some (.ref t), some (.int s), some (.int (nI (cntN (μ.1 (t + 2)) s i))), some (.int (nI i))] [] μ := by
    intro m
    induction m with
    | zero =>
      intro i hi
      obtain rfl : i = n := by omega
      refine wa_iload_n dX3_samplesThatStand_4 rfl ?_
      refine wa_aload_n dX3_samplesThatStand_5 rfl ?_
      refine wa_getI dX3_samplesThatStand_6 fgX3_30 (by first | assumption | rfl) (by rfl) ?_
      refine wa_ic_geT 31 dX3_samplesThatStand_9 (by decide) (by rw [hn]; exact le_nI (by omega) (by omega)) ?_
      refine wa_iload_n dX3_samplesThatStand_31 rfl ?_
      refine wa_iret dX3_samplesThatStand_32 rfl ?_
      exact hQ
    | succ m ih =>
      intro i hi
      have e := ih (i + 1) (by omega)
      refine wa_iload_n dX3_samplesThatStand_4 rfl ?_
      refine wa_aload_n dX3_samplesThatStand_5 rfl ?_
      refine wa_getI dX3_samplesThatStand_6 fgX3_30 (by first | assumption | rfl) (by rfl) ?_
      refine wa_ic_geF 31 dX3_samplesThatStand_9 (by decide) (by rw [hn]; exact nle_nI (by omega) (by omega)) ?_
      refine wa_aload_n dX3_samplesThatStand_12 rfl ?_
      refine wa_getR dX3_samplesThatStand_13 fgX3_15 (by first | assumption | rfl) (by rfl) ?_
      refine wa_iload_n dX3_samplesThatStand_16 rfl ?_
      refine wa_iald _ dX3_samplesThatStand_17 (by first | assumption | rfl) (by first | with_reducible rfl | with_reducible assumption | with_reducible exact ix_ma _ _ _ | with_reducible exact ix_maa _ _ _ _ | with_reducible exact ix_a _ _ | with_reducible exact ix_mama _ _ _ _ _) (by omega) ?_
      refine wa_iload_n dX3_samplesThatStand_18 rfl ?_
      refine wa_ic_ne 25 dX3_samplesThatStand_19 (by decide) (fun c19_1 => ?_) (fun c19_1 => ?_)
      · try simp (disch := omega) only [nI_toInt] at c19_1
        refine wa_iinc (nI 1) dX3_samplesThatStand_25 rfl (by decide) (by decide) ?_
        refine wa_goto 4 dX3_samplesThatStand_28 (by decide) ?_
        rw [cntN, if_neg (by assumption)] at e; simp only [nI_add]; exact e
      · try simp (disch := omega) only [nI_toInt] at c19_1
        refine wa_iinc (nI 1) dX3_samplesThatStand_22 rfl (by decide) (by decide) ?_
        refine wa_iinc (nI 1) dX3_samplesThatStand_25 rfl (by decide) (by decide) ?_
        refine wa_goto 4 dX3_samplesThatStand_28 (by decide) ?_
        rw [cntN, if_pos (by omega)] at e; simp only [nI_add]; exact e
  refine wa_iconst (nI 0) dX3_samplesThatStand_0 (by decide) ?_
  refine wa_istore_n dX3_samplesThatStand_1 (by decide) ?_
  refine wa_iconst (nI 0) dX3_samplesThatStand_2 (by decide) ?_
  refine wa_istore_n dX3_samplesThatStand_3 (by decide) ?_
  exact loop n 0 (by omega)
theorem wp_X3_lostSamples {d t n : Nat} {μ : Mem} {Q : QM} (ht : isS t) (hd : 1 ≤ d) (hn : μ.1 t 2 = nI n) (hn64 : n ≤ 64) (hQ : Q (some (.int (nI (cntN (μ.1 (t + 2)) (nI 0) n)))) μ) : MW kX3_lostSamples d [.ref t] μ Q := by
  obtain ⟨hs0t, hs1t, hs2t, hs3t⟩ := isS_sh ht
  have hmt := isS_mod ht
  refine MW_of (by decide) [some (.ref t)] rfl (Nat.le_of_ble_eq_true rfl) ?_
  refine wa_aload_n dX3_lostSamples_0 rfl ?_
  refine wa_iconst (nI 0) dX3_lostSamples_1 (by decide) ?_
  refine wa_callV1 (k' := kX3_samplesThatStand) (d' := 0) dX3_lostSamples_2 lmX3_79 kvX3_samplesThatStand (by first | assumption | rfl) (by rfl) (by decide) (by omega) (Nat.le_of_ble_eq_true rfl) ?_
  refine wp_X3_samplesThatStand (by assumption) (by assumption) (by assumption) ?_
  refine wa_iret dX3_lostSamples_5 rfl ?_
  exact hQ
