/-! PACKS of the class: the SHEET that was SENT is the one of tag 39 -/
theorem isS39 : isS 39 := ⟨8, by omega, by omega⟩
def spN (n : Nat) : Nat := (n + 7) / 8
def pkN (n : Nat) : Nat := spN n + (spN n + 3) / 4
theorem spN_le {n : Nat} (h : n ≤ 64) : spN n ≤ 8 := by unfold spN; omega
theorem pkN_le {n : Nat} (h : n ≤ 64) : pkN n ≤ 10 := by
  have := spN_le h
  unfold pkN
  omega
theorem spN_e {n : Nat} (h : n ≤ 64) : (nI n + nI 8 - nI 1) / nI 8 = nI (spN n) := by
  rw [nI_add, pk_sub (by omega), pk_div (by omega) (by omega) (by omega)]
  rfl
theorem pkN_e {s : Nat} (h : s ≤ 8) : (nI s + nI 4 - nI 1) / nI 4 = nI ((s + 3) / 4) := by
  rw [nI_add, pk_sub (by omega), pk_div (by omega) (by omega) (by omega)]
  rfl
theorem wp_X1_wereSent {d : Nat} {μ : Mem} {Q : QM} (hd : 1 ≤ d) (hb : μ.1 39 0 = nI 0 ∨ μ.1 39 0 = nI 1) (h1 : μ.1 39 0 = nI 1 → Q (some (.int (nI 1))) μ) (h0 : μ.1 39 0 = nI 0 → Q (some (.int (nI 0))) μ) : MW kX1_wereSent d [.ref 3] μ Q := by
  refine MW_of (by decide) [some (.ref 3)] rfl (Nat.le_of_ble_eq_true rfl) ?_
  have h39 := isS39
  refine wa_aload_n dX1_wereSent_0 rfl ?_
  refine wa_getR dX1_wereSent_1 fgX1_10 (by first | assumption | rfl) (by rfl) ?_
  refine wa_callV0 (k' := kX3_isThere) (d' := 0) dX1_wereSent_4 lmX1_35 kvX3_isThere (by first | assumption | rfl) (by rfl) (by decide) (by omega) (Nat.le_of_ble_eq_true rfl) ?_
  refine wp_X3_isThere (by assumption) (by assumption) (fun hth => ?_) (fun hth => ?_)
  · skip
    refine wa_zret dX1_wereSent_7 rfl (by decide) ?_
    exact h1 hth
  · skip
    refine wa_zret dX1_wereSent_7 rfl (by decide) ?_
    exact h0 hth
theorem wp_X1_samplePacks {d n : Nat} {μ : Mem} {Q : QM} (hd : 1 ≤ d) (hn : μ.1 39 2 = nI n) (hn64 : n ≤ 64) (hQ : Q (some (.int (nI (spN n)))) μ) : MW kX1_samplePacks d [.ref 3] μ Q := by
  refine MW_of (by decide) [some (.ref 3)] rfl (Nat.le_of_ble_eq_true rfl) ?_
  have h39 := isS39
  refine wa_aload_n dX1_samplePacks_0 rfl ?_
  refine wa_getR dX1_samplePacks_1 fgX1_10 (by first | assumption | rfl) (by rfl) ?_
  refine wa_callV0 (k' := kX3_size) (d' := 0) dX1_samplePacks_4 lmX1_24 kvX3_size (by first | assumption | rfl) (by rfl) (by decide) (by omega) (Nat.le_of_ble_eq_true rfl) ?_
  refine wp_X3_size (by assumption) ?_
  refine wa_bipush (nI 8) dX1_samplePacks_7 (by decide) ?_
  refine wa_iadd dX1_samplePacks_9 ?_
  refine wa_iconst (nI 1) dX1_samplePacks_10 (by decide) ?_
  refine wa_isub dX1_samplePacks_11 ?_
  refine wa_bipush (nI 8) dX1_samplePacks_12 (by decide) ?_
  refine wa_idiv dX1_samplePacks_14 (by decide) ?_
  refine wa_iret dX1_samplePacks_15 rfl ?_
  rw [hn, spN_e hn64]; exact hQ
theorem wp_X1_size {d n : Nat} {μ : Mem} {Q : QM} (hd : 2 ≤ d) (hn : μ.1 39 2 = nI n) (hn64 : n ≤ 64) (hQ : Q (some (.int (nI (pkN n)))) μ) : MW kX1_size d [.ref 3] μ Q := by
  refine MW_of (by decide) [some (.ref 3)] rfl (Nat.le_of_ble_eq_true rfl) ?_
  refine wa_aload_n dX1_size_0 rfl ?_
  refine wa_callV0 (k' := kX1_samplePacks) (d' := 1) dX1_size_1 lmX1_39 kvX1_samplePacks (by first | assumption | rfl) (by rfl) (by decide) (by omega) (Nat.le_of_ble_eq_true rfl) ?_
  refine wp_X1_samplePacks (by omega) (by assumption) (by assumption) ?_
  refine wa_aload_n dX1_size_4 rfl ?_
  refine wa_callV0 (k' := kX1_samplePacks) (d' := 1) dX1_size_5 lmX1_39 kvX1_samplePacks (by first | assumption | rfl) (by rfl) (by decide) (by omega) (Nat.le_of_ble_eq_true rfl) ?_
  refine wp_X1_samplePacks (by omega) (by assumption) (by assumption) ?_
  refine wa_iconst (nI 4) dX1_size_8 (by decide) ?_
  refine wa_iadd dX1_size_9 ?_
  refine wa_iconst (nI 1) dX1_size_10 (by decide) ?_
  refine wa_isub dX1_size_11 ?_
  refine wa_iconst (nI 4) dX1_size_12 (by decide) ?_
  refine wa_idiv dX1_size_13 (by decide) ?_
  refine wa_iadd dX1_size_14 ?_
  refine wa_iret dX1_size_15 rfl ?_
  rw [pkN_e (spN_le hn64), nI_add]; exact hQ
theorem wp_X1_forget {d j : Nat} {i : Int32} {μ : Mem} {Q : QM} (hi : i = nI j) (hj : j < 10) (h1 : (μ.1 6 j).toInt = 0 → Q (some (.int (nI 1))) (sI μ 6 j (nI 1))) (h0 : ¬ (μ.1 6 j).toInt = 0 → Q (some (.int (nI 0))) (sI μ 6 j (nI 1))) : MW kX1_forget d [.ref 3, .int i] μ Q := by
  refine MW_of (by decide) [some (.ref 3), some (.int i), none] rfl (Nat.le_of_ble_eq_true rfl) ?_
  refine wa_aload_n dX1_forget_0 rfl ?_
  refine wa_getR dX1_forget_1 fgX1_16 (by first | assumption | rfl) (by rfl) ?_
  refine wa_iload_n dX1_forget_4 rfl ?_
  refine wa_zald _ dX1_forget_5 (by first | assumption | rfl) (by first | with_reducible rfl | with_reducible assumption | with_reducible exact ix_ma _ _ _ | with_reducible exact ix_maa _ _ _ _ | with_reducible exact ix_a _ _ | with_reducible exact ix_mama _ _ _ _ _) (by omega) ?_
  refine wa_istore_n dX1_forget_6 (by decide) ?_
  refine wa_aload_n dX1_forget_7 rfl ?_
  refine wa_getR dX1_forget_8 fgX1_16 (by first | assumption | rfl) (by rfl) ?_
  refine wa_iload_n dX1_forget_11 rfl ?_
  refine wa_iconst (nI 1) dX1_forget_12 (by decide) ?_
  refine wa_zast _ dX1_forget_13 (by first | assumption | rfl) (by first | with_reducible rfl | with_reducible assumption | with_reducible exact ix_ma _ _ _ | with_reducible exact ix_maa _ _ _ _ | with_reducible exact ix_a _ _ | with_reducible exact ix_mama _ _ _ _ _) (by omega) (Or.inr rfl) ?_
  refine wa_iload_n dX1_forget_14 rfl ?_
  refine wa_if_ne 22 dX1_forget_15 (by decide) (fun c15_1 => ?_) (fun c15_1 => ?_)
  · try simp (disch := omega) only [nI_toInt] at c15_1
    refine wa_iconst (nI 0) dX1_forget_22 (by decide) ?_
    refine wa_zret dX1_forget_23 rfl (by decide) ?_
    exact h0 (by assumption)
  · try simp (disch := omega) only [nI_toInt] at c15_1
    refine wa_iconst (nI 1) dX1_forget_18 (by decide) ?_
    refine wa_goto 23 dX1_forget_19 (by decide) ?_
    refine wa_zret dX1_forget_23 rfl (by decide) ?_
    exact h1 (by omega)
/-- how many are not 0 -/
def nzN (f : Nat → Int32) : Nat → Nat
  | 0 => 0
  | n + 1 => nzN f n + (if (f n).toInt = 0 then 0 else 1)
theorem wp_X1_lostPacks {d : Nat} {μ : Mem} {Q : QM} (hQ : Q (some (.int (nI (nzN (μ.1 6) 10)))) μ) : MW kX1_lostPacks d [.ref 3] μ Q := by
  refine MW_of (by decide) [some (.ref 3), none, none] rfl (Nat.le_of_ble_eq_true rfl) ?_
  have loop : ∀ m i, i + m = 10 → WA kX1_lostPacks d Q 4 [some (.ref 3), some (.int (nI (nzN (μ.1 6) i))), some (.int (nI i))] [] μ := by
    intro m
    induction m with
    | zero =>
      intro i hi
      obtain rfl : i = 10 := by omega
      refine wa_iload_n dX1_lostPacks_4 rfl ?_
      refine wa_bipush (nI 10) dX1_lostPacks_5 (by decide) ?_
      refine wa_ic_geT 28 dX1_lostPacks_7 (by decide) (le_nI (by omega) (by omega)) ?_
      refine wa_iload_n dX1_lostPacks_28 rfl ?_
      refine wa_iret dX1_lostPacks_29 rfl ?_
      exact hQ
    | succ m ih =>
      intro i hi
      have e := ih (i + 1) (by omega)
      refine wa_iload_n dX1_lostPacks_4 rfl ?_
      refine wa_bipush (nI 10) dX1_lostPacks_5 (by decide) ?_
      refine wa_ic_geF 28 dX1_lostPacks_7 (by decide) (nle_nI (by omega) (by omega)) ?_
      refine wa_aload_n dX1_lostPacks_10 rfl ?_
      refine wa_getR dX1_lostPacks_11 fgX1_16 (by first | assumption | rfl) (by rfl) ?_
      refine wa_iload_n dX1_lostPacks_14 rfl ?_
      refine wa_zald _ dX1_lostPacks_15 (by first | assumption | rfl) (by first | with_reducible rfl | with_reducible assumption | with_reducible exact ix_ma _ _ _ | with_reducible exact ix_maa _ _ _ _ | with_reducible exact ix_a _ _ | with_reducible exact ix_mama _ _ _ _ _) (by omega) ?_
      refine wa_if_eq 22 dX1_lostPacks_16 (by decide) (fun c16_1 => ?_) (fun c16_1 => ?_)
      · try simp (disch := omega) only [nI_toInt] at c16_1
        refine wa_iinc (nI 1) dX1_lostPacks_22 rfl (by decide) (by decide) ?_
        refine wa_goto 4 dX1_lostPacks_25 (by decide) ?_
        rw [nzN, if_pos (by assumption)] at e; simp only [nI_add]; exact e
      · try simp (disch := omega) only [nI_toInt] at c16_1
        refine wa_iinc (nI 1) dX1_lostPacks_19 rfl (by decide) (by decide) ?_
        refine wa_iinc (nI 1) dX1_lostPacks_22 rfl (by decide) (by decide) ?_
        refine wa_goto 4 dX1_lostPacks_25 (by decide) ?_
        rw [nzN, if_neg (by assumption)] at e; simp only [nI_add]; exact e
  refine wa_iconst (nI 0) dX1_lostPacks_0 (by decide) ?_
  refine wa_istore_n dX1_lostPacks_1 (by decide) ?_
  refine wa_iconst (nI 0) dX1_lostPacks_2 (by decide) ?_
  refine wa_istore_n dX1_lostPacks_3 (by decide) ?_
  exact loop 10 0 (by omega)
/-- LOST ones of the m from a on, of s -/
def lbF (f : Nat → Int32) (s a : Nat) : Nat → Nat
  | 0 => 0
  | m + 1 => lbF f s a m + (if a + m < s ∧ ¬ (f (a + m)).toInt = 0 then 1 else 0)
theorem lbF_end (f : Nat → Int32) (s a : Nat) : ∀ k m, s ≤ a + m → lbF f s a (m + k) = lbF f s a m
  | 0, m, _ => rfl
  | k + 1, m, h => by
    rw [show m + (k + 1) = (m + k) + 1 by omega, lbF, if_neg (by omega), lbF_end f s a k m h]
    rfl
theorem wp_X1_lostBeside {d n j : Nat} {μ : Mem} {Q : QM} (hd : 2 ≤ d) (hn : μ.1 39 2 = nI n) (hn64 : n ≤ 64) (hj : j < spN n) (hQ : Q (some (.int (nI (lbF (μ.1 6) (spN n) (j / 4 * 4) 4)))) μ) : MW kX1_lostBeside d [.ref 3, .int (nI j)] μ Q := by
  refine MW_of (by decide) [some (.ref 3), some (.int (nI j)), none, none, none] rfl (Nat.le_of_ble_eq_true rfl) ?_
  have hs := spN_le hn64
  have loop : ∀ m i, i + m = 4 → WA kX1_lostBeside d Q 11 [some (.ref 3), some (.int (nI j)), some (.int (nI (j / 4 * 4))), some (.int (nI (lbF (μ.1 6) (spN n) (j / 4 * 4) i))), some (.int (nI (j / 4 * 4 + i)))] [] μ := by
    intro m
    induction m with
    | zero =>
      intro i hi
      obtain rfl : i = 4 := by omega
      refine wa_iload dX1_lostBeside_11 rfl ?_
      refine wa_iload_n dX1_lostBeside_13 rfl ?_
      refine wa_iconst (nI 4) dX1_lostBeside_14 (by decide) ?_
      refine wa_iadd dX1_lostBeside_15 ?_
      refine wa_ic_geT 47 dX1_lostBeside_16 (by decide) (by rw [nI_add]; exact le_nI (by omega) (by omega)) ?_
      refine wa_iload_n dX1_lostBeside_47 rfl ?_
      refine wa_iret dX1_lostBeside_48 rfl ?_
      exact hQ
    | succ m ih =>
      intro i hi
      have e := ih (i + 1) (by omega)
      have e1 : j / 4 * 4 + i + 1 = j / 4 * 4 + (i + 1) := by omega
      by_cases hh : j / 4 * 4 + i < spN n
      · refine wa_iload dX1_lostBeside_11 rfl ?_
        refine wa_iload_n dX1_lostBeside_13 rfl ?_
        refine wa_iconst (nI 4) dX1_lostBeside_14 (by decide) ?_
        refine wa_iadd dX1_lostBeside_15 ?_
        refine wa_ic_geF 47 dX1_lostBeside_16 (by decide) (by rw [nI_add]; exact nle_nI (by omega) (by omega)) ?_
        refine wa_iload dX1_lostBeside_19 rfl ?_
        refine wa_aload_n dX1_lostBeside_21 rfl ?_
        refine wa_callV0 (k' := kX1_samplePacks) (d' := 1) dX1_lostBeside_22 lmX1_39 kvX1_samplePacks (by first | assumption | rfl) (by rfl) (by decide) (by omega) (Nat.le_of_ble_eq_true rfl) ?_
        refine wp_X1_samplePacks (by omega) (by assumption) (by assumption) ?_
        refine wa_ic_geF 47 dX1_lostBeside_25 (by decide) (nle_nI (by omega) (by omega)) ?_
        refine wa_aload_n dX1_lostBeside_28 rfl ?_
        refine wa_getR dX1_lostBeside_29 fgX1_16 (by first | assumption | rfl) (by rfl) ?_
        refine wa_iload dX1_lostBeside_32 rfl ?_
        refine wa_zald _ dX1_lostBeside_34 (by first | assumption | rfl) (by first | with_reducible rfl | with_reducible assumption | with_reducible exact ix_ma _ _ _ | with_reducible exact ix_maa _ _ _ _ | with_reducible exact ix_a _ _ | with_reducible exact ix_mama _ _ _ _ _) (by omega) ?_
        refine wa_if_eq 41 dX1_lostBeside_35 (by decide) (fun c35_2 => ?_) (fun c35_2 => ?_)
        · try simp (disch := omega) only [nI_toInt] at c35_2
          refine wa_iinc (nI 1) dX1_lostBeside_41 rfl (by decide) (by decide) ?_
          refine wa_goto 11 dX1_lostBeside_44 (by decide) ?_
          rw [lbF, if_neg (fun q => q.2 (by assumption))] at e; simp only [nI_add, e1]; exact e
        · try simp (disch := omega) only [nI_toInt] at c35_2
          refine wa_iinc (nI 1) dX1_lostBeside_38 rfl (by decide) (by decide) ?_
          refine wa_iinc (nI 1) dX1_lostBeside_41 rfl (by decide) (by decide) ?_
          refine wa_goto 11 dX1_lostBeside_44 (by decide) ?_
          rw [lbF, if_pos ⟨hh, by assumption⟩] at e; simp only [nI_add, e1]; exact e
      · refine wa_iload dX1_lostBeside_11 rfl ?_
        refine wa_iload_n dX1_lostBeside_13 rfl ?_
        refine wa_iconst (nI 4) dX1_lostBeside_14 (by decide) ?_
        refine wa_iadd dX1_lostBeside_15 ?_
        refine wa_ic_geF 47 dX1_lostBeside_16 (by decide) (by rw [nI_add]; exact nle_nI (by omega) (by omega)) ?_
        refine wa_iload dX1_lostBeside_19 rfl ?_
        refine wa_aload_n dX1_lostBeside_21 rfl ?_
        refine wa_callV0 (k' := kX1_samplePacks) (d' := 1) dX1_lostBeside_22 lmX1_39 kvX1_samplePacks (by first | assumption | rfl) (by rfl) (by decide) (by omega) (Nat.le_of_ble_eq_true rfl) ?_
        refine wp_X1_samplePacks (by omega) (by assumption) (by assumption) ?_
        refine wa_ic_geT 47 dX1_lostBeside_25 (by decide) (le_nI (by omega) (by omega)) ?_
        refine wa_iload_n dX1_lostBeside_47 rfl ?_
        refine wa_iret dX1_lostBeside_48 rfl ?_
        have a1 := lbF_end (μ.1 6) (spN n) (j / 4 * 4) (4 - i) i (by omega)
        rw [show i + (4 - i) = 4 by omega] at a1
        rw [← a1]
        exact hQ
  refine wa_iload_n dX1_lostBeside_0 rfl ?_
  refine wa_iconst (nI 4) dX1_lostBeside_1 (by decide) ?_
  refine wa_idiv dX1_lostBeside_2 (by decide) ?_
  refine wa_iconst (nI 4) dX1_lostBeside_3 (by decide) ?_
  refine wa_imul dX1_lostBeside_4 ?_
  refine wa_istore_n dX1_lostBeside_5 (by decide) ?_
  refine wa_iconst (nI 0) dX1_lostBeside_6 (by decide) ?_
  refine wa_istore_n dX1_lostBeside_7 (by decide) ?_
  refine wa_iload_n dX1_lostBeside_8 rfl ?_
  refine wa_istore dX1_lostBeside_9 (by decide) ?_
  rw [pk_div (by omega) (by omega) (by omega), pk_mul]; exact loop 4 0 (by omega)
def comP (f : Nat → Int32) (n j : Nat) : Bool := decide ((f j).toInt = 0 ∨ ((f (spN n + j / 4)).toInt = 0 ∧ lbF f (spN n) (j / 4 * 4) 4 = 1))
theorem lbF_le (f : Nat → Int32) (s a : Nat) : ∀ m, lbF f s a m ≤ m
  | 0 => Nat.le_refl 0
  | m + 1 => by
    have := lbF_le f s a m
    rw [lbF]
    split <;> omega
theorem wp_X1_comes {d n j : Nat} {i : Int32} {μ : Mem} {Q : QM} (hi : i = nI j) (hd : 3 ≤ d) (hn : μ.1 39 2 = nI n) (hn64 : n ≤ 64) (hj : j < spN n) (h1 : comP (μ.1 6) n j = true → Q (some (.int (nI 1))) μ) (h0 : comP (μ.1 6) n j = false → Q (some (.int (nI 0))) μ) : MW kX1_comes d [.ref 3, .int i] μ Q := by
  subst hi
  refine MW_of (by decide) [some (.ref 3), some (.int (nI j)), none] rfl (Nat.le_of_ble_eq_true rfl) ?_
  have hs := spN_le hn64
  have hlb := lbF_le (μ.1 6) (spN n) (j / 4 * 4) 4
  have ed : nI (spN n) + nI j / nI 4 = nI (spN n + j / 4) := by rw [pk_div (by omega) (by omega) (by omega), nI_add]
  refine wa_aload_n dX1_comes_0 rfl ?_
  refine wa_callV0 (k' := kX1_samplePacks) (d' := 1) dX1_comes_1 lmX1_39 kvX1_samplePacks (by first | assumption | rfl) (by rfl) (by decide) (by omega) (Nat.le_of_ble_eq_true rfl) ?_
  refine wp_X1_samplePacks (by omega) (by assumption) (by assumption) ?_
  refine wa_iload_n dX1_comes_4 rfl ?_
  refine wa_iconst (nI 4) dX1_comes_5 (by decide) ?_
  refine wa_idiv dX1_comes_6 (by decide) ?_
  refine wa_iadd dX1_comes_7 ?_
  refine wa_istore_n dX1_comes_8 (by decide) ?_
  refine wa_aload_n dX1_comes_9 rfl ?_
  refine wa_getR dX1_comes_10 fgX1_16 (by first | assumption | rfl) (by rfl) ?_
  refine wa_iload_n dX1_comes_13 rfl ?_
  refine wa_zald _ dX1_comes_14 (by first | assumption | rfl) (by first | with_reducible rfl | with_reducible assumption | with_reducible exact ix_ma _ _ _ | with_reducible exact ix_maa _ _ _ _ | with_reducible exact ix_a _ _ | with_reducible exact ix_mama _ _ _ _ _) (by omega) ?_
  refine wa_if_eq 36 dX1_comes_15 (by decide) (fun c15_2 => ?_) (fun c15_2 => ?_)
  · try simp (disch := omega) only [nI_toInt] at c15_2
    refine wa_iconst (nI 1) dX1_comes_36 (by decide) ?_
    refine wa_goto 41 dX1_comes_37 (by decide) ?_
    refine wa_zret dX1_comes_41 rfl (by decide) ?_
    exact h1 (decide_eq_true (Or.inl (by assumption)))
  · try simp (disch := omega) only [nI_toInt] at c15_2
    refine wa_aload_n dX1_comes_18 rfl ?_
    refine wa_getR dX1_comes_19 fgX1_16 (by first | assumption | rfl) (by rfl) ?_
    refine wa_iload_n dX1_comes_22 rfl ?_
    refine wa_zald _ dX1_comes_23 (by first | assumption | rfl) (by exact ed) (by omega) ?_
    refine wa_if_ne 40 dX1_comes_24 (by decide) (fun c24_3 => ?_) (fun c24_3 => ?_)
    · try simp (disch := omega) only [nI_toInt] at c24_3
      refine wa_iconst (nI 0) dX1_comes_40 (by decide) ?_
      refine wa_zret dX1_comes_41 rfl (by decide) ?_
      exact h0 (decide_eq_false (by omega))
    · try simp (disch := omega) only [nI_toInt] at c24_3
      refine wa_aload_n dX1_comes_27 rfl ?_
      refine wa_iload_n dX1_comes_28 rfl ?_
      refine wa_callV1 (k' := kX1_lostBeside) (d' := 2) dX1_comes_29 lmX1_50 kvX1_lostBeside (by first | assumption | rfl) (by rfl) (by decide) (by omega) (Nat.le_of_ble_eq_true rfl) ?_
      refine wp_X1_lostBeside (by omega) (by assumption) (by assumption) (by assumption) ?_
      refine wa_iconst (nI 1) dX1_comes_32 (by decide) ?_
      refine wa_ic_ne 40 dX1_comes_33 (by decide) (fun c33_5 => ?_) (fun c33_5 => ?_)
      · try simp (disch := omega) only [nI_toInt] at c33_5
        refine wa_iconst (nI 0) dX1_comes_40 (by decide) ?_
        refine wa_zret dX1_comes_41 rfl (by decide) ?_
        exact h0 (decide_eq_false (by omega))
      · try simp (disch := omega) only [nI_toInt] at c33_5
        refine wa_iconst (nI 1) dX1_comes_36 (by decide) ?_
        refine wa_goto 41 dX1_comes_37 (by decide) ?_
        refine wa_zret dX1_comes_41 rfl (by decide) ?_
        exact h1 (decide_eq_true (by omega))
theorem wp_X1_load {d u n : Nat} {μ : Mem} {Q : QM} (hd : 2 ≤ d) (hu : isS u) (hu9 : u ≠ 39) (hn : μ.1 u 2 = nI n) (hn64 : n ≤ 64)
    (hQ : ∀ μ' : Mem, μ'.2 = μ.2 → (∀ q, q ≠ 39 → q ≠ 40 → q ≠ 41 → q ≠ 6 → μ'.1 q = μ.1 q) → μ'.1 39 0 = nI 1 → μ'.1 39 1 = μ.1 u 1 → μ'.1 39 2 = nI n → (∀ i, i < n → μ'.1 40 i = μ.1 (u + 1) i ∧ μ'.1 41 i = μ.1 (u + 2) i) → (∀ p, p < 10 → μ'.1 6 p = nI 0) → Q none μ') : MW kX1_load d [.ref 3, .ref u] μ Q := by
  have h39 := isS39
  obtain ⟨hs0u, hs1u, hs2u, hs3u⟩ := isS_sh hu
  have hmu := isS_mod hu
  refine MW_of (by decide) [some (.ref 3), some (.ref u), none] rfl (Nat.le_of_ble_eq_true rfl) ?_
  have loop : ∀ ν : Mem, Q none (bI ν 6 (fillF (ν.1 6) (nI 0) 10)) → ∀ m i, i + m = 10 → WA kX1_load d Q 31 [some (.ref 3), some (.ref u), some (.int (nI i))] [] (bI ν 6 (fillF (ν.1 6) (nI 0) i)) := by
    intro ν hν m
    induction m with
    | zero =>
      intro i hi
      obtain rfl : i = 10 := by omega
      refine wa_iload_n dX1_load_31 rfl ?_
      refine wa_bipush (nI 10) dX1_load_32 (by decide) ?_
      refine wa_ic_geT 50 dX1_load_34 (by decide) (le_nI (by omega) (by omega)) ?_
      refine wa_vret dX1_load_50 rfl ?_
      exact hν
    | succ m ih =>
      intro i hi
      have e := ih (i + 1) (by omega)
      refine wa_iload_n dX1_load_31 rfl ?_
      refine wa_bipush (nI 10) dX1_load_32 (by decide) ?_
      refine wa_ic_geF 50 dX1_load_34 (by decide) (nle_nI (by omega) (by omega)) ?_
      refine wa_aload_n dX1_load_37 rfl ?_
      refine wa_getR dX1_load_38 fgX1_16 (by first | assumption | rfl) (by rfl) ?_
      refine wa_iload_n dX1_load_41 rfl ?_
      refine wa_iconst (nI 0) dX1_load_42 (by decide) ?_
      refine wa_zast _ dX1_load_43 (by first | assumption | rfl) (by first | with_reducible rfl | with_reducible assumption | with_reducible exact ix_ma _ _ _ | with_reducible exact ix_maa _ _ _ _ | with_reducible exact ix_a _ _ | with_reducible exact ix_mama _ _ _ _ _) (by omega) (Or.inl rfl) ?_
      refine wa_iinc (nI 1) dX1_load_44 rfl (by decide) (by decide) ?_
      refine wa_goto 31 dX1_load_47 (by decide) ?_
      rw [sIb, fillF_s]; simp only [nI_add]; exact e
  refine wa_aload_n dX1_load_0 rfl ?_
  refine wa_getR dX1_load_1 fgX1_10 (by first | assumption | rfl) (by rfl) ?_
  refine wa_aload_n dX1_load_4 rfl ?_
  refine wa_callV0 (k' := kX3_sort) (d' := 0) dX1_load_5 lmX1_20 kvX3_sort (by first | assumption | rfl) (by rfl) (by decide) (by omega) (Nat.le_of_ble_eq_true rfl) ?_
  refine wp_X3_sort (by assumption) ?_
  refine wa_aload_n dX1_load_8 rfl ?_
  refine wa_callV0 (k' := kX3_size) (d' := 0) dX1_load_9 lmX1_24 kvX3_size (by first | assumption | rfl) (by rfl) (by decide) (by omega) (Nat.le_of_ble_eq_true rfl) ?_
  refine wp_X3_size (by assumption) ?_
  refine wa_callV2 (k' := kX3_begin) (d' := 1) dX1_load_12 lmX1_27 kvX3_begin (by first | assumption | rfl) (by rfl) (by decide) (by omega) (Nat.le_of_ble_eq_true rfl) ?_
  refine wp_X3_begin (by assumption) (by omega) ?_
  refine wa_aload_n dX1_load_15 rfl ?_
  refine wa_getR dX1_load_16 fgX1_10 (by first | assumption | rfl) (by rfl) ?_
  refine wa_aload_n dX1_load_19 rfl ?_
  refine wa_iconst (nI 0) dX1_load_20 (by decide) ?_
  refine wa_iconst (nI 0) dX1_load_21 (by decide) ?_
  refine wa_aload_n dX1_load_22 rfl ?_
  refine wa_callV0 (k' := kX3_size) (d' := 0) dX1_load_23 lmX1_24 kvX3_size (by first | assumption | rfl) (by rfl) (by decide) (by omega) (Nat.le_of_ble_eq_true rfl) ?_
  refine wp_X3_size (by assumption) ?_
  simp (disch := omega) only [bI_off, sI_off, hn]
  refine wa_callV4 (k' := kX3_take) (d' := 1) dX1_load_26 lmX1_31 kvX3_take (by first | assumption | rfl) (by rfl) (by decide) (by omega) (Nat.le_of_ble_eq_true rfl) ?_
  refine wp_X3_take (a := 0) (b := 0) (m := n) (by assumption) (by assumption) (by omega) (by omega) (by omega) ?_
  refine wa_iconst (nI 0) dX1_load_29 (by decide) ?_
  refine wa_istore_n dX1_load_30 (by decide) ?_
  simp (disch := omega) only [bI_off, sI_off, rb1e]
  have e0 := fun ν hν => loop ν hν 10 0 (by omega)
  simp only [fillF_0, bI_self] at e0
  refine e0 _ (hQ _ rfl ?_ ?_ ?_ ?_ ?_ ?_)
  · intro q q1 q2 q3 q4
    simp (disch := omega) only [bI_off, sI_off]
  · simp (disch := omega) only [bI_off, r1m, r1e]
  · simp (disch := omega) only [bI_off, r1m, r1e, r1n]
  · simp (disch := omega) only [bI_off, r1m, r1e, r1n, hn]
  · intro i hi
    simp (disch := omega) only [bI_off, rb1e]
    rw [pk_cpy_in (by omega) (by omega), pk_cpy_in (by omega) (by omega)]
    simp
  · intro p hp
    rw [rb1e, fillF, if_pos hp]
theorem wp_X1_unload {d t n : Nat} {μ : Mem} {Q : QM} (hd : 4 ≤ d) (ht : isS t) (ht9 : t ≠ 39) (hn : μ.1 39 2 = nI n) (hn64 : n ≤ 64)
    (hQ : ∀ μ' : Mem, μ'.2 = μ.2 → (∀ q, q ≠ t → q ≠ t + 1 → q ≠ t + 2 → μ'.1 q = μ.1 q) → μ'.1 t 0 = nI 1 → μ'.1 t 1 = μ.1 39 1 → μ'.1 t 2 = nI n → (∀ i, i < n → comP (μ.1 6) n (i / 8) = true → μ'.1 (t + 1) i = μ.1 40 i ∧ μ'.1 (t + 2) i = μ.1 41 i) → (∀ i, i < n → comP (μ.1 6) n (i / 8) = false → μ'.1 (t + 1) i = nI 0 ∧ μ'.1 (t + 2) i = nI 0) → Q none μ') : MW kX1_unload d [.ref 3, .ref t] μ Q := by
  have h39 := isS39
  obtain ⟨hs0t, hs1t, hs2t, hs3t⟩ := isS_sh ht
  have hmt := isS_mod ht
  refine MW_of (by decide) [some (.ref 3), some (.ref t), none] rfl (Nat.le_of_ble_eq_true rfl) ?_
  have loop : ∀ m i, i + m = n → ∀ ν : Mem, ν.2 = μ.2 → (∀ q, q ≠ t → q ≠ t + 1 → q ≠ t + 2 → ν.1 q = μ.1 q) → ν.1 t 0 = nI 1 → ν.1 t 1 = μ.1 39 1 → ν.1 t 2 = nI n → (∀ j, j < n → (i ≤ j ∨ comP (μ.1 6) n (j / 8) = true) → ν.1 (t + 1) j = μ.1 40 j ∧ ν.1 (t + 2) j = μ.1 41 j) → (∀ j, j < i → comP (μ.1 6) n (j / 8) = false → ν.1 (t + 1) j = nI 0 ∧ ν.1 (t + 2) j = nI 0) → WA kX1_unload d Q 37 [some (.ref 3), some (.ref t), some (.int (nI i))] [] ν := by
    intro m
    induction m with
    | zero =>
      intro i hi ν k1 k2 k3 k4 k5 k6 k7
      obtain rfl : i = n := by omega
      refine wa_iload_n dX1_unload_37 rfl ?_
      refine wa_aload_n dX1_unload_38 rfl ?_
      refine wa_getR dX1_unload_39 fgX1_10 (by first | assumption | rfl) (by rfl) ?_
      refine wa_callV0 (k' := kX3_size) (d' := 0) dX1_unload_42 lmX1_24 kvX3_size (by first | assumption | rfl) (by rfl) (by decide) (by omega) (Nat.le_of_ble_eq_true rfl) ?_
      refine wp_X3_size (by assumption) ?_
      refine wa_ic_geT 70 dX1_unload_45 (by decide) (by rw [k2 39 (by omega) (by omega) (by omega), hn]; exact le_nI (by omega) (by omega)) ?_
      refine wa_vret dX1_unload_70 rfl ?_
      exact hQ ν k1 k2 k3 k4 k5 (fun j hj hc => k6 j hj (Or.inr hc)) k7
    | succ m ih =>
      intro i hi ν k1 k2 k3 k4 k5 k6 k7
      have hn9 : ν.1 39 2 = nI n := by rw [k2 39 (by omega) (by omega) (by omega), hn]
      have h6 : ν.1 6 = μ.1 6 := k2 6 (by omega) (by omega) (by omega)
      have e := ih (i + 1) (by omega)
      refine wa_iload_n dX1_unload_37 rfl ?_
      refine wa_aload_n dX1_unload_38 rfl ?_
      refine wa_getR dX1_unload_39 fgX1_10 (by first | assumption | rfl) (by rfl) ?_
      refine wa_callV0 (k' := kX3_size) (d' := 0) dX1_unload_42 lmX1_24 kvX3_size (by first | assumption | rfl) (by rfl) (by decide) (by omega) (Nat.le_of_ble_eq_true rfl) ?_
      refine wp_X3_size (by assumption) ?_
      refine wa_ic_geF 70 dX1_unload_45 (by decide) (by rw [hn9]; exact nle_nI (by omega) (by omega)) ?_
      refine wa_aload_n dX1_unload_48 rfl ?_
      refine wa_iload_n dX1_unload_49 rfl ?_
      refine wa_bipush (nI 8) dX1_unload_50 (by decide) ?_
      refine wa_idiv dX1_unload_52 (by decide) ?_
      refine wa_callV1 (k' := kX1_comes) (d' := 3) dX1_unload_53 lmX1_42 kvX1_comes (by first | assumption | rfl) (by rfl) (by decide) (by omega) (Nat.le_of_ble_eq_true rfl) ?_
      refine wp_X1_comes (n := n) (j := i / 8) (pk_div (by omega) (by omega) (by omega)) (by omega) (by assumption) (by assumption) (by unfold spN; omega) (fun hc => ?_) (fun hc => ?_)
      · skip
        refine wa_if_neT 64 dX1_unload_56 (by decide) (by decide) ?_
        refine wa_iinc (nI 1) dX1_unload_64 rfl (by decide) (by decide) ?_
        refine wa_goto 37 dX1_unload_67 (by decide) ?_
        rw [h6] at hc
        simp only [nI_add]
        refine e ν k1 k2 k3 k4 k5 (fun j hj hh => ?_) (fun j hj hh => ?_)
        · by_cases hji : j = i
          · rw [hji]; exact k6 i (by omega) (Or.inl (by omega))
          · exact k6 j hj (hh.elim (fun h => Or.inl (by omega)) Or.inr)
        · by_cases hji : j = i
          · rw [hji, hc] at hh; cases hh
          · exact k7 j (by omega) hh
      · skip
        refine wa_if_neF 64 dX1_unload_56 (by decide) (by decide) ?_
        refine wa_aload_n dX1_unload_59 rfl ?_
        refine wa_iload_n dX1_unload_60 rfl ?_
        refine wa_callV1 (k' := kX3_forget) (d' := 0) dX1_unload_61 lmX1_46 kvX3_forget (by first | assumption | rfl) (by rfl) (by decide) (by omega) (Nat.le_of_ble_eq_true rfl) ?_
        refine wp_X3_forget (by assumption) (by omega) ?_
        refine wa_iinc (nI 1) dX1_unload_64 rfl (by decide) (by decide) ?_
        refine wa_goto 37 dX1_unload_67 (by decide) ?_
        rw [h6] at hc
        simp only [nI_add]
        refine e _ k1 (fun q q1 q2 q3 => ?_) ?_ ?_ ?_ (fun j hj hh => ?_) (fun j hj hh => ?_)
        · rw [sI_off (by omega), sI_off (by omega)]; exact k2 q q1 q2 q3
        · rw [sI_off (by omega), sI_off (by omega)]; exact k3
        · rw [sI_off (by omega), sI_off (by omega)]; exact k4
        · rw [sI_off (by omega), sI_off (by omega)]; exact k5
        · have hji : j ≠ i := fun q => by
            rw [q, hc] at hh
            rcases hh with h | h
            · omega
            · cases h
          have := k6 j hj (by rcases hh with h | h
                              · exact Or.inl (by omega)
                              · exact Or.inr h)
          rw [r1n (by omega), r1m hji, r1m hji, r1n (by omega)]
          exact this
        · by_cases hji : j = i
          · subst hji
            rw [r1n (by omega), r1e, r1e]
            exact ⟨rfl, rfl⟩
          · rw [r1n (by omega), r1m hji, r1m hji, r1n (by omega)]
            exact k7 j (by omega) hh
  refine wa_aload_n dX1_unload_0 rfl ?_
  refine wa_aload_n dX1_unload_1 rfl ?_
  refine wa_getR dX1_unload_2 fgX1_10 (by first | assumption | rfl) (by rfl) ?_
  refine wa_callV0 (k' := kX3_sort) (d' := 0) dX1_unload_5 lmX1_20 kvX3_sort (by first | assumption | rfl) (by rfl) (by decide) (by omega) (Nat.le_of_ble_eq_true rfl) ?_
  refine wp_X3_sort (by assumption) ?_
  refine wa_aload_n dX1_unload_8 rfl ?_
  refine wa_getR dX1_unload_9 fgX1_10 (by first | assumption | rfl) (by rfl) ?_
  refine wa_callV0 (k' := kX3_size) (d' := 0) dX1_unload_12 lmX1_24 kvX3_size (by first | assumption | rfl) (by rfl) (by decide) (by omega) (Nat.le_of_ble_eq_true rfl) ?_
  refine wp_X3_size (by assumption) ?_
  refine wa_callV2 (k' := kX3_begin) (d' := 1) dX1_unload_15 lmX1_27 kvX3_begin (by first | assumption | rfl) (by rfl) (by decide) (by omega) (Nat.le_of_ble_eq_true rfl) ?_
  refine wp_X3_begin (by assumption) (by omega) ?_
  refine wa_aload_n dX1_unload_18 rfl ?_
  refine wa_aload_n dX1_unload_19 rfl ?_
  refine wa_getR dX1_unload_20 fgX1_10 (by first | assumption | rfl) (by rfl) ?_
  refine wa_iconst (nI 0) dX1_unload_23 (by decide) ?_
  refine wa_iconst (nI 0) dX1_unload_24 (by decide) ?_
  refine wa_aload_n dX1_unload_25 rfl ?_
  refine wa_getR dX1_unload_26 fgX1_10 (by first | assumption | rfl) (by rfl) ?_
  refine wa_callV0 (k' := kX3_size) (d' := 0) dX1_unload_29 lmX1_24 kvX3_size (by first | assumption | rfl) (by rfl) (by decide) (by omega) (Nat.le_of_ble_eq_true rfl) ?_
  refine wp_X3_size (by assumption) ?_
  simp (disch := omega) only [bI_off, sI_off, hn]
  refine wa_callV4 (k' := kX3_take) (d' := 1) dX1_unload_32 lmX1_31 kvX3_take (by first | assumption | rfl) (by rfl) (by decide) (by omega) (Nat.le_of_ble_eq_true rfl) ?_
  refine wp_X3_take (a := 0) (b := 0) (m := n) (by assumption) (by assumption) (by omega) (by omega) (by omega) ?_
  refine wa_iconst (nI 0) dX1_unload_35 (by decide) ?_
  refine wa_istore_n dX1_unload_36 (by decide) ?_
  simp (disch := omega) only [bI_off, sI_off, rb1e]
  refine loop n 0 (by omega) _ rfl ?_ ?_ ?_ ?_ ?_ ?_
  · intro q q1 q2 q3
    simp (disch := omega) only [bI_off, sI_off]
  · simp (disch := omega) only [bI_off, r1m, r1e]
  · simp (disch := omega) only [bI_off, r1m, r1e, r1n]
  · simp (disch := omega) only [bI_off, r1m, r1e, r1n, hn]
  · intro i hi _
    simp (disch := omega) only [bI_off, rb1e]
    rw [pk_cpy_in (by omega) (by omega), pk_cpy_in (by omega) (by omega)]
    simp
  · intro i hi
    omega
