/-! ROWS of the class: numbers -/
theorem wp_X5_isWithin {d : Nat} {v s : Int64} {μ : Mem} {Q : QM} (h1 : ((-s).toInt ≤ v.toInt ∧ v.toInt ≤ s.toInt) → Q (some (.int (nI 1))) μ) (h0 : ¬ ((-s).toInt ≤ v.toInt ∧ v.toInt ≤ s.toInt) → Q (some (.int (nI 0))) μ) : MW kX5_isWithin d [.long v, .long s] μ Q := by
  refine MW_of (by decide) [some (.long v), none, some (.long s), none] rfl (Nat.le_of_ble_eq_true rfl) ?_
  refine wa_lload_n dX5_isWithin_0 rfl ?_
  refine wa_lload_n dX5_isWithin_1 rfl ?_
  refine wa_lneg dX5_isWithin_2 ?_
  refine wa_lc_lt 17 dX5_isWithin_3 dX5_isWithin_4 (by decide) (fun c3_1 => ?_) (fun c3_1 => ?_)
  · try simp (disch := omega) only [nI_toInt] at c3_1
    refine wa_iconst (nI 0) dX5_isWithin_17 (by decide) ?_
    refine wa_zret dX5_isWithin_18 rfl (by decide) ?_
    exact h0 (by omega)
  · try simp (disch := omega) only [nI_toInt] at c3_1
    refine wa_lload_n dX5_isWithin_7 rfl ?_
    refine wa_lload_n dX5_isWithin_8 rfl ?_
    refine wa_lc_gt 17 dX5_isWithin_9 dX5_isWithin_10 (by decide) (fun c9_2 => ?_) (fun c9_2 => ?_)
    · try simp (disch := omega) only [nI_toInt] at c9_2
      refine wa_iconst (nI 0) dX5_isWithin_17 (by decide) ?_
      refine wa_zret dX5_isWithin_18 rfl (by decide) ?_
      exact h0 (by omega)
    · try simp (disch := omega) only [nI_toInt] at c9_2
      refine wa_iconst (nI 1) dX5_isWithin_13 (by decide) ?_
      refine wa_goto 18 dX5_isWithin_14 (by decide) ?_
      refine wa_zret dX5_isWithin_18 rfl (by decide) ?_
      exact h1 (by omega)
theorem wp_X2_size {d t : Nat} {μ : Mem} {Q : QM} (ht : isR t) (hQ : Q (some (.int (μ.1 t 0))) μ) : MW kX2_size d [.ref t] μ Q := by
  obtain ⟨hr0t, hr1t, hr2t, hr3t, hr4t⟩ := isR_sh ht
  have hmt := isR_mod ht
  refine MW_of (by decide) [some (.ref t)] rfl (Nat.le_of_ble_eq_true rfl) ?_
  refine wa_aload_n dX2_size_0 rfl ?_
  refine wa_getI dX2_size_1 fgX2_25 (by first | assumption | rfl) (by rfl) ?_
  refine wa_iret dX2_size_4 rfl ?_
  exact hQ
theorem wp_X2_valueAt {d t j : Nat} {i : Int32} {μ : Mem} {Q : QM} (ht : isR t) (hi : i = nI j) (hj : j < 64) (hQ : Q (some (.long (μ.2 (t + 1) j))) μ) : MW kX2_valueAt d [.ref t, .int i] μ Q := by
  obtain ⟨hr0t, hr1t, hr2t, hr3t, hr4t⟩ := isR_sh ht
  have hmt := isR_mod ht
  refine MW_of (by decide) [some (.ref t), some (.int i)] rfl (Nat.le_of_ble_eq_true rfl) ?_
  refine wa_aload_n dX2_valueAt_0 rfl ?_
  refine wa_getR dX2_valueAt_1 fgX2_9 (by first | assumption | rfl) (by rfl) ?_
  refine wa_iload_n dX2_valueAt_4 rfl ?_
  refine wa_lald _ dX2_valueAt_5 (by first | assumption | rfl) (by first | with_reducible rfl | with_reducible assumption | with_reducible exact ix_ma _ _ _ | with_reducible exact ix_maa _ _ _ _ | with_reducible exact ix_a _ _ | with_reducible exact ix_mama _ _ _ _ _) (by omega) ?_
  refine wa_lret dX2_valueAt_6 rfl ?_
  exact hQ
/-- g at places below m -/
def frF (g old : Nat → Int64) (m : Nat) : Nat → Int64 := fun b => if b < m then g b else old b
theorem frF_0 (g old : Nat → Int64) : frF g old 0 = old := by
  funext b
  simp [frF]
theorem frF_s (g old : Nat → Int64) (m : Nat) : vp_updL (frF g old m) m (g m) = frF g old (m + 1) := by
  funext b
  by_cases h : b = m
  · subst h
    simp [vp_updL, frF]
  · simp only [vp_updL, frF, h, if_false]
    congr 1
    exact propext ⟨fun q => by omega, fun q => by omega⟩
theorem wp_X2_take {d t u n : Nat} {μ : Mem} {Q : QM} (ht : isR t) (hu : isS u) (hd : 1 ≤ d) (hn : μ.1 u 2 = nI n) (hn64 : n ≤ 64) (hQ : Q none (bL (sI μ t 0 (nI n)) (t + 1) (frF (fun i => (μ.1 (u + 1) i).toInt64) (μ.2 (t + 1)) n))) : MW kX2_take d [.ref t, .ref u] μ Q := by
  obtain ⟨hr0t, hr1t, hr2t, hr3t, hr4t⟩ := isR_sh ht
  have hmt := isR_mod ht
  obtain ⟨hs0u, hs1u, hs2u, hs3u⟩ := isS_sh hu
  have hmu := isS_mod hu
  refine MW_of (by decide) [some (.ref t), some (.ref u), none] rfl (Nat.le_of_ble_eq_true rfl) ?_
  have loop : ∀ m i, i + m = n → WA kX2_take d Q 10 [some (.ref t), some (.ref u), some (.int (nI i))] [] (bL (sI μ t 0 (nI n)) (t + 1) (frF (fun i => (μ.1 (u + 1) i).toInt64) (μ.2 (t + 1)) i)) := by
    intro m
    induction m with
    | zero =>
      intro i hi
      obtain rfl : i = n := by omega
      refine wa_iload_n dX2_take_10 rfl ?_
      refine wa_aload_n dX2_take_11 rfl ?_
      refine wa_getI dX2_take_12 fgX2_25 (by first | assumption | rfl) (by rfl) ?_
      refine wa_ic_geT 36 dX2_take_15 (by decide) (by rw [rb2l, r1e]; exact le_nI (by omega) (by omega)) ?_
      refine wa_vret dX2_take_36 rfl ?_
      exact hQ
    | succ m ih =>
      intro i hi
      have e := ih (i + 1) (by omega)
      refine wa_iload_n dX2_take_10 rfl ?_
      refine wa_aload_n dX2_take_11 rfl ?_
      refine wa_getI dX2_take_12 fgX2_25 (by first | assumption | rfl) (by rfl) ?_
      refine wa_ic_geF 36 dX2_take_15 (by decide) (by rw [rb2l, r1e]; exact nle_nI (by omega) (by omega)) ?_
      refine wa_aload_n dX2_take_18 rfl ?_
      refine wa_getR dX2_take_19 fgX2_9 (by first | assumption | rfl) (by rfl) ?_
      refine wa_iload_n dX2_take_22 rfl ?_
      refine wa_aload_n dX2_take_23 rfl ?_
      refine wa_iload_n dX2_take_24 rfl ?_
      refine wa_callV1 (k' := kX3_valueAt) (d' := 0) dX2_take_25 lmX2_34 kvX3_valueAt (by first | assumption | rfl) (by rfl) (by decide) (by omega) (Nat.le_of_ble_eq_true rfl) ?_
      refine wp_X3_valueAt (by assumption) (by first | with_reducible rfl | assumption) (by omega) ?_
      refine wa_i2l dX2_take_28 ?_
      refine wa_last _ dX2_take_29 (by first | assumption | rfl) (by first | with_reducible rfl | with_reducible assumption | with_reducible exact ix_ma _ _ _ | with_reducible exact ix_maa _ _ _ _ | with_reducible exact ix_a _ _ | with_reducible exact ix_mama _ _ _ _ _) (by omega) ?_
      refine wa_iinc (nI 1) dX2_take_30 rfl (by decide) (by decide) ?_
      refine wa_goto 10 dX2_take_33 (by decide) ?_
      rw [sLb, rb2l, r1n (by omega)]
      have a1 := frF_s (fun i => (μ.1 (u + 1) i).toInt64) (μ.2 (t + 1)) i
      rw [a1]
      simp only [nI_add]
      exact e
  refine wa_aload_n dX2_take_0 rfl ?_
  refine wa_aload_n dX2_take_1 rfl ?_
  refine wa_callV0 (k' := kX3_size) (d' := 0) dX2_take_2 lmX2_29 kvX3_size (by first | assumption | rfl) (by rfl) (by decide) (by omega) (Nat.le_of_ble_eq_true rfl) ?_
  refine wp_X3_size (by assumption) ?_
  refine wa_putI dX2_take_5 fgX2_25 fw2_0 (by first | assumption | rfl) (by rfl) ?_
  refine wa_iconst (nI 0) dX2_take_8 (by decide) ?_
  refine wa_istore_n dX2_take_9 (by decide) ?_
  have e0 := loop n 0 (by omega)
  rw [frF_0, ← r1l (μ := μ) (t := t) (i := 0) (x := nI n), bL_self] at e0
  rw [hn]
  exact e0
def sumL (v : Nat → Int64) : Nat → Int64
  | 0 => 0
  | n + 1 => sumL v n + v n
theorem wp_X2_sum {d t n : Nat} {μ : Mem} {Q : QM} (ht : isR t) (hn : μ.1 t 0 = nI n) (hn64 : n ≤ 64) (hQ : Q (some (.long (sumL (μ.2 (t + 1)) n))) μ) : MW kX2_sum d [.ref t] μ Q := by
  obtain ⟨hr0t, hr1t, hr2t, hr3t, hr4t⟩ := isR_sh ht
  have hmt := isR_mod ht
  refine MW_of (by decide) [some (.ref t), none, none, none] rfl (Nat.le_of_ble_eq_true rfl) ?_
  have loop : ∀ m i, i + m = n → WA kX2_sum d Q 4 [some (.ref t), some (.long (sumL (μ.2 (t + 1)) i)), none, some (.int (nI i))] [] μ := by
    intro m
    induction m with
    | zero =>
      intro i hi
      obtain rfl : i = n := by omega
      refine wa_iload_n dX2_sum_4 rfl ?_
      refine wa_aload_n dX2_sum_5 rfl ?_
      refine wa_getI dX2_sum_6 fgX2_25 (by first | assumption | rfl) (by rfl) ?_
      refine wa_ic_geT 27 dX2_sum_9 (by decide) (by rw [hn]; exact le_nI (by omega) (by omega)) ?_
      refine wa_lload_n dX2_sum_27 rfl ?_
      refine wa_lret dX2_sum_28 rfl ?_
      exact hQ
    | succ m ih =>
      intro i hi
      have e := ih (i + 1) (by omega)
      refine wa_iload_n dX2_sum_4 rfl ?_
      refine wa_aload_n dX2_sum_5 rfl ?_
      refine wa_getI dX2_sum_6 fgX2_25 (by first | assumption | rfl) (by rfl) ?_
      refine wa_ic_geF 27 dX2_sum_9 (by decide) (by rw [hn]; exact nle_nI (by omega) (by omega)) ?_
      refine wa_lload_n dX2_sum_12 rfl ?_
      refine wa_aload_n dX2_sum_13 rfl ?_
      refine wa_getR dX2_sum_14 fgX2_9 (by first | assumption | rfl) (by rfl) ?_
      refine wa_iload_n dX2_sum_17 rfl ?_
      refine wa_lald _ dX2_sum_18 (by first | assumption | rfl) (by first | with_reducible rfl | with_reducible assumption | with_reducible exact ix_ma _ _ _ | with_reducible exact ix_maa _ _ _ _ | with_reducible exact ix_a _ _ | with_reducible exact ix_mama _ _ _ _ _) (by omega) ?_
      refine wa_ladd dX2_sum_19 ?_
      refine wa_lstore_n dX2_sum_20 (by decide) ?_
      refine wa_iinc (nI 1) dX2_sum_21 rfl (by decide) (by decide) ?_
      refine wa_goto 4 dX2_sum_24 (by decide) ?_
      simp only [nI_add]; exact e
  refine wa_lconst (0) dX2_sum_0 (by decide) ?_
  refine wa_lstore_n dX2_sum_1 (by decide) ?_
  refine wa_iconst (nI 0) dX2_sum_2 (by decide) ?_
  refine wa_istore_n dX2_sum_3 (by decide) ?_
  exact loop n 0 (by omega)
/-! what turn() makes -/
def gLev (v : Nat → Int64) (n i : Nat) : Int64 := (nI n).toInt64 * v i - sumL v n
theorem wp_X2_makeLevel {d t n : Nat} {μ : Mem} {Q : QM} (ht : isR t) (hd : 1 ≤ d) (hn : μ.1 t 0 = nI n) (hn64 : n ≤ 64) (hQ : Q none (bL μ (t + 2) (frF (gLev (μ.2 (t + 1)) n) (μ.2 (t + 2)) n))) : MW kX2_makeLevel d [.ref t] μ Q := by
  obtain ⟨hr0t, hr1t, hr2t, hr3t, hr4t⟩ := isR_sh ht
  have hmt := isR_mod ht
  refine MW_of (by decide) [some (.ref t), none, none, none] rfl (Nat.le_of_ble_eq_true rfl) ?_
  have loop : ∀ m i, i + m = n → WA kX2_makeLevel d Q 7 [some (.ref t), some (.long (sumL (μ.2 (t + 1)) n)), none, some (.int (nI i))] [] (bL μ (t + 2) (frF (gLev (μ.2 (t + 1)) n) (μ.2 (t + 2)) i)) := by
    intro m
    induction m with
    | zero =>
      intro i hi
      obtain rfl : i = n := by omega
      refine wa_iload_n dX2_makeLevel_7 rfl ?_
      refine wa_aload_n dX2_makeLevel_8 rfl ?_
      refine wa_getI dX2_makeLevel_9 fgX2_25 (by first | assumption | rfl) (by rfl) ?_
      refine wa_ic_geT 41 dX2_makeLevel_12 (by decide) (by rw [rb2l, hn]; exact le_nI (by omega) (by omega)) ?_
      refine wa_vret dX2_makeLevel_41 rfl ?_
      exact hQ
    | succ m ih =>
      intro i hi
      have e := ih (i + 1) (by omega)
      refine wa_iload_n dX2_makeLevel_7 rfl ?_
      refine wa_aload_n dX2_makeLevel_8 rfl ?_
      refine wa_getI dX2_makeLevel_9 fgX2_25 (by first | assumption | rfl) (by rfl) ?_
      refine wa_ic_geF 41 dX2_makeLevel_12 (by decide) (by rw [rb2l, hn]; exact nle_nI (by omega) (by omega)) ?_
      refine wa_aload_n dX2_makeLevel_15 rfl ?_
      refine wa_getR dX2_makeLevel_16 fgX2_15 (by first | assumption | rfl) (by rfl) ?_
      refine wa_iload_n dX2_makeLevel_19 rfl ?_
      refine wa_aload_n dX2_makeLevel_20 rfl ?_
      refine wa_getI dX2_makeLevel_21 fgX2_25 (by first | assumption | rfl) (by rfl) ?_
      refine wa_i2l dX2_makeLevel_24 ?_
      refine wa_aload_n dX2_makeLevel_25 rfl ?_
      refine wa_getR dX2_makeLevel_26 fgX2_9 (by first | assumption | rfl) (by rfl) ?_
      refine wa_iload_n dX2_makeLevel_29 rfl ?_
      refine wa_lald _ dX2_makeLevel_30 (by first | assumption | rfl) (by first | with_reducible rfl | with_reducible assumption | with_reducible exact ix_ma _ _ _ | with_reducible exact ix_maa _ _ _ _ | with_reducible exact ix_a _ _ | with_reducible exact ix_mama _ _ _ _ _) (by omega) ?_
      refine wa_lmul dX2_makeLevel_31 ?_
      refine wa_lload_n dX2_makeLevel_32 rfl ?_
      refine wa_lsub dX2_makeLevel_33 ?_
      refine wa_last _ dX2_makeLevel_34 (by first | assumption | rfl) (by first | with_reducible rfl | with_reducible assumption | with_reducible exact ix_ma _ _ _ | with_reducible exact ix_maa _ _ _ _ | with_reducible exact ix_a _ _ | with_reducible exact ix_mama _ _ _ _ _) (by omega) ?_
      refine wa_iinc (nI 1) dX2_makeLevel_35 rfl (by decide) (by decide) ?_
      refine wa_goto 7 dX2_makeLevel_38 (by decide) ?_
      rw [sLb, rb2l, hn, bL_off (by omega)]
      have a1 := frF_s (gLev (μ.2 (t + 1)) n) (μ.2 (t + 2)) i
      unfold gLev at a1
      unfold gLev
      rw [a1]
      simp only [nI_add]
      exact e
  refine wa_aload_n dX2_makeLevel_0 rfl ?_
  refine wa_callV0 (k' := kX2_sum) (d' := 0) dX2_makeLevel_1 lmX2_63 kvX2_sum (by first | assumption | rfl) (by rfl) (by decide) (by omega) (Nat.le_of_ble_eq_true rfl) ?_
  refine wp_X2_sum (by assumption) (by assumption) (by assumption) ?_
  refine wa_lstore_n dX2_makeLevel_4 (by decide) ?_
  refine wa_iconst (nI 0) dX2_makeLevel_5 (by decide) ?_
  refine wa_istore_n dX2_makeLevel_6 (by decide) ?_
  have e0 := loop n 0 (by omega)
  rw [frF_0, bL_self] at e0
  exact e0
def slpS (v : Nat → Int64) (N : Int64) : Nat → Int64
  | 0 => 0
  | k + 1 => slpS v N k + ((nI 2 * nI k).toInt64 - N + 1) * v k
def gFlat (v : Nat → Int64) (n i : Nat) : Int64 := (nI n).toInt64 * ((nI n).toInt64 * (nI n).toInt64 - 1) * v i - ((nI n).toInt64 * (nI n).toInt64 - 1) * sumL v n - 3 * ((nI 2 * nI i).toInt64 - (nI n).toInt64 + 1) * slpS v (nI n).toInt64 n
theorem wp_X2_makeFlat {d t n : Nat} {μ : Mem} {Q : QM} (ht : isR t) (hd : 1 ≤ d) (hn : μ.1 t 0 = nI n) (hn64 : n ≤ 64) (hQ : Q none (bL μ (t + 2) (frF (gFlat (μ.2 (t + 1)) n) (μ.2 (t + 2)) n))) : MW kX2_makeFlat d [.ref t] μ Q := by
  obtain ⟨hr0t, hr1t, hr2t, hr3t, hr4t⟩ := isR_sh ht
  have hmt := isR_mod ht
  refine MW_of (by decide) [some (.ref t), none, none, none, none, none, none, none, none, none] rfl (Nat.le_of_ble_eq_true rfl) ?_
  have loop2 : ∀ m i, i + m = n → WA kX2_makeFlat d Q 64 [some (.ref t), some (.long (nI n).toInt64), none, some (.long ((nI n).toInt64 * (nI n).toInt64 - 1)), none, some (.long (sumL (μ.2 (t + 1)) n)), none, some (.long (slpS (μ.2 (t + 1)) (nI n).toInt64 n)), none, some (.int (nI i))] [] (bL μ (t + 2) (frF (gFlat (μ.2 (t + 1)) n) (μ.2 (t + 2)) i)) := by
    intro m
    induction m with
    | zero =>
      intro i hi
      obtain rfl : i = n := by omega
      refine wa_iload dX2_makeFlat_64 rfl ?_
      refine wa_aload_n dX2_makeFlat_66 rfl ?_
      refine wa_getI dX2_makeFlat_67 fgX2_25 (by first | assumption | rfl) (by rfl) ?_
      refine wa_ic_geT 119 dX2_makeFlat_70 (by decide) (by rw [rb2l, hn]; exact le_nI (by omega) (by omega)) ?_
      refine wa_vret dX2_makeFlat_119 rfl ?_
      exact hQ
    | succ m ih =>
      intro i hi
      have e := ih (i + 1) (by omega)
      refine wa_iload dX2_makeFlat_64 rfl ?_
      refine wa_aload_n dX2_makeFlat_66 rfl ?_
      refine wa_getI dX2_makeFlat_67 fgX2_25 (by first | assumption | rfl) (by rfl) ?_
      refine wa_ic_geF 119 dX2_makeFlat_70 (by decide) (by rw [rb2l, hn]; exact nle_nI (by omega) (by omega)) ?_
      refine wa_aload_n dX2_makeFlat_73 rfl ?_
      refine wa_getR dX2_makeFlat_74 fgX2_15 (by first | assumption | rfl) (by rfl) ?_
      refine wa_iload dX2_makeFlat_77 rfl ?_
      refine wa_lload_n dX2_makeFlat_79 rfl ?_
      refine wa_lload_n dX2_makeFlat_80 rfl ?_
      refine wa_lmul dX2_makeFlat_81 ?_
      refine wa_aload_n dX2_makeFlat_82 rfl ?_
      refine wa_getR dX2_makeFlat_83 fgX2_9 (by first | assumption | rfl) (by rfl) ?_
      refine wa_iload dX2_makeFlat_86 rfl ?_
      refine wa_lald _ dX2_makeFlat_88 (by first | assumption | rfl) (by first | with_reducible rfl | with_reducible assumption | with_reducible exact ix_ma _ _ _ | with_reducible exact ix_maa _ _ _ _ | with_reducible exact ix_a _ _ | with_reducible exact ix_mama _ _ _ _ _) (by omega) ?_
      refine wa_lmul dX2_makeFlat_89 ?_
      refine wa_lload_n dX2_makeFlat_90 rfl ?_
      refine wa_lload dX2_makeFlat_91 rfl ?_
      refine wa_lmul dX2_makeFlat_93 ?_
      refine wa_lsub dX2_makeFlat_94 ?_
      refine wa_ldc2 (3) dX2_makeFlat_95 lcX2_67 ?_
      refine wa_iconst (nI 2) dX2_makeFlat_98 (by decide) ?_
      refine wa_iload dX2_makeFlat_99 rfl ?_
      refine wa_imul dX2_makeFlat_101 ?_
      refine wa_i2l dX2_makeFlat_102 ?_
      refine wa_lload_n dX2_makeFlat_103 rfl ?_
      refine wa_lsub dX2_makeFlat_104 ?_
      refine wa_lconst (1) dX2_makeFlat_105 (by decide) ?_
      refine wa_ladd dX2_makeFlat_106 ?_
      refine wa_lmul dX2_makeFlat_107 ?_
      refine wa_lload dX2_makeFlat_108 rfl ?_
      refine wa_lmul dX2_makeFlat_110 ?_
      refine wa_lsub dX2_makeFlat_111 ?_
      refine wa_last _ dX2_makeFlat_112 (by first | assumption | rfl) (by first | with_reducible rfl | with_reducible assumption | with_reducible exact ix_ma _ _ _ | with_reducible exact ix_maa _ _ _ _ | with_reducible exact ix_a _ _ | with_reducible exact ix_mama _ _ _ _ _) (by omega) ?_
      refine wa_iinc (nI 1) dX2_makeFlat_113 rfl (by decide) (by decide) ?_
      refine wa_goto 64 dX2_makeFlat_116 (by decide) ?_
      rw [sLb, bL_off (by omega)]
      have a1 := frF_s (gFlat (μ.2 (t + 1)) n) (μ.2 (t + 2)) i
      unfold gFlat at a1
      unfold gFlat
      rw [a1]
      simp only [nI_add]
      exact e
  have loop1 : ∀ m i, i + m = n → WA kX2_makeFlat d Q 24 [some (.ref t), some (.long (nI n).toInt64), none, some (.long ((nI n).toInt64 * (nI n).toInt64 - 1)), none, some (.long (sumL (μ.2 (t + 1)) n)), none, some (.long (slpS (μ.2 (t + 1)) (nI n).toInt64 i)), none, some (.int (nI i))] [] μ := by
    intro m
    induction m with
    | zero =>
      intro i hi
      obtain rfl : i = n := by omega
      refine wa_iload dX2_makeFlat_24 rfl ?_
      refine wa_aload_n dX2_makeFlat_26 rfl ?_
      refine wa_getI dX2_makeFlat_27 fgX2_25 (by first | assumption | rfl) (by rfl) ?_
      refine wa_ic_geT 61 dX2_makeFlat_30 (by decide) (by rw [hn]; exact le_nI (by omega) (by omega)) ?_
      refine wa_iconst (nI 0) dX2_makeFlat_61 (by decide) ?_
      refine wa_istore dX2_makeFlat_62 (by decide) ?_
      have e0 := loop2 i 0 (by omega)
      rw [frF_0, bL_self] at e0
      exact e0
    | succ m ih =>
      intro i hi
      have e := ih (i + 1) (by omega)
      refine wa_iload dX2_makeFlat_24 rfl ?_
      refine wa_aload_n dX2_makeFlat_26 rfl ?_
      refine wa_getI dX2_makeFlat_27 fgX2_25 (by first | assumption | rfl) (by rfl) ?_
      refine wa_ic_geF 61 dX2_makeFlat_30 (by decide) (by rw [hn]; exact nle_nI (by omega) (by omega)) ?_
      refine wa_lload dX2_makeFlat_33 rfl ?_
      refine wa_iconst (nI 2) dX2_makeFlat_35 (by decide) ?_
      refine wa_iload dX2_makeFlat_36 rfl ?_
      refine wa_imul dX2_makeFlat_38 ?_
      refine wa_i2l dX2_makeFlat_39 ?_
      refine wa_lload_n dX2_makeFlat_40 rfl ?_
      refine wa_lsub dX2_makeFlat_41 ?_
      refine wa_lconst (1) dX2_makeFlat_42 (by decide) ?_
      refine wa_ladd dX2_makeFlat_43 ?_
      refine wa_aload_n dX2_makeFlat_44 rfl ?_
      refine wa_getR dX2_makeFlat_45 fgX2_9 (by first | assumption | rfl) (by rfl) ?_
      refine wa_iload dX2_makeFlat_48 rfl ?_
      refine wa_lald _ dX2_makeFlat_50 (by first | assumption | rfl) (by first | with_reducible rfl | with_reducible assumption | with_reducible exact ix_ma _ _ _ | with_reducible exact ix_maa _ _ _ _ | with_reducible exact ix_a _ _ | with_reducible exact ix_mama _ _ _ _ _) (by omega) ?_
      refine wa_lmul dX2_makeFlat_51 ?_
      refine wa_ladd dX2_makeFlat_52 ?_
      refine wa_lstore dX2_makeFlat_53 (by decide) ?_
      refine wa_iinc (nI 1) dX2_makeFlat_55 rfl (by decide) (by decide) ?_
      refine wa_goto 24 dX2_makeFlat_58 (by decide) ?_
      rw [slpS] at e; simp only [nI_add]; exact e
  refine wa_aload_n dX2_makeFlat_0 rfl ?_
  refine wa_getI dX2_makeFlat_1 fgX2_25 (by first | assumption | rfl) (by rfl) ?_
  refine wa_i2l dX2_makeFlat_4 ?_
  refine wa_lstore_n dX2_makeFlat_5 (by decide) ?_
  refine wa_lload_n dX2_makeFlat_6 rfl ?_
  refine wa_lload_n dX2_makeFlat_7 rfl ?_
  refine wa_lmul dX2_makeFlat_8 ?_
  refine wa_lconst (1) dX2_makeFlat_9 (by decide) ?_
  refine wa_lsub dX2_makeFlat_10 ?_
  refine wa_lstore_n dX2_makeFlat_11 (by decide) ?_
  refine wa_aload_n dX2_makeFlat_12 rfl ?_
  refine wa_callV0 (k' := kX2_sum) (d' := 0) dX2_makeFlat_13 lmX2_63 kvX2_sum (by first | assumption | rfl) (by rfl) (by decide) (by omega) (Nat.le_of_ble_eq_true rfl) ?_
  refine wp_X2_sum (by assumption) (by assumption) (by assumption) ?_
  refine wa_lstore dX2_makeFlat_16 (by decide) ?_
  refine wa_lconst (0) dX2_makeFlat_18 (by decide) ?_
  refine wa_lstore dX2_makeFlat_19 (by decide) ?_
  refine wa_iconst (nI 0) dX2_makeFlat_21 (by decide) ?_
  refine wa_istore dX2_makeFlat_22 (by decide) ?_
  rw [hn]; exact loop1 n 0 (by omega)
def oncS (v : Nat → Int64) : Nat → Int64
  | 0 => 0
  | i + 1 => oncS v i + v i
def twcS (v : Nat → Int64) : Nat → Int64
  | 0 => 0
  | i + 1 => twcS v i + oncS v (i + 1)
def gTwi (v : Nat → Int64) (n i : Nat) : Int64 := (nI n - nI 1).toInt64 * twcS v i - (nI i).toInt64 * twcS v (n - 1)
theorem wp_X2_makeTwice {d t n : Nat} {μ : Mem} {Q : QM} (ht : isR t) (hn : μ.1 t 0 = nI n) (hn64 : n ≤ 64) (hn2 : 2 ≤ n) (hQ : Q none (bL μ (t + 2) (frF (gTwi (μ.2 (t + 1)) n) (μ.2 (t + 2)) n))) : MW kX2_makeTwice d [.ref t] μ Q := by
  obtain ⟨hr0t, hr1t, hr2t, hr3t, hr4t⟩ := isR_sh ht
  have hmt := isR_mod ht
  refine MW_of (by decide) [some (.ref t), none, none, none, none, none, none, none] rfl (Nat.le_of_ble_eq_true rfl) ?_
  have loop2 : ∀ m i, i + m = n → WA kX2_makeTwice d Q 71 [some (.ref t), none, none, none, none, some (.long (twcS (μ.2 (t + 1)) (n - 1))), none, some (.int (nI i))] [] (bL μ (t + 2) (frF (gTwi (μ.2 (t + 1)) n) (frF (twcS (μ.2 (t + 1))) (μ.2 (t + 2)) n) i)) := by
    intro m
    induction m with
    | zero =>
      intro i hi
      obtain rfl : i = n := by omega
      refine wa_iload dX2_makeTwice_71 rfl ?_
      refine wa_aload_n dX2_makeTwice_73 rfl ?_
      refine wa_getI dX2_makeTwice_74 fgX2_25 (by first | assumption | rfl) (by rfl) ?_
      refine wa_ic_geT 115 dX2_makeTwice_77 (by decide) (by rw [rb2l, hn]; exact le_nI (by omega) (by omega)) ?_
      refine wa_vret dX2_makeTwice_115 rfl ?_
      have a1 : frF (gTwi (μ.2 (t + 1)) i) (frF (twcS (μ.2 (t + 1))) (μ.2 (t + 2)) i) i = frF (gTwi (μ.2 (t + 1)) i) (μ.2 (t + 2)) i := by
        funext b
        simp only [frF]
        by_cases hb : b < i <;> simp [hb]
      rw [a1]
      exact hQ
    | succ m ih =>
      intro i hi
      have e := ih (i + 1) (by omega)
      refine wa_iload dX2_makeTwice_71 rfl ?_
      refine wa_aload_n dX2_makeTwice_73 rfl ?_
      refine wa_getI dX2_makeTwice_74 fgX2_25 (by first | assumption | rfl) (by rfl) ?_
      refine wa_ic_geF 115 dX2_makeTwice_77 (by decide) (by rw [rb2l, hn]; exact nle_nI (by omega) (by omega)) ?_
      refine wa_aload_n dX2_makeTwice_80 rfl ?_
      refine wa_getR dX2_makeTwice_81 fgX2_15 (by first | assumption | rfl) (by rfl) ?_
      refine wa_iload dX2_makeTwice_84 rfl ?_
      refine wa_aload_n dX2_makeTwice_86 rfl ?_
      refine wa_getI dX2_makeTwice_87 fgX2_25 (by first | assumption | rfl) (by rfl) ?_
      refine wa_iconst (nI 1) dX2_makeTwice_90 (by decide) ?_
      refine wa_isub dX2_makeTwice_91 ?_
      refine wa_i2l dX2_makeTwice_92 ?_
      refine wa_aload_n dX2_makeTwice_93 rfl ?_
      refine wa_getR dX2_makeTwice_94 fgX2_15 (by first | assumption | rfl) (by rfl) ?_
      refine wa_iload dX2_makeTwice_97 rfl ?_
      refine wa_lald _ dX2_makeTwice_99 (by first | assumption | rfl) (by first | with_reducible rfl | with_reducible assumption | with_reducible exact ix_ma _ _ _ | with_reducible exact ix_maa _ _ _ _ | with_reducible exact ix_a _ _ | with_reducible exact ix_mama _ _ _ _ _) (by omega) ?_
      refine wa_lmul dX2_makeTwice_100 ?_
      refine wa_iload dX2_makeTwice_101 rfl ?_
      refine wa_i2l dX2_makeTwice_103 ?_
      refine wa_lload dX2_makeTwice_104 rfl ?_
      refine wa_lmul dX2_makeTwice_106 ?_
      refine wa_lsub dX2_makeTwice_107 ?_
      refine wa_last _ dX2_makeTwice_108 (by first | assumption | rfl) (by first | with_reducible rfl | with_reducible assumption | with_reducible exact ix_ma _ _ _ | with_reducible exact ix_maa _ _ _ _ | with_reducible exact ix_a _ _ | with_reducible exact ix_mama _ _ _ _ _) (by omega) ?_
      refine wa_iinc (nI 1) dX2_makeTwice_109 rfl (by decide) (by decide) ?_
      refine wa_goto 71 dX2_makeTwice_112 (by decide) ?_
      rw [sLb, rb2l, hn, rb2e]
      have a0 : frF (gTwi (μ.2 (t + 1)) n) (frF (twcS (μ.2 (t + 1))) (μ.2 (t + 2)) n) i i = twcS (μ.2 (t + 1)) i := by
        simp only [frF]
        rw [if_neg (by omega), if_pos (by omega)]
      have a1 := frF_s (gTwi (μ.2 (t + 1)) n) (frF (twcS (μ.2 (t + 1))) (μ.2 (t + 2)) n) i
      rw [a0]
      unfold gTwi at a1
      unfold gTwi
      rw [a1]
      simp only [nI_add]
      exact e
  have loop1 : ∀ m i, i + m = n → WA kX2_makeTwice d Q 7 [some (.ref t), some (.long (oncS (μ.2 (t + 1)) i)), none, some (.long (twcS (μ.2 (t + 1)) i)), none, some (.int (nI i)), none, none] [] (bL μ (t + 2) (frF (twcS (μ.2 (t + 1))) (μ.2 (t + 2)) i)) := by
    intro m
    induction m with
    | zero =>
      intro i hi
      obtain rfl : i = n := by omega
      refine wa_iload dX2_makeTwice_7 rfl ?_
      refine wa_aload_n dX2_makeTwice_9 rfl ?_
      refine wa_getI dX2_makeTwice_10 fgX2_25 (by first | assumption | rfl) (by rfl) ?_
      refine wa_ic_geT 44 dX2_makeTwice_13 (by decide) (by rw [rb2l, hn]; exact le_nI (by omega) (by omega)) ?_
      refine wa_aload_n dX2_makeTwice_44 rfl ?_
      refine wa_getI dX2_makeTwice_45 fgX2_25 (by first | assumption | rfl) (by rfl) ?_
      refine wa_if_leF 65 dX2_makeTwice_48 (by decide) (by rw [rb2l, hn, nI_toInt (by omega)]; omega) ?_
      refine wa_aload_n dX2_makeTwice_51 rfl ?_
      refine wa_getR dX2_makeTwice_52 fgX2_15 (by first | assumption | rfl) (by rfl) ?_
      refine wa_aload_n dX2_makeTwice_55 rfl ?_
      refine wa_getI dX2_makeTwice_56 fgX2_25 (by first | assumption | rfl) (by rfl) ?_
      refine wa_iconst (nI 1) dX2_makeTwice_59 (by decide) ?_
      refine wa_isub dX2_makeTwice_60 ?_
      refine wa_lald _ dX2_makeTwice_61 (by first | assumption | rfl) (by rw [rb2l, hn]; exact pk_sub (a := i) (b := 1) (by omega)) (by omega) ?_
      refine wa_goto 66 dX2_makeTwice_62 (by decide) ?_
      refine wa_lstore dX2_makeTwice_66 (by decide) ?_
      refine wa_iconst (nI 0) dX2_makeTwice_68 (by decide) ?_
      refine wa_istore dX2_makeTwice_69 (by decide) ?_
      have e0 := loop2 i 0 (by omega)
      rw [frF_0] at e0
      rw [rb2e, show frF (twcS (μ.2 (t + 1))) (μ.2 (t + 2)) i (i - 1) = twcS (μ.2 (t + 1)) (i - 1) by simp only [frF]; rw [if_pos (by omega)]]
      refine WA.frg [true, false, false, false, false, true, true, true] ?_
      exact e0
    | succ m ih =>
      intro i hi
      have e := ih (i + 1) (by omega)
      refine wa_iload dX2_makeTwice_7 rfl ?_
      refine wa_aload_n dX2_makeTwice_9 rfl ?_
      refine wa_getI dX2_makeTwice_10 fgX2_25 (by first | assumption | rfl) (by rfl) ?_
      refine wa_ic_geF 44 dX2_makeTwice_13 (by decide) (by rw [rb2l, hn]; exact nle_nI (by omega) (by omega)) ?_
      refine wa_aload_n dX2_makeTwice_16 rfl ?_
      refine wa_getR dX2_makeTwice_17 fgX2_15 (by first | assumption | rfl) (by rfl) ?_
      refine wa_iload dX2_makeTwice_20 rfl ?_
      refine wa_lload_n dX2_makeTwice_22 rfl ?_
      refine wa_last _ dX2_makeTwice_23 (by first | assumption | rfl) (by first | with_reducible rfl | with_reducible assumption | with_reducible exact ix_ma _ _ _ | with_reducible exact ix_maa _ _ _ _ | with_reducible exact ix_a _ _ | with_reducible exact ix_mama _ _ _ _ _) (by omega) ?_
      refine wa_lload_n dX2_makeTwice_24 rfl ?_
      refine wa_aload_n dX2_makeTwice_25 rfl ?_
      refine wa_getR dX2_makeTwice_26 fgX2_9 (by first | assumption | rfl) (by rfl) ?_
      refine wa_iload dX2_makeTwice_29 rfl ?_
      refine wa_lald _ dX2_makeTwice_31 (by first | assumption | rfl) (by first | with_reducible rfl | with_reducible assumption | with_reducible exact ix_ma _ _ _ | with_reducible exact ix_maa _ _ _ _ | with_reducible exact ix_a _ _ | with_reducible exact ix_mama _ _ _ _ _) (by omega) ?_
      refine wa_ladd dX2_makeTwice_32 ?_
      refine wa_lstore_n dX2_makeTwice_33 (by decide) ?_
      refine wa_lload_n dX2_makeTwice_34 rfl ?_
      refine wa_lload_n dX2_makeTwice_35 rfl ?_
      refine wa_ladd dX2_makeTwice_36 ?_
      refine wa_lstore_n dX2_makeTwice_37 (by decide) ?_
      refine wa_iinc (nI 1) dX2_makeTwice_38 rfl (by decide) (by decide) ?_
      refine wa_goto 7 dX2_makeTwice_41 (by decide) ?_
      rw [sLb, frF_s, bL_off (by omega)]
      rw [twcS, oncS] at e
      simp only [nI_add]
      exact e
  refine wa_lconst (0) dX2_makeTwice_0 (by decide) ?_
  refine wa_lstore_n dX2_makeTwice_1 (by decide) ?_
  refine wa_lconst (0) dX2_makeTwice_2 (by decide) ?_
  refine wa_lstore_n dX2_makeTwice_3 (by decide) ?_
  refine wa_iconst (nI 0) dX2_makeTwice_4 (by decide) ?_
  refine wa_istore dX2_makeTwice_5 (by decide) ?_
  have e0 := loop1 n 0 (by omega)
  rw [frF_0, bL_self] at e0
  exact e0
