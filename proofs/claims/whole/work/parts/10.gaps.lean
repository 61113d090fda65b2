/-! GAPS, SPIKES, filling, the digest of a SHEET -/
def runN (f : Nat → Int32) : Nat → Nat
  | 0 => 0
  | n + 1 => if (f n).toInt = 0 then runN f n + 1 else 0
def mostN (f : Nat → Int32) : Nat → Nat
  | 0 => 0
  | n + 1 => max (mostN f n) (runN f (n + 1))
def gapN (f : Nat → Int32) : Nat → Nat
  | 0 => 0
  | n + 1 => gapN f n + (if runN f (n + 1) = 1 then 1 else 0)
theorem runN_le (f : Nat → Int32) : ∀ n, runN f n ≤ n
  | 0 => Nat.le_refl 0
  | n + 1 => by
    have := runN_le f n
    rw [runN]
    split <;> omega
theorem mostN_le (f : Nat → Int32) : ∀ n, mostN f n ≤ n
  | 0 => Nat.le_refl 0
  | n + 1 => by
    have h1 := mostN_le f n
    have h2 := runN_le f (n + 1)
    rw [mostN]
    omega
theorem gapN_le (f : Nat → Int32) : ∀ n, gapN f n ≤ n
  | 0 => Nat.le_refl 0
  | n + 1 => by
    have h1 := gapN_le f n
    rw [gapN]
    split <;> omega
theorem cntN_le (f : Nat → Int32) (v : Int32) : ∀ n, cntN f v n ≤ n
  | 0 => Nat.le_refl 0
  | n + 1 => by
    have h1 := cntN_le f v n
    rw [cntN]
    split <;> omega
theorem run_new {f : Nat → Int32} {i : Nat} (h : (f i).toInt = 0) (h2 : i = 0 ∨ ¬ (f (i - 1)).toInt = 0) : runN f (i + 1) = 1 := by
  rw [runN, if_pos h]
  cases i with
  | zero => rfl
  | succ i =>
    rw [runN, if_neg (by simpa using h2)]
theorem run_old {f : Nat → Int32} {i : Nat} (h2 : ¬ i = 0) (h3 : (f (i - 1)).toInt = 0) : ¬ runN f (i + 1) = 1 := by
  cases i with
  | zero => exact absurd rfl h2
  | succ i =>
    have e1 : runN f (i + 1) = runN f i + 1 := by rw [runN, if_pos (by simpa using h3)]
    rw [show i + 1 + 1 = (i + 1) + 1 from rfl, runN, e1]
    split <;> omega
theorem run_not {f : Nat → Int32} {i : Nat} (h : ¬ (f i).toInt = 0) : ¬ runN f (i + 1) = 1 := by
  rw [runN, if_neg h]
  omega
theorem mxI_nI {a b : Nat} (ha : a < 2 ^ 31) (hb : b < 2 ^ 31) : mxI (nI a) (nI b) = nI (max a b) := by
  unfold mxI
  rw [nI_toInt ha, nI_toInt hb]
  split
  · rw [show max a b = b by omega]
  · rw [show max a b = a by omega]
theorem wp_X3_gaps {d t n : Nat} {μ : Mem} {Q : QM} (ht : isS t) (hd : 1 ≤ d) (hn : μ.1 t 2 = nI n) (hn64 : n ≤ 64) (hQ : Q (some (.int (nI (gapN (μ.1 (t + 2)) n)))) μ) : MW kX3_gaps d [.ref t] μ Q := by
  obtain ⟨hs0t, hs1t, hs2t, hs3t⟩ := isS_sh ht
  have hmt := isS_mod ht
  refine MW_of (by decide) [some (.ref t), none, none] rfl (Nat.le_of_ble_eq_true rfl) ?_
  have loop : ∀ m i, i + m = n → WA kX3_gaps d Q 4 [some (.ref t), some (.int (nI (gapN (μ.1 (t + 2)) i))), some (.int (nI i))] [] μ := by
    intro m
    induction m with
    | zero =>
      intro i hi
      obtain rfl : i = n := by omega
      refine wa_iload_n dX3_gaps_4 rfl ?_
      refine wa_aload_n dX3_gaps_5 rfl ?_
      refine wa_getI dX3_gaps_6 fgX3_30 (by first | assumption | rfl) (by rfl) ?_
      refine wa_ic_geT 43 dX3_gaps_9 (by decide) (by rw [hn]; exact le_nI (by omega) (by omega)) ?_
      refine wa_iload_n dX3_gaps_43 rfl ?_
      refine wa_iret dX3_gaps_44 rfl ?_
      exact hQ
    | succ m ih =>
      intro i hi
      have e := ih (i + 1) (by omega)
      refine wa_iload_n dX3_gaps_4 rfl ?_
      refine wa_aload_n dX3_gaps_5 rfl ?_
      refine wa_getI dX3_gaps_6 fgX3_30 (by first | assumption | rfl) (by rfl) ?_
      refine wa_ic_geF 43 dX3_gaps_9 (by decide) (by rw [hn]; exact nle_nI (by omega) (by omega)) ?_
      refine wa_aload_n dX3_gaps_12 rfl ?_
      refine wa_iload_n dX3_gaps_13 rfl ?_
      refine wa_callV1 (k' := kX3_isLost) (d' := 0) dX3_gaps_14 lmX3_53 kvX3_isLost (by first | assumption | rfl) (by rfl) (by decide) (by omega) (Nat.le_of_ble_eq_true rfl) ?_
      refine wp_X3_isLost (by assumption) (by first | with_reducible rfl | assumption) (by omega) (fun hl1 => ?_) (fun hl1 => ?_)
      · skip
        refine wa_if_eqF 37 dX3_gaps_17 (by decide) (by decide) ?_
        refine wa_iload_n dX3_gaps_20 rfl ?_
        refine wa_if_eq 34 dX3_gaps_21 (by decide) (fun c21_2 => ?_) (fun c21_2 => ?_)
        · try simp (disch := omega) only [nI_toInt] at c21_2
          refine wa_iinc (nI 1) dX3_gaps_34 rfl (by decide) (by decide) ?_
          refine wa_iinc (nI 1) dX3_gaps_37 rfl (by decide) (by decide) ?_
          refine wa_goto 4 dX3_gaps_40 (by decide) ?_
          rw [gapN, if_pos (run_new (by assumption) (by omega))] at e; simp only [nI_add]; exact e
        · try simp (disch := omega) only [nI_toInt] at c21_2
          refine wa_aload_n dX3_gaps_24 rfl ?_
          refine wa_iload_n dX3_gaps_25 rfl ?_
          refine wa_iconst (nI 1) dX3_gaps_26 (by decide) ?_
          refine wa_isub dX3_gaps_27 ?_
          refine wa_callV1 (k' := kX3_isLost) (d' := 0) dX3_gaps_28 lmX3_53 kvX3_isLost (by first | assumption | rfl) (by rfl) (by decide) (by omega) (Nat.le_of_ble_eq_true rfl) ?_
          refine wp_X3_isLost (by assumption) (pk_sub (a := i) (b := 1) (by omega)) (by omega) (fun hl3 => ?_) (fun hl3 => ?_)
          · skip
            refine wa_if_neT 37 dX3_gaps_31 (by decide) (by decide) ?_
            refine wa_iinc (nI 1) dX3_gaps_37 rfl (by decide) (by decide) ?_
            refine wa_goto 4 dX3_gaps_40 (by decide) ?_
            rw [gapN, if_neg (run_old (i := i) (by omega) (by assumption))] at e; simp only [nI_add]; exact e
          · skip
            refine wa_if_neF 37 dX3_gaps_31 (by decide) (by decide) ?_
            refine wa_iinc (nI 1) dX3_gaps_34 rfl (by decide) (by decide) ?_
            refine wa_iinc (nI 1) dX3_gaps_37 rfl (by decide) (by decide) ?_
            refine wa_goto 4 dX3_gaps_40 (by decide) ?_
            rw [gapN, if_pos (run_new (by assumption) (Or.inr (by assumption)))] at e; simp only [nI_add]; exact e
      · skip
        refine wa_if_eqT 37 dX3_gaps_17 (by decide) (by decide) ?_
        refine wa_iinc (nI 1) dX3_gaps_37 rfl (by decide) (by decide) ?_
        refine wa_goto 4 dX3_gaps_40 (by decide) ?_
        rw [gapN, if_neg (run_not (by assumption))] at e; simp only [nI_add]; exact e
  refine wa_iconst (nI 0) dX3_gaps_0 (by decide) ?_
  refine wa_istore_n dX3_gaps_1 (by decide) ?_
  refine wa_iconst (nI 0) dX3_gaps_2 (by decide) ?_
  refine wa_istore_n dX3_gaps_3 (by decide) ?_
  exact loop n 0 (by omega)
theorem wp_X3_longestGap {d t n : Nat} {μ : Mem} {Q : QM} (ht : isS t) (hd : 1 ≤ d) (hn : μ.1 t 2 = nI n) (hn64 : n ≤ 64) (hQ : Q (some (.int (nI (mostN (μ.1 (t + 2)) n)))) μ) : MW kX3_longestGap d [.ref t] μ Q := by
  obtain ⟨hs0t, hs1t, hs2t, hs3t⟩ := isS_sh ht
  have hmt := isS_mod ht
  refine MW_of (by decide) [some (.ref t), none, none, none] rfl (Nat.le_of_ble_eq_true rfl) ?_
  have loop : ∀ m i, i + m = n → WA kX3_longestGap d Q 6 [some (.ref t), some (.int (nI (mostN (μ.1 (t + 2)) i))), some (.int (nI (runN (μ.1 (t + 2)) i))), some (.int (nI i))] [] μ := by
    intro m
    induction m with
    | zero =>
      intro i hi
      obtain rfl : i = n := by omega
      refine wa_iload_n dX3_longestGap_6 rfl ?_
      refine wa_aload_n dX3_longestGap_7 rfl ?_
      refine wa_getI dX3_longestGap_8 fgX3_30 (by first | assumption | rfl) (by rfl) ?_
      refine wa_ic_geT 42 dX3_longestGap_11 (by decide) (by rw [hn]; exact le_nI (by omega) (by omega)) ?_
      refine wa_iload_n dX3_longestGap_42 rfl ?_
      refine wa_iret dX3_longestGap_43 rfl ?_
      exact hQ
    | succ m ih =>
      intro i hi
      have e := ih (i + 1) (by omega)
      have b1 := mostN_le (μ.1 (t + 2)) i
      have b2 := runN_le (μ.1 (t + 2)) i
      refine wa_iload_n dX3_longestGap_6 rfl ?_
      refine wa_aload_n dX3_longestGap_7 rfl ?_
      refine wa_getI dX3_longestGap_8 fgX3_30 (by first | assumption | rfl) (by rfl) ?_
      refine wa_ic_geF 42 dX3_longestGap_11 (by decide) (by rw [hn]; exact nle_nI (by omega) (by omega)) ?_
      refine wa_aload_n dX3_longestGap_14 rfl ?_
      refine wa_iload_n dX3_longestGap_15 rfl ?_
      refine wa_callV1 (k' := kX3_isLost) (d' := 0) dX3_longestGap_16 lmX3_53 kvX3_isLost (by first | assumption | rfl) (by rfl) (by decide) (by omega) (Nat.le_of_ble_eq_true rfl) ?_
      refine wp_X3_isLost (by assumption) (by first | with_reducible rfl | assumption) (by omega) (fun hl1 => ?_) (fun hl1 => ?_)
      · skip
        refine wa_if_eqF 28 dX3_longestGap_19 (by decide) (by decide) ?_
        refine wa_iload_n dX3_longestGap_22 rfl ?_
        refine wa_iconst (nI 1) dX3_longestGap_23 (by decide) ?_
        refine wa_iadd dX3_longestGap_24 ?_
        refine wa_goto 29 dX3_longestGap_25 (by decide) ?_
        refine wa_istore_n dX3_longestGap_29 (by decide) ?_
        refine wa_iload_n dX3_longestGap_30 rfl ?_
        refine wa_iload_n dX3_longestGap_31 rfl ?_
        refine wa_mmaxI dX3_longestGap_32 lmX3_83 (by omega) (Nat.le_of_ble_eq_true rfl) ?_
        refine wa_istore_n dX3_longestGap_35 (by decide) ?_
        refine wa_iinc (nI 1) dX3_longestGap_36 rfl (by decide) (by decide) ?_
        refine wa_goto 6 dX3_longestGap_39 (by decide) ?_
        rw [mostN, runN, if_pos (by assumption)] at e; simp only [nI_add]; rw [mxI_nI (by omega) (by omega)]; exact e
      · skip
        refine wa_if_eqT 28 dX3_longestGap_19 (by decide) (by decide) ?_
        refine wa_iconst (nI 0) dX3_longestGap_28 (by decide) ?_
        refine wa_istore_n dX3_longestGap_29 (by decide) ?_
        refine wa_iload_n dX3_longestGap_30 rfl ?_
        refine wa_iload_n dX3_longestGap_31 rfl ?_
        refine wa_mmaxI dX3_longestGap_32 lmX3_83 (by omega) (Nat.le_of_ble_eq_true rfl) ?_
        refine wa_istore_n dX3_longestGap_35 (by decide) ?_
        refine wa_iinc (nI 1) dX3_longestGap_36 rfl (by decide) (by decide) ?_
        refine wa_goto 6 dX3_longestGap_39 (by decide) ?_
        rw [mostN, runN, if_neg (by assumption)] at e; simp only [nI_add]; rw [mxI_nI (by omega) (by omega)]; exact e
  refine wa_iconst (nI 0) dX3_longestGap_0 (by decide) ?_
  refine wa_istore_n dX3_longestGap_1 (by decide) ?_
  refine wa_iconst (nI 0) dX3_longestGap_2 (by decide) ?_
  refine wa_istore_n dX3_longestGap_3 (by decide) ?_
  refine wa_iconst (nI 0) dX3_longestGap_4 (by decide) ?_
  refine wa_istore_n dX3_longestGap_5 (by decide) ?_
  exact loop n 0 (by omega)
/-- what about() tells -/
def fctN (f : Nat → Int32) (so : Int32) (n w : Nat) : Int32 := match w with
  | 0 => so
  | 1 => nI n
  | 2 => nI (gapN f n)
  | 3 => nI (mostN f n)
  | 4 => nI (cntN f (nI 0) n)
  | _ => nI (cntN f (nI 2) n)
theorem wp_X3_fact {d t n w : Nat} {μ : Mem} {Q : QM} (ht : isS t) (hd : 2 ≤ d) (hn : μ.1 t 2 = nI n) (hn64 : n ≤ 64) (hw : w < 6) (hQ : Q (some (.int (fctN (μ.1 (t + 2)) (μ.1 t 1) n w))) μ) : MW kX3_fact d [.ref t, .int (nI w)] μ Q := by
  obtain ⟨hs0t, hs1t, hs2t, hs3t⟩ := isS_sh ht
  have hmt := isS_mod ht
  refine MW_of (by decide) [some (.ref t), some (.int (nI w))] rfl (Nat.le_of_ble_eq_true rfl) ?_
  have : w = 0 ∨ w = 1 ∨ w = 2 ∨ w = 3 ∨ w = 4 ∨ w = 5 := by omega
  rcases this with rfl | rfl | rfl | rfl | rfl | rfl
  · refine wa_iload_n dX3_fact_0 rfl ?_
    refine wa_tsI 36 0 dX3_fact_1 (by decide) (by decide) (by decide) rfl (by decide) ?_
    refine wa_aload_n dX3_fact_36 rfl ?_
    refine wa_getI dX3_fact_37 fgX3_26 (by first | assumption | rfl) (by rfl) ?_
    refine wa_iret dX3_fact_40 rfl ?_
    exact hQ
  · refine wa_iload_n dX3_fact_0 rfl ?_
    refine wa_tsI 41 1 dX3_fact_1 (by decide) (by decide) (by decide) rfl (by decide) ?_
    refine wa_aload_n dX3_fact_41 rfl ?_
    refine wa_getI dX3_fact_42 fgX3_30 (by first | assumption | rfl) (by rfl) ?_
    refine wa_iret dX3_fact_45 rfl ?_
    rw [hn]; exact hQ
  · refine wa_iload_n dX3_fact_0 rfl ?_
    refine wa_tsI 46 2 dX3_fact_1 (by decide) (by decide) (by decide) rfl (by decide) ?_
    refine wa_aload_n dX3_fact_46 rfl ?_
    refine wa_callV0 (k' := kX3_gaps) (d' := 1) dX3_fact_47 lmX3_69 kvX3_gaps (by first | assumption | rfl) (by rfl) (by decide) (by omega) (Nat.le_of_ble_eq_true rfl) ?_
    refine wp_X3_gaps (by assumption) (by omega) (by assumption) (by assumption) ?_
    refine wa_iret dX3_fact_50 rfl ?_
    exact hQ
  · refine wa_iload_n dX3_fact_0 rfl ?_
    refine wa_tsI 51 3 dX3_fact_1 (by decide) (by decide) (by decide) rfl (by decide) ?_
    refine wa_aload_n dX3_fact_51 rfl ?_
    refine wa_callV0 (k' := kX3_longestGap) (d' := 1) dX3_fact_52 lmX3_73 kvX3_longestGap (by first | assumption | rfl) (by rfl) (by decide) (by omega) (Nat.le_of_ble_eq_true rfl) ?_
    refine wp_X3_longestGap (by assumption) (by omega) (by assumption) (by assumption) ?_
    refine wa_iret dX3_fact_55 rfl ?_
    exact hQ
  · refine wa_iload_n dX3_fact_0 rfl ?_
    refine wa_tsI 56 4 dX3_fact_1 (by decide) (by decide) (by decide) rfl (by decide) ?_
    refine wa_aload_n dX3_fact_56 rfl ?_
    refine wa_callV0 (k' := kX3_lostSamples) (d' := 1) dX3_fact_57 lmX3_76 kvX3_lostSamples (by first | assumption | rfl) (by rfl) (by decide) (by omega) (Nat.le_of_ble_eq_true rfl) ?_
    refine wp_X3_lostSamples (by assumption) (by omega) (by assumption) (by assumption) ?_
    refine wa_iret dX3_fact_60 rfl ?_
    exact hQ
  · refine wa_iload_n dX3_fact_0 rfl ?_
    refine wa_tsO 61 dX3_fact_1 (by decide) (by decide) ?_
    refine wa_aload_n dX3_fact_61 rfl ?_
    refine wa_iconst (nI 2) dX3_fact_62 (by decide) ?_
    refine wa_callV1 (k' := kX3_samplesThatStand) (d' := 0) dX3_fact_63 lmX3_79 kvX3_samplesThatStand (by first | assumption | rfl) (by rfl) (by decide) (by omega) (Nat.le_of_ble_eq_true rfl) ?_
    refine wp_X3_samplesThatStand (by assumption) (by assumption) (by assumption) ?_
    refine wa_iret dX3_fact_66 rfl ?_
    exact hQ
/-! the digest -/
def digF (h : Int64) (f : Nat → Int32) (so : Int32) (n : Nat) : Nat → Int64
  | 0 => h
  | w + 1 => 31 * digF h f so n w + (fctN f so n w).toInt64
def digS (h : Int64) (f v : Nat → Int32) : Nat → Int64
  | 0 => h
  | i + 1 => if (f i).toInt = 0 then 31 * digS h f v i + (f i).toInt64 else 31 * (31 * digS h f v i + (f i).toInt64) + (v i).toInt64
theorem wp_X3_digestOn {d t n : Nat} {h : Int64} {μ : Mem} {Q : QM} (ht : isS t) (hd : 3 ≤ d) (hn : μ.1 t 2 = nI n) (hn64 : n ≤ 64) (hQ : Q (some (.long (digS (digF h (μ.1 (t + 2)) (μ.1 t 1) n 6) (μ.1 (t + 2)) (μ.1 (t + 1)) n))) μ) : MW kX3_digestOn d [.ref t, .long h] μ Q := by
  obtain ⟨hs0t, hs1t, hs2t, hs3t⟩ := isS_sh ht
  have hmt := isS_mod ht
  refine MW_of (by decide) [some (.ref t), some (.long h), none, none, none, none] rfl (Nat.le_of_ble_eq_true rfl) ?_
  have loop2 : ∀ m i, i + m = n → WA kX3_digestOn d Q 35 [some (.ref t), some (.long h), none, some (.long (digS (digF h (μ.1 (t + 2)) (μ.1 t 1) n 6) (μ.1 (t + 2)) (μ.1 (t + 1)) i)), none, some (.int (nI i))] [] μ := by
    intro m
    induction m with
    | zero =>
      intro i hi
      obtain rfl : i = n := by omega
      refine wa_iload dX3_digestOn_35 rfl ?_
      refine wa_aload_n dX3_digestOn_37 rfl ?_
      refine wa_getI dX3_digestOn_38 fgX3_30 (by first | assumption | rfl) (by rfl) ?_
      refine wa_ic_geT 89 dX3_digestOn_41 (by decide) (by rw [hn]; exact le_nI (by omega) (by omega)) ?_
      refine wa_lload_n dX3_digestOn_89 rfl ?_
      refine wa_lret dX3_digestOn_90 rfl ?_
      exact hQ
    | succ m ih =>
      intro i hi
      have e := ih (i + 1) (by omega)
      refine wa_iload dX3_digestOn_35 rfl ?_
      refine wa_aload_n dX3_digestOn_37 rfl ?_
      refine wa_getI dX3_digestOn_38 fgX3_30 (by first | assumption | rfl) (by rfl) ?_
      refine wa_ic_geF 89 dX3_digestOn_41 (by decide) (by rw [hn]; exact nle_nI (by omega) (by omega)) ?_
      refine wa_ldc2 (31) dX3_digestOn_44 lcX3_87 ?_
      refine wa_lload_n dX3_digestOn_47 rfl ?_
      refine wa_lmul dX3_digestOn_48 ?_
      refine wa_aload_n dX3_digestOn_49 rfl ?_
      refine wa_getR dX3_digestOn_50 fgX3_15 (by first | assumption | rfl) (by rfl) ?_
      refine wa_iload dX3_digestOn_53 rfl ?_
      refine wa_iald _ dX3_digestOn_55 (by first | assumption | rfl) (by first | with_reducible rfl | with_reducible assumption | with_reducible exact ix_ma _ _ _ | with_reducible exact ix_maa _ _ _ _ | with_reducible exact ix_a _ _ | with_reducible exact ix_mama _ _ _ _ _) (by omega) ?_
      refine wa_i2l dX3_digestOn_56 ?_
      refine wa_ladd dX3_digestOn_57 ?_
      refine wa_lstore_n dX3_digestOn_58 (by decide) ?_
      refine wa_aload_n dX3_digestOn_59 rfl ?_
      refine wa_iload dX3_digestOn_60 rfl ?_
      refine wa_callV1 (k' := kX3_isLost) (d' := 0) dX3_digestOn_62 lmX3_53 kvX3_isLost (by first | assumption | rfl) (by rfl) (by decide) (by omega) (Nat.le_of_ble_eq_true rfl) ?_
      refine wp_X3_isLost (by assumption) (by first | with_reducible rfl | assumption) (by omega) (fun hl1 => ?_) (fun hl1 => ?_)
      · skip
        refine wa_if_neT 83 dX3_digestOn_65 (by decide) (by decide) ?_
        refine wa_iinc (nI 1) dX3_digestOn_83 rfl (by decide) (by decide) ?_
        refine wa_goto 35 dX3_digestOn_86 (by decide) ?_
        rw [digS, if_pos (by assumption)] at e; simp only [nI_add]; exact e
      · skip
        refine wa_if_neF 83 dX3_digestOn_65 (by decide) (by decide) ?_
        refine wa_ldc2 (31) dX3_digestOn_68 lcX3_87 ?_
        refine wa_lload_n dX3_digestOn_71 rfl ?_
        refine wa_lmul dX3_digestOn_72 ?_
        refine wa_aload_n dX3_digestOn_73 rfl ?_
        refine wa_getR dX3_digestOn_74 fgX3_9 (by first | assumption | rfl) (by rfl) ?_
        refine wa_iload dX3_digestOn_77 rfl ?_
        refine wa_iald _ dX3_digestOn_79 (by first | assumption | rfl) (by first | with_reducible rfl | with_reducible assumption | with_reducible exact ix_ma _ _ _ | with_reducible exact ix_maa _ _ _ _ | with_reducible exact ix_a _ _ | with_reducible exact ix_mama _ _ _ _ _) (by omega) ?_
        refine wa_i2l dX3_digestOn_80 ?_
        refine wa_ladd dX3_digestOn_81 ?_
        refine wa_lstore_n dX3_digestOn_82 (by decide) ?_
        refine wa_iinc (nI 1) dX3_digestOn_83 rfl (by decide) (by decide) ?_
        refine wa_goto 35 dX3_digestOn_86 (by decide) ?_
        rw [digS, if_neg (by assumption)] at e; simp only [nI_add]; exact e
  have loop1 : ∀ m w, w + m = 6 → WA kX3_digestOn d Q 5 [some (.ref t), some (.long h), none, some (.long (digF h (μ.1 (t + 2)) (μ.1 t 1) n w)), none, some (.int (nI w))] [] μ := by
    intro m
    induction m with
    | zero =>
      intro w hw
      obtain rfl : w = 6 := by omega
      refine wa_iload dX3_digestOn_5 rfl ?_
      refine wa_bipush (nI 6) dX3_digestOn_7 (by decide) ?_
      refine wa_ic_geT 32 dX3_digestOn_9 (by decide) (by decide) ?_
      refine wa_iconst (nI 0) dX3_digestOn_32 (by decide) ?_
      refine wa_istore dX3_digestOn_33 (by decide) ?_
      exact loop2 n 0 (by omega)
    | succ m ih =>
      intro w hw
      have e := ih (w + 1) (by omega)
      refine wa_iload dX3_digestOn_5 rfl ?_
      refine wa_bipush (nI 6) dX3_digestOn_7 (by decide) ?_
      refine wa_ic_geF 32 dX3_digestOn_9 (by decide) (nle_nI (by omega) (by omega)) ?_
      refine wa_ldc2 (31) dX3_digestOn_12 lcX3_87 ?_
      refine wa_lload_n dX3_digestOn_15 rfl ?_
      refine wa_lmul dX3_digestOn_16 ?_
      refine wa_aload_n dX3_digestOn_17 rfl ?_
      refine wa_iload dX3_digestOn_18 rfl ?_
      refine wa_callV1 (k' := kX3_fact) (d' := 2) dX3_digestOn_20 lmX3_89 kvX3_fact (by first | assumption | rfl) (by rfl) (by decide) (by omega) (Nat.le_of_ble_eq_true rfl) ?_
      refine wp_X3_fact (by assumption) (by omega) (by assumption) (by assumption) (by omega) ?_
      refine wa_i2l dX3_digestOn_23 ?_
      refine wa_ladd dX3_digestOn_24 ?_
      refine wa_lstore_n dX3_digestOn_25 (by decide) ?_
      refine wa_iinc (nI 1) dX3_digestOn_26 rfl (by decide) (by decide) ?_
      refine wa_goto 5 dX3_digestOn_29 (by decide) ?_
      rw [digF] at e; simp only [nI_add]; exact e
  refine wa_lload_n dX3_digestOn_0 rfl ?_
  refine wa_lstore_n dX3_digestOn_1 (by decide) ?_
  refine wa_iconst (nI 0) dX3_digestOn_2 (by decide) ?_
  refine wa_istore dX3_digestOn_3 (by decide) ?_
  exact loop1 6 0 (by omega)
/-! SPIKES -/
def bendE (v : Nat → Int32) (i : Nat) : Int64 := 2 * (v i).toInt64 - (v (i - 1)).toInt64 - (v (i + 1)).toInt64
def isSp (s v : Nat → Int32) (n : Nat) (d : Int32) (i : Nat) : Bool := decide (1 ≤ i ∧ i + 1 < n ∧ ¬ (s (i - 1)).toInt = 0 ∧ ¬ (s i).toInt = 0 ∧ ¬ (s (i + 1)).toInt = 0 ∧ (2 * d.toInt64).toInt < (abL (bendE v i)).toInt)
theorem wp_X3_isSpike {d t n j : Nat} {e : Int32} {μ : Mem} {Q : QM} (ht : isS t) (hd : 1 ≤ d) (hn : μ.1 t 2 = nI n) (hn64 : n ≤ 64) (hj : j < n) (h1 : isSp (μ.1 (t + 2)) (μ.1 (t + 1)) n e j = true → Q (some (.int (nI 1))) μ) (h0 : isSp (μ.1 (t + 2)) (μ.1 (t + 1)) n e j = false → Q (some (.int (nI 0))) μ) : MW kX3_isSpike d [.ref t, .int (nI j), .int e] μ Q := by
  obtain ⟨hs0t, hs1t, hs2t, hs3t⟩ := isS_sh ht
  have hmt := isS_mod ht
  refine MW_of (by decide) [some (.ref t), some (.int (nI j)), some (.int e), none, none] rfl (Nat.le_of_ble_eq_true rfl) ?_
  refine wa_iload_n dX3_isSpike_0 rfl ?_
  refine wa_iconst (nI 1) dX3_isSpike_1 (by decide) ?_
  refine wa_ic_lt 43 dX3_isSpike_2 (by decide) (fun c2_1 => ?_) (fun c2_1 => ?_)
  · try simp (disch := omega) only [nI_toInt, hn, nI_add] at c2_1
    refine wa_iconst (nI 0) dX3_isSpike_43 (by decide) ?_
    refine wa_zret dX3_isSpike_44 rfl (by decide) ?_
    exact h0 (decide_eq_false (fun q => by omega))
  · try simp (disch := omega) only [nI_toInt, hn, nI_add] at c2_1
    refine wa_iload_n dX3_isSpike_5 rfl ?_
    refine wa_iconst (nI 1) dX3_isSpike_6 (by decide) ?_
    refine wa_iadd dX3_isSpike_7 ?_
    refine wa_aload_n dX3_isSpike_8 rfl ?_
    refine wa_getI dX3_isSpike_9 fgX3_30 (by first | assumption | rfl) (by rfl) ?_
    refine wa_ic_ge 43 dX3_isSpike_12 (by decide) (fun c12_2 => ?_) (fun c12_2 => ?_)
    · try simp (disch := omega) only [nI_toInt, hn, nI_add] at c12_2
      refine wa_iconst (nI 0) dX3_isSpike_43 (by decide) ?_
      refine wa_zret dX3_isSpike_44 rfl (by decide) ?_
      exact h0 (decide_eq_false (fun q => by omega))
    · try simp (disch := omega) only [nI_toInt, hn, nI_add] at c12_2
      refine wa_aload_n dX3_isSpike_15 rfl ?_
      refine wa_iload_n dX3_isSpike_16 rfl ?_
      refine wa_iconst (nI 1) dX3_isSpike_17 (by decide) ?_
      refine wa_isub dX3_isSpike_18 ?_
      refine wa_callV1 (k' := kX3_isLost) (d' := 0) dX3_isSpike_19 lmX3_53 kvX3_isLost (by first | assumption | rfl) (by rfl) (by decide) (by omega) (Nat.le_of_ble_eq_true rfl) ?_
      refine wp_X3_isLost (by assumption) (pk_sub (a := j) (b := 1) (by omega)) (by omega) (fun hl3 => ?_) (fun hl3 => ?_)
      · skip
        refine wa_if_neT 43 dX3_isSpike_22 (by decide) (by decide) ?_
        refine wa_iconst (nI 0) dX3_isSpike_43 (by decide) ?_
        refine wa_zret dX3_isSpike_44 rfl (by decide) ?_
        exact h0 (decide_eq_false (fun q => by omega))
      · skip
        refine wa_if_neF 43 dX3_isSpike_22 (by decide) (by decide) ?_
        refine wa_aload_n dX3_isSpike_25 rfl ?_
        refine wa_iload_n dX3_isSpike_26 rfl ?_
        refine wa_callV1 (k' := kX3_isLost) (d' := 0) dX3_isSpike_27 lmX3_53 kvX3_isLost (by first | assumption | rfl) (by rfl) (by decide) (by omega) (Nat.le_of_ble_eq_true rfl) ?_
        refine wp_X3_isLost (by assumption) (by first | with_reducible rfl | assumption) (by omega) (fun hl4 => ?_) (fun hl4 => ?_)
        · skip
          refine wa_if_neT 43 dX3_isSpike_30 (by decide) (by decide) ?_
          refine wa_iconst (nI 0) dX3_isSpike_43 (by decide) ?_
          refine wa_zret dX3_isSpike_44 rfl (by decide) ?_
          exact h0 (decide_eq_false (fun q => by omega))
        · skip
          refine wa_if_neF 43 dX3_isSpike_30 (by decide) (by decide) ?_
          refine wa_aload_n dX3_isSpike_33 rfl ?_
          refine wa_iload_n dX3_isSpike_34 rfl ?_
          refine wa_iconst (nI 1) dX3_isSpike_35 (by decide) ?_
          refine wa_iadd dX3_isSpike_36 ?_
          refine wa_callV1 (k' := kX3_isLost) (d' := 0) dX3_isSpike_37 lmX3_53 kvX3_isLost (by first | assumption | rfl) (by rfl) (by decide) (by omega) (Nat.le_of_ble_eq_true rfl) ?_
          refine wp_X3_isLost (by assumption) (nI_add j 1) (by omega) (fun hl5 => ?_) (fun hl5 => ?_)
          · skip
            refine wa_if_eqF 45 dX3_isSpike_40 (by decide) (by decide) ?_
            refine wa_iconst (nI 0) dX3_isSpike_43 (by decide) ?_
            refine wa_zret dX3_isSpike_44 rfl (by decide) ?_
            exact h0 (decide_eq_false (fun q => by omega))
          · skip
            refine wa_if_eqT 45 dX3_isSpike_40 (by decide) (by decide) ?_
            refine wa_ldc2 (2) dX3_isSpike_45 lcX3_57 ?_
            refine wa_aload_n dX3_isSpike_48 rfl ?_
            refine wa_getR dX3_isSpike_49 fgX3_9 (by first | assumption | rfl) (by rfl) ?_
            refine wa_iload_n dX3_isSpike_52 rfl ?_
            refine wa_iald _ dX3_isSpike_53 (by first | assumption | rfl) (by first | with_reducible rfl | with_reducible assumption | with_reducible exact ix_ma _ _ _ | with_reducible exact ix_maa _ _ _ _ | with_reducible exact ix_a _ _ | with_reducible exact ix_mama _ _ _ _ _) (by omega) ?_
            refine wa_i2l dX3_isSpike_54 ?_
            refine wa_lmul dX3_isSpike_55 ?_
            refine wa_aload_n dX3_isSpike_56 rfl ?_
            refine wa_getR dX3_isSpike_57 fgX3_9 (by first | assumption | rfl) (by rfl) ?_
            refine wa_iload_n dX3_isSpike_60 rfl ?_
            refine wa_iconst (nI 1) dX3_isSpike_61 (by decide) ?_
            refine wa_isub dX3_isSpike_62 ?_
            refine wa_iald _ dX3_isSpike_63 (by first | assumption | rfl) (by exact pk_sub (a := j) (b := 1) (by omega)) (by omega) ?_
            refine wa_i2l dX3_isSpike_64 ?_
            refine wa_lsub dX3_isSpike_65 ?_
            refine wa_aload_n dX3_isSpike_66 rfl ?_
            refine wa_getR dX3_isSpike_67 fgX3_9 (by first | assumption | rfl) (by rfl) ?_
            refine wa_iload_n dX3_isSpike_70 rfl ?_
            refine wa_iconst (nI 1) dX3_isSpike_71 (by decide) ?_
            refine wa_iadd dX3_isSpike_72 ?_
            refine wa_iald _ dX3_isSpike_73 (by first | assumption | rfl) (by first | with_reducible rfl | with_reducible assumption | with_reducible exact ix_ma _ _ _ | with_reducible exact ix_maa _ _ _ _ | with_reducible exact ix_a _ _ | with_reducible exact ix_mama _ _ _ _ _) (by omega) ?_
            refine wa_i2l dX3_isSpike_74 ?_
            refine wa_lsub dX3_isSpike_75 ?_
            refine wa_lstore_n dX3_isSpike_76 (by decide) ?_
            refine wa_lload_n dX3_isSpike_77 rfl ?_
            refine wa_mabsL dX3_isSpike_78 lmX3_59 (by omega) (Nat.le_of_ble_eq_true rfl) ?_
            refine wa_ldc2 (2) dX3_isSpike_81 lcX3_57 ?_
            refine wa_iload_n dX3_isSpike_84 rfl ?_
            refine wa_i2l dX3_isSpike_85 ?_
            refine wa_lmul dX3_isSpike_86 ?_
            refine wa_lc_le 95 dX3_isSpike_87 dX3_isSpike_88 (by decide) (fun c87_6 => ?_) (fun c87_6 => ?_)
            · try simp (disch := omega) only [nI_toInt, hn, nI_add] at c87_6
              refine wa_iconst (nI 0) dX3_isSpike_95 (by decide) ?_
              refine wa_zret dX3_isSpike_96 rfl (by decide) ?_
              exact h0 (decide_eq_false (fun q => by unfold bendE at q; omega))
            · try simp (disch := omega) only [nI_toInt, hn, nI_add] at c87_6
              refine wa_iconst (nI 1) dX3_isSpike_91 (by decide) ?_
              refine wa_goto 96 dX3_isSpike_92 (by decide) ?_
              refine wa_zret dX3_isSpike_96 rfl (by decide) ?_
              exact h1 (decide_eq_true ⟨by omega, by omega, by assumption, by assumption, by assumption, by unfold bendE; omega⟩)
