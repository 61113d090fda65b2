/-! THE CALLS: what the law's calls do, told in whole numbers -/
def RowIs (μ : Mem) (r n : Nat) (V : Nat → Int) : Prop := μ.1 (43 + 5 * r) 0 = nI n ∧ ∀ i, i < n → μ.2 (43 + 5 * r + 1) i = Int64.ofInt (V i)
def ShIs (μ : Mem) (k n : Nat) : Prop := μ.1 (7 + 4 * k) 0 = nI 1 ∧ μ.1 (7 + 4 * k) 1 = nI 2 ∧ μ.1 (7 + 4 * k) 2 = nI n ∧ ∀ i, i < n → μ.1 (7 + 4 * k + 2) i = nI 1
/-- all tags but those from a on, below b, stay -/
def Kp (μ ν : Mem) (a b : Nat) : Prop := ∀ t, ¬ (a ≤ t ∧ t < b) → ν.1 t = μ.1 t ∧ ν.2 t = μ.2 t
def bnd (V : Nat → Int) (n : Nat) (B : Int) : Prop := ∀ i, i < n → -B ≤ V i ∧ V i ≤ B
theorem nob8 {k : Nat} (h : k < 8) : ¬ oob (nI k) 8 := by
  unfold oob
  rw [nI_toInt (by omega)]
  omega
theorem nob6 {k : Nat} (h : k < 6) : ¬ oob (nI k) 6 := by
  unfold oob
  rw [nI_toInt (by omega)]
  omega
theorem cntN_z {f : Nat → Int32} : ∀ {n : Nat}, (∀ i, i < n → f i = nI 1) → cntN f (nI 0) n = 0
  | 0, _ => rfl
  | n + 1, h => by
    rw [cntN, cntN_z (n := n) (fun i hi => h i (by omega)), h n (by omega), if_neg (by decide)]
theorem wp_sheet {d k n : Nat} {μ : Mem} {Q : QM} (hd : 2 ≤ d) (hk : k < 8) (hn : n ≤ 64) (hQ : ∀ ν, ShIs ν k n → Kp μ ν (7 + 4 * k) (11 + 4 * k) → Q (some (.int (nI 1))) ν) : MW kX5_sheet d [.ref 0, .int (nI k), .int (nI 2), .int (nI n)] μ Q := by
  have hS := isS_k (show k < 9 by omega)
  have hsh := (isS_sh hS).1
  refine MW_of (by decide) [some (.ref 0), some (.int (nI k)), some (.int (nI 2)), some (.int (nI n))] rfl (Nat.le_of_ble_eq_true rfl) ?_
  refine wa_iload_n dX5_sheet_0 rfl ?_
  refine wa_callS1 (k' := kX5_isSheet) (d' := 0) dX5_sheet_1 lmX5_44 ksX5_isSheet (by decide) (by omega) (Nat.le_of_ble_eq_true rfl) ?_
  refine wp_X5_isSheet (fun j_ hj_ e_ => ?_) (fun q_ => absurd q_ (nob8 hk))
  refine wa_if_eqF 22 dX5_sheet_4 (by decide) (by decide) ?_
  refine wa_iload_n dX5_sheet_7 rfl ?_
  refine wa_if_ltF 22 dX5_sheet_8 (by decide) (by decide) ?_
  refine wa_iload_n dX5_sheet_11 rfl ?_
  refine wa_iconst (nI 2) dX5_sheet_12 (by decide) ?_
  refine wa_ic_gtF 22 dX5_sheet_13 (by decide) (by decide) ?_
  refine wa_iload_n dX5_sheet_16 rfl ?_
  refine wa_bipush (nI 64) dX5_sheet_17 (by decide) ?_
  refine wa_ic_leT 25 dX5_sheet_19 (by decide) (le_nI (by omega) (by omega)) ?_
  refine wa_iload_n dX5_sheet_25 rfl ?_
  refine wa_if_geT 32 dX5_sheet_26 (by decide) (by rw [nI_toInt (by omega)]; omega) ?_
  refine wa_aload_n dX5_sheet_32 rfl ?_
  refine wa_getR dX5_sheet_33 fgX5_11 (by first | assumption | rfl) (by rfl) ?_
  refine wa_iload_n dX5_sheet_36 rfl ?_
  refine wa_aalS _ dX5_sheet_37 (by first | assumption | rfl) (by first | with_reducible rfl | with_reducible assumption | with_reducible exact ix_ma _ _ _ | with_reducible exact ix_maa _ _ _ _ | with_reducible exact ix_a _ _ | with_reducible exact ix_mama _ _ _ _ _) (by omega) ?_
  rw [show arf 1 k = 7 + 4 * k from rfl]
  refine wa_iload_n dX5_sheet_38 rfl ?_
  refine wa_iload_n dX5_sheet_39 rfl ?_
  refine wa_callV2 (k' := kX3_begin) (d' := 1) dX5_sheet_40 lmX5_48 kvX3_begin (by first | assumption | rfl) (by rfl) (by decide) (by omega) (Nat.le_of_ble_eq_true rfl) ?_
  refine wp_X3_begin hS (by omega) ?_
  refine wa_iconst (nI 1) dX5_sheet_43 (by decide) ?_
  refine wa_iret dX5_sheet_44 rfl ?_
  refine hQ _ ⟨?_, ?_, ?_, fun i hi => ?_⟩ (fun t ht => ?_)
  · simp (disch := omega) only [sI_off, bI_off, sL_off, bL_off, r1l, r2l, rb1l, rb2l, r1m, r2m, rb1e, rb2e, r1e, r2e]
  · simp (disch := omega) only [sI_off, bI_off, sL_off, bL_off, r1l, r2l, rb1l, rb2l, r1m, r2m, rb1e, rb2e, r1e, r2e]
  · simp (disch := omega) only [sI_off, bI_off, sL_off, bL_off, r1l, r2l, rb1l, rb2l, r1m, r2m, rb1e, rb2e, r1e, r2e]
  · simp (disch := omega) only [sI_off, bI_off, sL_off, bL_off, r1l, r2l, rb1l, rb2l, r1m, r2m, rb1e, rb2e, r1e, r2e]
    rw [fillF, if_pos (by omega)]
  · have h0 : t ≠ 7 + 4 * k := by omega
    have h1 : t ≠ 7 + 4 * k + 1 := by omega
    have h2 : t ≠ 7 + 4 * k + 2 := by omega
    exact ⟨by rw [bI_off h2, bI_off h1, sI_off h0, sI_off h0, sI_off h0], rfl⟩
theorem wp_shF {d k n : Nat} {μ : Mem} {Q : QM} (hd : 1 ≤ d) (hk : k < 8) (hs : ShIs μ k n) (hQ : Q (some (.int (nI 0))) μ) : MW kX5_sheetFailure d [.ref 0, .int (nI k)] μ Q := by
  have hS := isS_k (show k < 9 by omega)
  have hsh := (isS_sh hS).1
  refine MW_of (by decide) [some (.ref 0), some (.int (nI k))] rfl (Nat.le_of_ble_eq_true rfl) ?_
  refine wa_iload_n dX5_sheetFailure_0 rfl ?_
  refine wa_callS1 (k' := kX5_isSheet) (d' := 0) dX5_sheetFailure_1 lmX5_44 ksX5_isSheet (by decide) (by omega) (Nat.le_of_ble_eq_true rfl) ?_
  refine wp_X5_isSheet (fun j_ hj_ e_ => ?_) (fun q_ => absurd q_ (nob8 hk))
  refine wa_if_neT 10 dX5_sheetFailure_4 (by decide) (by decide) ?_
  refine wa_aload_n dX5_sheetFailure_10 rfl ?_
  refine wa_getR dX5_sheetFailure_11 fgX5_11 (by first | assumption | rfl) (by rfl) ?_
  refine wa_iload_n dX5_sheetFailure_14 rfl ?_
  refine wa_aalS _ dX5_sheetFailure_15 (by first | assumption | rfl) (by first | with_reducible rfl | with_reducible assumption | with_reducible exact ix_ma _ _ _ | with_reducible exact ix_maa _ _ _ _ | with_reducible exact ix_a _ _ | with_reducible exact ix_mama _ _ _ _ _) (by omega) ?_
  rw [show arf 1 k = 7 + 4 * k from rfl]
  refine wa_callV0 (k' := kX3_isThere) (d' := 0) dX5_sheetFailure_16 lmX5_87 kvX3_isThere (by first | assumption | rfl) (by rfl) (by decide) (by omega) (Nat.le_of_ble_eq_true rfl) ?_
  refine wp_X3_isThere hS (Or.inr hs.1) (fun h_ => ?_) (fun h_ => absurd (h_.symm.trans hs.1) (by decide))
  refine wa_if_eqF 26 dX5_sheetFailure_19 (by decide) (by decide) ?_
  refine wa_iconst (nI 0) dX5_sheetFailure_22 (by decide) ?_
  refine wa_goto 28 dX5_sheetFailure_23 (by decide) ?_
  refine wa_iret dX5_sheetFailure_28 rfl ?_
  exact hQ
theorem wp_saF {d k n i : Nat} {μ : Mem} {Q : QM} (hd : 2 ≤ d) (hk : k < 8) (hn : n ≤ 64) (hi : i < n) (hs : ShIs μ k n) (hQ : Q (some (.int (nI 0))) μ) : MW kX5_sampleFailure d [.ref 0, .int (nI k), .int (nI i)] μ Q := by
  have hS := isS_k (show k < 9 by omega)
  have hsh := (isS_sh hS).1
  refine MW_of (by decide) [some (.ref 0), some (.int (nI k)), some (.int (nI i)), none] rfl (Nat.le_of_ble_eq_true rfl) ?_
  refine wa_aload_n dX5_sampleFailure_0 rfl ?_
  refine wa_iload_n dX5_sampleFailure_1 rfl ?_
  refine wa_callV1 (k' := kX5_sheetFailure) (d' := 1) dX5_sampleFailure_2 lmX5_52 kvX5_sheetFailure (by first | assumption | rfl) (by rfl) (by decide) (by omega) (Nat.le_of_ble_eq_true rfl) ?_
  refine wp_shF (n := n) (by omega) hk hs ?_
  refine wa_istore_n dX5_sampleFailure_5 (by decide) ?_
  refine wa_iload_n dX5_sampleFailure_6 rfl ?_
  refine wa_if_eqT 12 dX5_sampleFailure_7 (by decide) (by decide) ?_
  refine wa_aload_n dX5_sampleFailure_12 rfl ?_
  refine wa_getR dX5_sampleFailure_13 fgX5_11 (by first | assumption | rfl) (by rfl) ?_
  refine wa_iload_n dX5_sampleFailure_16 rfl ?_
  refine wa_aalS _ dX5_sampleFailure_17 (by first | assumption | rfl) (by first | with_reducible rfl | with_reducible assumption | with_reducible exact ix_ma _ _ _ | with_reducible exact ix_maa _ _ _ _ | with_reducible exact ix_a _ _ | with_reducible exact ix_mama _ _ _ _ _) (by omega) ?_
  refine wa_iload_n dX5_sampleFailure_18 rfl ?_
  rw [show arf 1 k = 7 + 4 * k from rfl]
  refine wa_callV1 (k' := kX3_has) (d' := 0) dX5_sampleFailure_19 lmX5_271 kvX3_has (by first | assumption | rfl) (by rfl) (by decide) (by omega) (Nat.le_of_ble_eq_true rfl) ?_
  refine wp_X3_has hS hs.2.2.1 hn (fun a_ ha_ q_ => ?_) (fun q_ => absurd q_ (by rw [nI_toInt (by omega)]; omega))
  refine wa_if_eqF 29 dX5_sampleFailure_22 (by decide) (by decide) ?_
  refine wa_iconst (nI 0) dX5_sampleFailure_25 (by decide) ?_
  refine wa_goto 31 dX5_sampleFailure_26 (by decide) ?_
  refine wa_iret dX5_sampleFailure_31 rfl ?_
  exact hQ
theorem wp_put {d k n i : Nat} {v : Int32} {μ : Mem} {Q : QM} (hd : 3 ≤ d) (hk : k < 8) (hn : n ≤ 64) (hi : i < n) (hs : ShIs μ k n) (hQ : Q (some (.int (nI 1))) (sI (sI μ (7 + 4 * k + 1) i v) (7 + 4 * k + 2) i (nI 1))) : MW kX5_put d [.ref 0, .int (nI k), .int (nI i), .int v] μ Q := by
  have hS := isS_k (show k < 9 by omega)
  have hsh := (isS_sh hS).1
  refine MW_of (by decide) [some (.ref 0), some (.int (nI k)), some (.int (nI i)), some (.int v), none] rfl (Nat.le_of_ble_eq_true rfl) ?_
  refine wa_aload_n dX5_put_0 rfl ?_
  refine wa_iload_n dX5_put_1 rfl ?_
  refine wa_iload_n dX5_put_2 rfl ?_
  refine wa_callV2 (k' := kX5_sampleFailure) (d' := 2) dX5_put_3 lmX5_60 kvX5_sampleFailure (by first | assumption | rfl) (by rfl) (by decide) (by omega) (Nat.le_of_ble_eq_true rfl) ?_
  refine wp_saF (n := n) (by omega) hk hn hi hs ?_
  refine wa_istore dX5_put_6 (by decide) ?_
  refine wa_iload dX5_put_8 rfl ?_
  refine wa_if_eqT 16 dX5_put_10 (by decide) (by decide) ?_
  refine wa_aload_n dX5_put_16 rfl ?_
  refine wa_getR dX5_put_17 fgX5_11 (by first | assumption | rfl) (by rfl) ?_
  refine wa_iload_n dX5_put_20 rfl ?_
  refine wa_aalS _ dX5_put_21 (by first | assumption | rfl) (by first | with_reducible rfl | with_reducible assumption | with_reducible exact ix_ma _ _ _ | with_reducible exact ix_maa _ _ _ _ | with_reducible exact ix_a _ _ | with_reducible exact ix_mama _ _ _ _ _) (by omega) ?_
  rw [show arf 1 k = 7 + 4 * k from rfl]
  refine wa_iload_n dX5_put_22 rfl ?_
  refine wa_callV1 (k' := kX3_fits) (d' := 0) dX5_put_23 lmX5_64 kvX3_fits (by first | assumption | rfl) (by rfl) (by decide) (by omega) (Nat.le_of_ble_eq_true rfl) ?_
  refine wp_X3_fits hS (Or.inr (Or.inr hs.2.1)) (fun h_ => ?_) (fun h_ => absurd (by rw [hs.2.1]; exact ⟨fun q_ => absurd q_ (by decide), fun q_ => absurd q_ (by decide)⟩) h_)
  refine wa_if_neT 32 dX5_put_26 (by decide) (by decide) ?_
  refine wa_aload_n dX5_put_32 rfl ?_
  refine wa_getR dX5_put_33 fgX5_11 (by first | assumption | rfl) (by rfl) ?_
  refine wa_iload_n dX5_put_36 rfl ?_
  refine wa_aalS _ dX5_put_37 (by first | assumption | rfl) (by first | with_reducible rfl | with_reducible assumption | with_reducible exact ix_ma _ _ _ | with_reducible exact ix_maa _ _ _ _ | with_reducible exact ix_a _ _ | with_reducible exact ix_mama _ _ _ _ _) (by omega) ?_
  rw [show arf 1 k = 7 + 4 * k from rfl]
  refine wa_iload_n dX5_put_38 rfl ?_
  refine wa_iload_n dX5_put_39 rfl ?_
  refine wa_callV2 (k' := kX3_tell) (d' := 0) dX5_put_40 lmX5_67 kvX3_tell (by first | assumption | rfl) (by rfl) (by decide) (by omega) (Nat.le_of_ble_eq_true rfl) ?_
  refine wp_X3_tell hS (by omega) ?_
  refine wa_iconst (nI 1) dX5_put_43 (by decide) ?_
  refine wa_iret dX5_put_44 rfl ?_
  exact hQ
theorem wp_raise {d k r n : Nat} {μ : Mem} {Q : QM} (hd : 2 ≤ d) (hk : k < 8) (hr : r < 6) (hn : n ≤ 64) (hs : ShIs μ k n) (hQ : Q (some (.int (nI n))) (bL (sI μ (43 + 5 * r) 0 (nI n)) (43 + 5 * r + 1) (frF (fun i => (μ.1 (7 + 4 * k + 1) i).toInt64) (μ.2 (43 + 5 * r + 1)) n))) : MW kX5_raise d [.ref 0, .int (nI k), .int (nI r)] μ Q := by
  have hS := isS_k (show k < 9 by omega)
  have hsh := (isS_sh hS).1
  have hR := isR_k hr
  have hrh := (isR_sh hR).1
  have hmS := isS_mod hS
  have hmR := isR_mod hR
  refine MW_of (by decide) [some (.ref 0), some (.int (nI k)), some (.int (nI r))] rfl (Nat.le_of_ble_eq_true rfl) ?_
  refine wa_iload_n dX5_raise_0 rfl ?_
  refine wa_callS1 (k' := kX5_isSheet) (d' := 0) dX5_raise_1 lmX5_44 ksX5_isSheet (by decide) (by omega) (Nat.le_of_ble_eq_true rfl) ?_
  refine wp_X5_isSheet (fun j_ hj_ e_ => ?_) (fun q_ => absurd q_ (nob8 hk))
  refine wa_if_eqF 14 dX5_raise_4 (by decide) (by decide) ?_
  refine wa_iload_n dX5_raise_7 rfl ?_
  refine wa_callS1 (k' := kX5_isRow) (d' := 0) dX5_raise_8 lmX5_111 ksX5_isRow (by decide) (by omega) (Nat.le_of_ble_eq_true rfl) ?_
  refine wp_X5_isRow (fun j_ hj_ e_ => ?_) (fun q_ => absurd q_ (nob6 hr))
  refine wa_if_neT 17 dX5_raise_11 (by decide) (by decide) ?_
  refine wa_aload_n dX5_raise_17 rfl ?_
  refine wa_getR dX5_raise_18 fgX5_11 (by first | assumption | rfl) (by rfl) ?_
  refine wa_iload_n dX5_raise_21 rfl ?_
  refine wa_aalS _ dX5_raise_22 (by first | assumption | rfl) (by first | with_reducible rfl | with_reducible assumption | with_reducible exact ix_ma _ _ _ | with_reducible exact ix_maa _ _ _ _ | with_reducible exact ix_a _ _ | with_reducible exact ix_mama _ _ _ _ _) (by omega) ?_
  rw [show arf 1 k = 7 + 4 * k from rfl]
  refine wa_callV0 (k' := kX3_isThere) (d' := 0) dX5_raise_23 lmX5_87 kvX3_isThere (by first | assumption | rfl) (by rfl) (by decide) (by omega) (Nat.le_of_ble_eq_true rfl) ?_
  refine wp_X3_isThere hS (Or.inr hs.1) (fun h_ => ?_) (fun h_ => absurd (h_.symm.trans hs.1) (by decide))
  refine wa_if_neT 32 dX5_raise_26 (by decide) (by decide) ?_
  refine wa_aload_n dX5_raise_32 rfl ?_
  refine wa_getR dX5_raise_33 fgX5_11 (by first | assumption | rfl) (by rfl) ?_
  refine wa_iload_n dX5_raise_36 rfl ?_
  refine wa_aalS _ dX5_raise_37 (by first | assumption | rfl) (by first | with_reducible rfl | with_reducible assumption | with_reducible exact ix_ma _ _ _ | with_reducible exact ix_maa _ _ _ _ | with_reducible exact ix_a _ _ | with_reducible exact ix_mama _ _ _ _ _) (by omega) ?_
  rw [show arf 1 k = 7 + 4 * k from rfl]
  refine wa_callV0 (k' := kX3_lostSamples) (d' := 1) dX5_raise_38 lmX5_114 kvX3_lostSamples (by first | assumption | rfl) (by rfl) (by decide) (by omega) (Nat.le_of_ble_eq_true rfl) ?_
  refine wp_X3_lostSamples hS (by omega) hs.2.2.1 hn ?_
  rw [cntN_z hs.2.2.2]
  refine wa_if_leT 47 dX5_raise_41 (by decide) (by decide) ?_
  refine wa_aload_n dX5_raise_47 rfl ?_
  refine wa_getR dX5_raise_48 fgX5_18 (by first | assumption | rfl) (by rfl) ?_
  refine wa_iload_n dX5_raise_51 rfl ?_
  refine wa_aalR _ dX5_raise_52 (by first | assumption | rfl) (by first | with_reducible rfl | with_reducible assumption | with_reducible exact ix_ma _ _ _ | with_reducible exact ix_maa _ _ _ _ | with_reducible exact ix_a _ _ | with_reducible exact ix_mama _ _ _ _ _) (by omega) ?_
  rw [show arf 2 r = 43 + 5 * r from rfl]
  refine wa_aload_n dX5_raise_53 rfl ?_
  refine wa_getR dX5_raise_54 fgX5_11 (by first | assumption | rfl) (by rfl) ?_
  refine wa_iload_n dX5_raise_57 rfl ?_
  refine wa_aalS _ dX5_raise_58 (by first | assumption | rfl) (by first | with_reducible rfl | with_reducible assumption | with_reducible exact ix_ma _ _ _ | with_reducible exact ix_maa _ _ _ _ | with_reducible exact ix_a _ _ | with_reducible exact ix_mama _ _ _ _ _) (by omega) ?_
  rw [show arf 1 k = 7 + 4 * k from rfl]
  refine wa_callV1 (k' := kX2_take) (d' := 1) dX5_raise_59 lmX5_117 kvX2_take (by first | assumption | rfl) (by rfl) (by decide) (by omega) (Nat.le_of_ble_eq_true rfl) ?_
  refine wp_X2_take hR hS (by omega) hs.2.2.1 hn ?_
  refine wa_aload_n dX5_raise_62 rfl ?_
  refine wa_getR dX5_raise_63 fgX5_18 (by first | assumption | rfl) (by rfl) ?_
  refine wa_iload_n dX5_raise_66 rfl ?_
  refine wa_aalR _ dX5_raise_67 (by first | assumption | rfl) (by first | with_reducible rfl | with_reducible assumption | with_reducible exact ix_ma _ _ _ | with_reducible exact ix_maa _ _ _ _ | with_reducible exact ix_a _ _ | with_reducible exact ix_mama _ _ _ _ _) (by omega) ?_
  rw [show arf 2 r = 43 + 5 * r from rfl]
  refine wa_callV0 (k' := kX2_size) (d' := 0) dX5_raise_68 lmX5_120 kvX2_size (by first | assumption | rfl) (by rfl) (by decide) (by omega) (Nat.le_of_ble_eq_true rfl) ?_
  refine wp_X2_size hR ?_
  refine wa_iret dX5_raise_71 rfl ?_
  rw [rb2l, r1e]
  exact hQ
theorem wp_number {d r n i : Nat} {V : Nat → Int} {μ : Mem} {Q : QM} (hd : 1 ≤ d) (hr : r < 6) (hn : n ≤ 64) (hi : i < n) (h : RowIs μ r n V) (hQ : Q (some (.long (Int64.ofInt (V i)))) μ) : MW kX5_number d [.ref 0, .int (nI r), .int (nI i)] μ Q := by
  have hR := isR_k hr
  have hrh := (isR_sh hR).1
  refine MW_of (by decide) [some (.ref 0), some (.int (nI r)), some (.int (nI i))] rfl (Nat.le_of_ble_eq_true rfl) ?_
  refine wa_iload_n dX5_number_0 rfl ?_
  refine wa_callS1 (k' := kX5_isRow) (d' := 0) dX5_number_1 lmX5_111 ksX5_isRow (by decide) (by omega) (Nat.le_of_ble_eq_true rfl) ?_
  refine wp_X5_isRow (fun j_ hj_ e_ => ?_) (fun q_ => absurd q_ (nob6 hr))
  refine wa_if_neT 11 dX5_number_4 (by decide) (by decide) ?_
  refine wa_iload_n dX5_number_11 rfl ?_
  refine wa_if_ltF 28 dX5_number_12 (by decide) (by rw [nI_toInt (by omega)]; omega) ?_
  refine wa_iload_n dX5_number_15 rfl ?_
  refine wa_aload_n dX5_number_16 rfl ?_
  refine wa_getR dX5_number_17 fgX5_18 (by first | assumption | rfl) (by rfl) ?_
  refine wa_iload_n dX5_number_20 rfl ?_
  refine wa_aalR _ dX5_number_21 (by first | assumption | rfl) (by first | with_reducible rfl | with_reducible assumption | with_reducible exact ix_ma _ _ _ | with_reducible exact ix_maa _ _ _ _ | with_reducible exact ix_a _ _ | with_reducible exact ix_mama _ _ _ _ _) (by omega) ?_
  rw [show arf 2 r = 43 + 5 * r from rfl]
  refine wa_callV0 (k' := kX2_size) (d' := 0) dX5_number_22 lmX5_120 kvX2_size (by first | assumption | rfl) (by rfl) (by decide) (by omega) (Nat.le_of_ble_eq_true rfl) ?_
  refine wp_X2_size hR ?_
  rw [h.1]
  refine wa_ic_ltT 32 dX5_number_25 (by decide) (lt_nI (by omega) (by omega)) ?_
  refine wa_aload_n dX5_number_32 rfl ?_
  refine wa_getR dX5_number_33 fgX5_18 (by first | assumption | rfl) (by rfl) ?_
  refine wa_iload_n dX5_number_36 rfl ?_
  refine wa_aalR _ dX5_number_37 (by first | assumption | rfl) (by first | with_reducible rfl | with_reducible assumption | with_reducible exact ix_ma _ _ _ | with_reducible exact ix_maa _ _ _ _ | with_reducible exact ix_a _ _ | with_reducible exact ix_mama _ _ _ _ _) (by omega) ?_
  rw [show arf 2 r = 43 + 5 * r from rfl]
  refine wa_iload_n dX5_number_38 rfl ?_
  refine wa_callV1 (k' := kX2_valueAt) (d' := 0) dX5_number_39 lmX5_127 kvX2_valueAt (by first | assumption | rfl) (by rfl) (by decide) (by omega) (Nat.le_of_ble_eq_true rfl) ?_
  refine wp_X2_valueAt hR rfl (by omega) ?_
  refine wa_lret dX5_number_42 rfl ?_
  rw [h.2 i hi]
  exact hQ
theorem wp_tones {d r n p : Nat} {V : Nat → Int} {μ : Mem} {Q : QM} (hd : 4 ≤ d) (hr : r < 6) (hp : p < 7) (hnp : n = 2 ^ p) (hn : n ≤ 64) (h : RowIs μ r n V) (hb : bnd V n 1000000) (hQ : ∀ ν, RowIs ν r n (tonZ V p) → Kp μ ν (43 + 5 * r) (48 + 5 * r) → Q (some (.int (nI n))) ν) : MW kX5_turn d [.ref 0, .int (nI r), .int (nI 3)] μ Q := by
  have hR := isR_k hr
  have hrh := (isR_sh hR).1
  have hlog : Nat.log2 n = p := by rw [hnp, Nat.log2_two_pow]
  have hg : ∀ i, i < n → gTon (μ.2 (43 + 5 * r + 1)) n (Nat.log2 n) i = Int64.ofInt (tonZ V p i) := fun i hi => by
    rw [gTon, hlog, z_tn hp (by omega) hn h.2, tonZ, hnp]
  have hin : inB (gW (μ.2 (43 + 5 * r + 1)) n 3) n 4000000000000000 := inB_z (C := 64000000) hg (fun i _ => by have := ton_le hp (fun j hj => hb j (by omega)) i; omega) (by omega) (by omega)
  have hno : ¬ tNO n 3 := by
    rintro (⟨q_, -⟩ | ⟨-, q_⟩)
    · omega
    · exact q_ ⟨p, by omega, hnp⟩
  refine MW_of (by decide) [some (.ref 0), some (.int (nI r)), some (.int (nI 3))] rfl (Nat.le_of_ble_eq_true rfl) ?_
  refine wa_iload_n dX5_turn_0 rfl ?_
  refine wa_callS1 (k' := kX5_isRow) (d' := 0) dX5_turn_1 lmX5_111 ksX5_isRow (by decide) (by omega) (Nat.le_of_ble_eq_true rfl) ?_
  refine wp_X5_isRow (fun j_ hj_ e_ => ?_) (fun q_ => absurd q_ (nob6 hr))
  refine wa_if_eqF 16 dX5_turn_4 (by decide) (by decide) ?_
  refine wa_iload_n dX5_turn_7 rfl ?_
  refine wa_if_ltF 16 dX5_turn_8 (by decide) (by decide) ?_
  refine wa_iload_n dX5_turn_11 rfl ?_
  refine wa_iconst (nI 4) dX5_turn_12 (by decide) ?_
  refine wa_ic_ltT 19 dX5_turn_13 (by decide) (by decide) ?_
  refine wa_aload_n dX5_turn_19 rfl ?_
  refine wa_getR dX5_turn_20 fgX5_18 (by first | assumption | rfl) (by rfl) ?_
  refine wa_iload_n dX5_turn_23 rfl ?_
  refine wa_aalR _ dX5_turn_24 (by first | assumption | rfl) (by first | with_reducible rfl | with_reducible assumption | with_reducible exact ix_ma _ _ _ | with_reducible exact ix_maa _ _ _ _ | with_reducible exact ix_a _ _ | with_reducible exact ix_mama _ _ _ _ _) (by omega) ?_
  rw [show arf 2 r = 43 + 5 * r from rfl]
  refine wa_iload_n dX5_turn_25 rfl ?_
  refine wa_callV1 (k' := kX2_change) (d' := 3) dX5_turn_26 lmX5_130 kvX2_change (by first | assumption | rfl) (by rfl) (by decide) (by omega) (Nat.le_of_ble_eq_true rfl) ?_
  refine wp_X2_change (w := 3) hR (by omega) h.1 hn (by omega) (fun q_ => absurd q_ hno) (fun _ q_ => absurd q_ (by omega)) (fun _ _ q_ => absurd hin q_) (fun _ _ _ => ?_)
  refine wa_iret dX5_turn_29 rfl ?_
  refine hQ _ ⟨?_, fun i hi => ?_⟩ (fun t ht => ?_)
  · rw [rb2l, rb2l]
    exact h.1
  · rw [rb2e, cpy_lt hi, frF, if_pos hi]
    exact hg i hi
  · exact ⟨rfl, by rw [bL_off (by omega), bL_off (by omega)]⟩
theorem wp_mix {d r u n : Nat} {a b : Int} {V U : Nat → Int} {μ : Mem} {Q : QM} (hd : 3 ≤ d) (hr : r < 6) (hu : u < 6) (hn : n ≤ 64) (ha : -1000 ≤ a ∧ a ≤ 1000) (hb : -1000 ≤ b ∧ b ≤ 1000) (h : RowIs μ r n V) (g : RowIs μ u n U) (hV : bnd V n 1000000) (hU : bnd U n 1000000) (hQ : ∀ ν, RowIs ν r n (fun i => a * V i + b * U i) → Kp μ ν (43 + 5 * r) (48 + 5 * r) → Q (some (.int (nI n))) ν) : MW kX5_mix d [.ref 0, .int (nI r), .int (Int32.ofInt a), .int (nI u), .int (Int32.ofInt b)] μ Q := by
  have hR := isR_k hr
  have hrh := (isR_sh hR).1
  have hU1 := isR_k hu
  have huh := (isR_sh hU1).1
  have ea : ∀ x : Int, -1000 ≤ x ∧ x ≤ 1000 → (-(1000 : Int64)).toInt ≤ (Int32.ofInt x).toInt64.toInt ∧ (Int32.ofInt x).toInt64.toInt ≤ (1000 : Int64).toInt := fun x hx => by
    rw [k1e3.1, k1e3.2, Int32.toInt_toInt64, Int32.toInt_ofInt_of_le (by omega) (by omega)]
    omega
  have hg : ∀ i, i < n → gMix (μ.2 (43 + 5 * r + 1)) (μ.2 (43 + 5 * u + 1)) (Int32.ofInt a) (Int32.ofInt b) i = Int64.ofInt (a * V i + b * U i) := fun i hi => by
    rw [gMix, z_32 (by omega) (by omega), z_32 (by omega) (by omega), h.2 i hi, g.2 i hi, ← Int64.ofInt_mul, ← Int64.ofInt_mul, ← Int64.ofInt_add]
  have hin : inB (gMix (μ.2 (43 + 5 * r + 1)) (μ.2 (43 + 5 * u + 1)) (Int32.ofInt a) (Int32.ofInt b)) n 4000000000000000 := inB_z (C := 2000000000) hg (fun i hi => by
    have h1 := hV i hi
    have h2 := hU i hi
    have h3 := zmul_le ha.1 ha.2 h1.1 h1.2
    have h4 := zmul_le hb.1 hb.2 h2.1 h2.2
    omega) (by omega) (by omega)
  refine MW_of (by decide) [some (.ref 0), some (.int (nI r)), some (.int (Int32.ofInt a)), some (.int (nI u)), some (.int (Int32.ofInt b))] rfl (Nat.le_of_ble_eq_true rfl) ?_
  refine wa_iload_n dX5_mix_0 rfl ?_
  refine wa_callS1 (k' := kX5_isRow) (d' := 0) dX5_mix_1 lmX5_111 ksX5_isRow (by decide) (by omega) (Nat.le_of_ble_eq_true rfl) ?_
  refine wp_X5_isRow (fun j_ hj_ e_ => ?_) (fun q_ => absurd q_ (nob6 hr))
  refine wa_if_eqF 37 dX5_mix_4 (by decide) (by decide) ?_
  refine wa_iload_n dX5_mix_7 rfl ?_
  refine wa_callS1 (k' := kX5_isRow) (d' := 0) dX5_mix_8 lmX5_111 ksX5_isRow (by decide) (by omega) (Nat.le_of_ble_eq_true rfl) ?_
  refine wp_X5_isRow (fun j_ hj_ e_ => ?_) (fun q_ => absurd q_ (nob6 hu))
  refine wa_if_eqF 37 dX5_mix_11 (by decide) (by decide) ?_
  refine wa_iload_n dX5_mix_14 rfl ?_
  refine wa_i2l dX5_mix_15 ?_
  refine wa_ldc2 (1000) dX5_mix_16 lcX5_140 ?_
  refine wa_callS2 (k' := kX5_isWithin) (d' := 0) dX5_mix_19 lmX5_142 ksX5_isWithin (by decide) (by omega) (Nat.le_of_ble_eq_true rfl) ?_
  refine wp_X5_isWithin (fun _ => ?_) (fun q_ => absurd (ea a ha) q_)
  refine wa_if_eqF 37 dX5_mix_22 (by decide) (by decide) ?_
  refine wa_iload dX5_mix_25 rfl ?_
  refine wa_i2l dX5_mix_27 ?_
  refine wa_ldc2 (1000) dX5_mix_28 lcX5_140 ?_
  refine wa_callS2 (k' := kX5_isWithin) (d' := 0) dX5_mix_31 lmX5_142 ksX5_isWithin (by decide) (by omega) (Nat.le_of_ble_eq_true rfl) ?_
  refine wp_X5_isWithin (fun _ => ?_) (fun q_ => absurd (ea b hb) q_)
  refine wa_if_neT 40 dX5_mix_34 (by decide) (by decide) ?_
  refine wa_aload_n dX5_mix_40 rfl ?_
  refine wa_getR dX5_mix_41 fgX5_18 (by first | assumption | rfl) (by rfl) ?_
  refine wa_iload_n dX5_mix_44 rfl ?_
  refine wa_aalR _ dX5_mix_45 (by first | assumption | rfl) (by first | with_reducible rfl | with_reducible assumption | with_reducible exact ix_ma _ _ _ | with_reducible exact ix_maa _ _ _ _ | with_reducible exact ix_a _ _ | with_reducible exact ix_mama _ _ _ _ _) (by omega) ?_
  rw [show arf 2 r = 43 + 5 * r from rfl]
  refine wa_callV0 (k' := kX2_size) (d' := 0) dX5_mix_46 lmX5_120 kvX2_size (by first | assumption | rfl) (by rfl) (by decide) (by omega) (Nat.le_of_ble_eq_true rfl) ?_
  refine wp_X2_size hR ?_
  rw [h.1]
  refine wa_aload_n dX5_mix_49 rfl ?_
  refine wa_getR dX5_mix_50 fgX5_18 (by first | assumption | rfl) (by rfl) ?_
  refine wa_iload_n dX5_mix_53 rfl ?_
  refine wa_aalR _ dX5_mix_54 (by first | assumption | rfl) (by first | with_reducible rfl | with_reducible assumption | with_reducible exact ix_ma _ _ _ | with_reducible exact ix_maa _ _ _ _ | with_reducible exact ix_a _ _ | with_reducible exact ix_mama _ _ _ _ _) (by omega) ?_
  rw [show arf 2 u = 43 + 5 * u from rfl]
  refine wa_callV0 (k' := kX2_size) (d' := 0) dX5_mix_55 lmX5_120 kvX2_size (by first | assumption | rfl) (by rfl) (by decide) (by omega) (Nat.le_of_ble_eq_true rfl) ?_
  refine wp_X2_size hU1 ?_
  rw [g.1]
  refine wa_ic_eqT 64 dX5_mix_58 (by decide) (rfl) ?_
  refine wa_aload_n dX5_mix_64 rfl ?_
  refine wa_getR dX5_mix_65 fgX5_18 (by first | assumption | rfl) (by rfl) ?_
  refine wa_iload_n dX5_mix_68 rfl ?_
  refine wa_aalR _ dX5_mix_69 (by first | assumption | rfl) (by first | with_reducible rfl | with_reducible assumption | with_reducible exact ix_ma _ _ _ | with_reducible exact ix_maa _ _ _ _ | with_reducible exact ix_a _ _ | with_reducible exact ix_mama _ _ _ _ _) (by omega) ?_
  rw [show arf 2 r = 43 + 5 * r from rfl]
  refine wa_iload_n dX5_mix_70 rfl ?_
  refine wa_aload_n dX5_mix_71 rfl ?_
  refine wa_getR dX5_mix_72 fgX5_18 (by first | assumption | rfl) (by rfl) ?_
  refine wa_iload_n dX5_mix_75 rfl ?_
  refine wa_aalR _ dX5_mix_76 (by first | assumption | rfl) (by first | with_reducible rfl | with_reducible assumption | with_reducible exact ix_ma _ _ _ | with_reducible exact ix_maa _ _ _ _ | with_reducible exact ix_a _ _ | with_reducible exact ix_mama _ _ _ _ _) (by omega) ?_
  rw [show arf 2 u = 43 + 5 * u from rfl]
  refine wa_iload dX5_mix_77 rfl ?_
  refine wa_callV3 (k' := kX2_blend) (d' := 2) dX5_mix_79 lmX5_146 kvX2_blend (by first | assumption | rfl) (by rfl) (by decide) (by omega) (Nat.le_of_ble_eq_true rfl) ?_
  refine wp_X2_blend hR hU1 (by omega) h.1 hn (fun q_ => absurd hin q_) (fun _ => ?_)
  refine wa_iret dX5_mix_82 rfl ?_
  refine hQ _ ⟨?_, fun i hi => ?_⟩ (fun t ht => ?_)
  · rw [rb2l, rb2l]
    exact h.1
  · rw [rb2e, cpy_lt hi, frF, if_pos hi]
    exact hg i hi
  · exact ⟨rfl, by rw [bL_off (by omega), bL_off (by omega)]⟩
theorem wp_force {d r n a b : Nat} {V : Nat → Int} {μ : Mem} {Q : QM} (hd : 2 ≤ d) (hr : r < 6) (hn : n ≤ 64) (hab : a ≤ b) (hb : b ≤ 64) (han : a ≤ n) (h : RowIs μ r n V) (hV : bnd V n 100000000) (hQ : Q (some (.long (Int64.ofInt (frZ V a b n)))) μ) : MW kX5_force d [.ref 0, .int (nI r), .int (nI a), .int (nI b)] μ Q := by
  have hR := isR_k hr
  have hrh := (isR_sh hR).1
  have eb : (nI b).toInt = (b : Int) := nI_toInt (by omega)
  have hno : ¬ (oob (nI r) 6 ∨ (nI a).toInt < 0 ∨ (nI b).toInt < (nI a).toInt) := by
    have ea : (nI a).toInt = (a : Int) := nI_toInt (by omega)
    rintro (q_ | q_ | q_)
    · exact nob6 hr q_
    · omega
    · omega
  refine MW_of (by decide) [some (.ref 0), some (.int (nI r)), some (.int (nI a)), some (.int (nI b))] rfl (Nat.le_of_ble_eq_true rfl) ?_
  refine wa_iload_n dX5_force_0 rfl ?_
  refine wa_iload_n dX5_force_1 rfl ?_
  refine wa_iload_n dX5_force_2 rfl ?_
  refine wa_callS3 (k' := kX5_isStretch) (d' := 1) dX5_force_3 lmX5_133 ksX5_isStretch (by decide) (by omega) (Nat.le_of_ble_eq_true rfl) ?_
  refine wp_X5_isStretch (by omega) (fun r_ hr_ hk_ h0_ hab_ => ?_) (fun q_ => absurd q_ hno)
  refine wa_if_neT 13 dX5_force_6 (by decide) (by decide) ?_
  refine wa_aload_n dX5_force_13 rfl ?_
  refine wa_getR dX5_force_14 fgX5_18 (by first | assumption | rfl) (by rfl) ?_
  refine wa_iload_n dX5_force_17 rfl ?_
  refine wa_aalR _ dX5_force_18 (by first | assumption | rfl) (by first | with_reducible rfl | with_reducible assumption | with_reducible exact ix_ma _ _ _ | with_reducible exact ix_maa _ _ _ _ | with_reducible exact ix_a _ _ | with_reducible exact ix_mama _ _ _ _ _) (by omega) ?_
  rw [show arf 2 r = 43 + 5 * r from rfl]
  refine wa_ldc2 (200000000) dX5_force_19 lcX5_150 ?_
  refine wa_iload_n dX5_force_22 rfl ?_
  refine wa_iload_n dX5_force_23 rfl ?_
  refine wa_callV3 (k' := kX2_exceeds) (d' := 1) dX5_force_24 lmX5_152 kvX2_exceeds (by first | assumption | rfl) (by rfl) (by decide) (by omega) (Nat.le_of_ble_eq_true rfl) ?_
  refine wp_X2_exceeds (a := a) (n := n) hR (by omega) h.1 hn k2e8 (by omega) (fun q_ => absurd (fun j_ _ h2_ _ => inB_z (B := 200000000) h.2 hV (by omega) (by omega) j_ h2_) q_) (fun _ => ?_)
  refine wa_if_eqT 34 dX5_force_27 (by decide) (by decide) ?_
  refine wa_aload_n dX5_force_34 rfl ?_
  refine wa_getR dX5_force_35 fgX5_18 (by first | assumption | rfl) (by rfl) ?_
  refine wa_iload_n dX5_force_38 rfl ?_
  refine wa_aalR _ dX5_force_39 (by first | assumption | rfl) (by first | with_reducible rfl | with_reducible assumption | with_reducible exact ix_ma _ _ _ | with_reducible exact ix_maa _ _ _ _ | with_reducible exact ix_a _ _ | with_reducible exact ix_mama _ _ _ _ _) (by omega) ?_
  rw [show arf 2 r = 43 + 5 * r from rfl]
  refine wa_iload_n dX5_force_40 rfl ?_
  refine wa_iload_n dX5_force_41 rfl ?_
  refine wa_callV2 (k' := kX2_squares) (d' := 0) dX5_force_42 lmX5_158 kvX2_squares (by first | assumption | rfl) (by rfl) (by decide) (by omega) (Nat.le_of_ble_eq_true rfl) ?_
  refine wp_X2_squares (a := a) (n := n) hR h.1 hn (by omega) ?_
  refine wa_lret dX5_force_45 rfl ?_
  rw [eb, z_sq0 h.2 hn han]
  exact hQ
theorem wp_cross {d r u n : Nat} {V U : Nat → Int} {μ : Mem} {Q : QM} (hd : 3 ≤ d) (hr : r < 6) (hu : u < 6) (hn : n ≤ 64) (h : RowIs μ r n V) (g : RowIs μ u n U) (hV : bnd V n 100000000) (hU : bnd U n 100000000) (hQ : Q (some (.long (Int64.ofInt (sumZ (fun i => V i * U i) n)))) μ) : MW kX5_cross d [.ref 0, .int (nI r), .int (nI u)] μ Q := by
  have hR := isR_k hr
  have hrh := (isR_sh hR).1
  have hU1 := isR_k hu
  have huh := (isR_sh hU1).1
  refine MW_of (by decide) [some (.ref 0), some (.int (nI r)), some (.int (nI u))] rfl (Nat.le_of_ble_eq_true rfl) ?_
  refine wa_iload_n dX5_cross_0 rfl ?_
  refine wa_callS1 (k' := kX5_isRow) (d' := 0) dX5_cross_1 lmX5_111 ksX5_isRow (by decide) (by omega) (Nat.le_of_ble_eq_true rfl) ?_
  refine wp_X5_isRow (fun j_ hj_ e_ => ?_) (fun q_ => absurd q_ (nob6 hr))
  refine wa_if_eqF 14 dX5_cross_4 (by decide) (by decide) ?_
  refine wa_iload_n dX5_cross_7 rfl ?_
  refine wa_callS1 (k' := kX5_isRow) (d' := 0) dX5_cross_8 lmX5_111 ksX5_isRow (by decide) (by omega) (Nat.le_of_ble_eq_true rfl) ?_
  refine wp_X5_isRow (fun j_ hj_ e_ => ?_) (fun q_ => absurd q_ (nob6 hu))
  refine wa_if_neT 18 dX5_cross_11 (by decide) (by decide) ?_
  refine wa_aload_n dX5_cross_18 rfl ?_
  refine wa_getR dX5_cross_19 fgX5_18 (by first | assumption | rfl) (by rfl) ?_
  refine wa_iload_n dX5_cross_22 rfl ?_
  refine wa_aalR _ dX5_cross_23 (by first | assumption | rfl) (by first | with_reducible rfl | with_reducible assumption | with_reducible exact ix_ma _ _ _ | with_reducible exact ix_maa _ _ _ _ | with_reducible exact ix_a _ _ | with_reducible exact ix_mama _ _ _ _ _) (by omega) ?_
  rw [show arf 2 r = 43 + 5 * r from rfl]
  refine wa_callV0 (k' := kX2_size) (d' := 0) dX5_cross_24 lmX5_120 kvX2_size (by first | assumption | rfl) (by rfl) (by decide) (by omega) (Nat.le_of_ble_eq_true rfl) ?_
  refine wp_X2_size hR ?_
  rw [h.1]
  refine wa_aload_n dX5_cross_27 rfl ?_
  refine wa_getR dX5_cross_28 fgX5_18 (by first | assumption | rfl) (by rfl) ?_
  refine wa_iload_n dX5_cross_31 rfl ?_
  refine wa_aalR _ dX5_cross_32 (by first | assumption | rfl) (by first | with_reducible rfl | with_reducible assumption | with_reducible exact ix_ma _ _ _ | with_reducible exact ix_maa _ _ _ _ | with_reducible exact ix_a _ _ | with_reducible exact ix_mama _ _ _ _ _) (by omega) ?_
  rw [show arf 2 u = 43 + 5 * u from rfl]
  refine wa_callV0 (k' := kX2_size) (d' := 0) dX5_cross_33 lmX5_120 kvX2_size (by first | assumption | rfl) (by rfl) (by decide) (by omega) (Nat.le_of_ble_eq_true rfl) ?_
  refine wp_X2_size hU1 ?_
  rw [g.1]
  refine wa_ic_eqT 43 dX5_cross_36 (by decide) (rfl) ?_
  refine wa_aload_n dX5_cross_43 rfl ?_
  refine wa_getR dX5_cross_44 fgX5_18 (by first | assumption | rfl) (by rfl) ?_
  refine wa_iload_n dX5_cross_47 rfl ?_
  refine wa_aalR _ dX5_cross_48 (by first | assumption | rfl) (by first | with_reducible rfl | with_reducible assumption | with_reducible exact ix_ma _ _ _ | with_reducible exact ix_maa _ _ _ _ | with_reducible exact ix_a _ _ | with_reducible exact ix_mama _ _ _ _ _) (by omega) ?_
  rw [show arf 2 r = 43 + 5 * r from rfl]
  refine wa_ldc2 (200000000) dX5_cross_49 lcX5_150 ?_
  refine wa_callV1 (k' := kX2_anyExceeds) (d' := 2) dX5_cross_52 lmX5_164 kvX2_anyExceeds (by first | assumption | rfl) (by rfl) (by decide) (by omega) (Nat.le_of_ble_eq_true rfl) ?_
  refine wp_X2_anyExceeds (n := n) hR (by omega) h.1 hn k2e8 (fun q_ => absurd (inB_z h.2 hV (by omega) (by omega)) q_) (fun _ => ?_)
  refine wa_if_neF 73 dX5_cross_55 (by decide) (by decide) ?_
  refine wa_aload_n dX5_cross_58 rfl ?_
  refine wa_getR dX5_cross_59 fgX5_18 (by first | assumption | rfl) (by rfl) ?_
  refine wa_iload_n dX5_cross_62 rfl ?_
  refine wa_aalR _ dX5_cross_63 (by first | assumption | rfl) (by first | with_reducible rfl | with_reducible assumption | with_reducible exact ix_ma _ _ _ | with_reducible exact ix_maa _ _ _ _ | with_reducible exact ix_a _ _ | with_reducible exact ix_mama _ _ _ _ _) (by omega) ?_
  rw [show arf 2 u = 43 + 5 * u from rfl]
  refine wa_ldc2 (200000000) dX5_cross_64 lcX5_150 ?_
  refine wa_callV1 (k' := kX2_anyExceeds) (d' := 2) dX5_cross_67 lmX5_164 kvX2_anyExceeds (by first | assumption | rfl) (by rfl) (by decide) (by omega) (Nat.le_of_ble_eq_true rfl) ?_
  refine wp_X2_anyExceeds (n := n) hU1 (by omega) g.1 hn k2e8 (fun q_ => absurd (inB_z g.2 hU (by omega) (by omega)) q_) (fun _ => ?_)
  refine wa_if_eqT 77 dX5_cross_70 (by decide) (by decide) ?_
  refine wa_aload_n dX5_cross_77 rfl ?_
  refine wa_getR dX5_cross_78 fgX5_18 (by first | assumption | rfl) (by rfl) ?_
  refine wa_iload_n dX5_cross_81 rfl ?_
  refine wa_aalR _ dX5_cross_82 (by first | assumption | rfl) (by first | with_reducible rfl | with_reducible assumption | with_reducible exact ix_ma _ _ _ | with_reducible exact ix_maa _ _ _ _ | with_reducible exact ix_a _ _ | with_reducible exact ix_mama _ _ _ _ _) (by omega) ?_
  rw [show arf 2 r = 43 + 5 * r from rfl]
  refine wa_aload_n dX5_cross_83 rfl ?_
  refine wa_getR dX5_cross_84 fgX5_18 (by first | assumption | rfl) (by rfl) ?_
  refine wa_iload_n dX5_cross_87 rfl ?_
  refine wa_aalR _ dX5_cross_88 (by first | assumption | rfl) (by first | with_reducible rfl | with_reducible assumption | with_reducible exact ix_ma _ _ _ | with_reducible exact ix_maa _ _ _ _ | with_reducible exact ix_a _ _ | with_reducible exact ix_mama _ _ _ _ _) (by omega) ?_
  rw [show arf 2 u = 43 + 5 * u from rfl]
  refine wa_callV1 (k' := kX2_products) (d' := 0) dX5_cross_89 lmX5_168 kvX2_products (by first | assumption | rfl) (by rfl) (by decide) (by omega) (Nat.le_of_ble_eq_true rfl) ?_
  refine wp_X2_products (n := n) hR hU1 h.1 hn ?_
  refine wa_lret dX5_cross_92 rfl ?_
  rw [z_pr h.2 g.2]
  exact hQ
