/-! WaveBuoys itself: what several calls need -/
def oob (x : Int32) (n : Int) : Prop := x.toInt < 0 ∨ n ≤ x.toInt
theorem wp_X5_isSheet {d : Nat} {k : Int32} {μ : Mem} {Q : QM} (h1 : ∀ j, j < 8 → k = nI j → Q (some (.int (nI 1))) μ) (h0 : oob k 8 → Q (some (.int (nI 0))) μ) : MW kX5_isSheet d [.int k] μ Q := by
  refine MW_of (by decide) [some (.int k)] rfl (Nat.le_of_ble_eq_true rfl) ?_
  unfold oob at h0
  refine wa_iload_n dX5_isSheet_0 rfl ?_
  refine wa_if_lt 14 dX5_isSheet_1 (by decide) (fun c1_1 => ?_) (fun c1_1 => ?_)
  · try simp (disch := omega) only [nI_toInt, Int32.toInt_toInt64] at c1_1
    refine wa_iconst (nI 0) dX5_isSheet_14 (by decide) ?_
    refine wa_zret dX5_isSheet_15 rfl (by decide) ?_
    exact h0 (by omega)
  · try simp (disch := omega) only [nI_toInt, Int32.toInt_toInt64] at c1_1
    refine wa_iload_n dX5_isSheet_4 rfl ?_
    refine wa_bipush (nI 8) dX5_isSheet_5 (by decide) ?_
    refine wa_ic_ge 14 dX5_isSheet_7 (by decide) (fun c7_2 => ?_) (fun c7_2 => ?_)
    · try simp (disch := omega) only [nI_toInt, Int32.toInt_toInt64] at c7_2
      refine wa_iconst (nI 0) dX5_isSheet_14 (by decide) ?_
      refine wa_zret dX5_isSheet_15 rfl (by decide) ?_
      exact h0 (by omega)
    · try simp (disch := omega) only [nI_toInt, Int32.toInt_toInt64] at c7_2
      refine wa_iconst (nI 1) dX5_isSheet_10 (by decide) ?_
      refine wa_goto 15 dX5_isSheet_11 (by decide) ?_
      refine wa_zret dX5_isSheet_15 rfl (by decide) ?_
      obtain ⟨j, hj, e⟩ := nI_ex (x := k) (n := 8) (by omega) (by omega) (by omega)
      exact h1 j hj e
theorem wp_X5_isRow {d : Nat} {k : Int32} {μ : Mem} {Q : QM} (h1 : ∀ j, j < 6 → k = nI j → Q (some (.int (nI 1))) μ) (h0 : oob k 6 → Q (some (.int (nI 0))) μ) : MW kX5_isRow d [.int k] μ Q := by
  refine MW_of (by decide) [some (.int k)] rfl (Nat.le_of_ble_eq_true rfl) ?_
  unfold oob at h0
  refine wa_iload_n dX5_isRow_0 rfl ?_
  refine wa_if_lt 14 dX5_isRow_1 (by decide) (fun c1_1 => ?_) (fun c1_1 => ?_)
  · try simp (disch := omega) only [nI_toInt, Int32.toInt_toInt64] at c1_1
    refine wa_iconst (nI 0) dX5_isRow_14 (by decide) ?_
    refine wa_zret dX5_isRow_15 rfl (by decide) ?_
    exact h0 (by omega)
  · try simp (disch := omega) only [nI_toInt, Int32.toInt_toInt64] at c1_1
    refine wa_iload_n dX5_isRow_4 rfl ?_
    refine wa_bipush (nI 6) dX5_isRow_5 (by decide) ?_
    refine wa_ic_ge 14 dX5_isRow_7 (by decide) (fun c7_2 => ?_) (fun c7_2 => ?_)
    · try simp (disch := omega) only [nI_toInt, Int32.toInt_toInt64] at c7_2
      refine wa_iconst (nI 0) dX5_isRow_14 (by decide) ?_
      refine wa_zret dX5_isRow_15 rfl (by decide) ?_
      exact h0 (by omega)
    · try simp (disch := omega) only [nI_toInt, Int32.toInt_toInt64] at c7_2
      refine wa_iconst (nI 1) dX5_isRow_10 (by decide) ?_
      refine wa_goto 15 dX5_isRow_11 (by decide) ?_
      refine wa_zret dX5_isRow_15 rfl (by decide) ?_
      obtain ⟨j, hj, e⟩ := nI_ex (x := k) (n := 6) (by omega) (by omega) (by omega)
      exact h1 j hj e
theorem wp_X5_isStretch {d : Nat} {k a b : Int32} {μ : Mem} {Q : QM} (hd : 1 ≤ d) (h1 : ∀ r, r < 6 → k = nI r → 0 ≤ a.toInt → a.toInt ≤ b.toInt → Q (some (.int (nI 1))) μ) (h0 : (oob k 6 ∨ a.toInt < 0 ∨ b.toInt < a.toInt) → Q (some (.int (nI 0))) μ) : MW kX5_isStretch d [.int k, .int a, .int b] μ Q := by
  refine MW_of (by decide) [some (.int k), some (.int a), some (.int b)] rfl (Nat.le_of_ble_eq_true rfl) ?_
  refine wa_iload_n dX5_isStretch_0 rfl ?_
  refine wa_callS1 (k' := kX5_isRow) (d' := 0) dX5_isStretch_1 lmX5_111 ksX5_isRow (by decide) (by omega) (Nat.le_of_ble_eq_true rfl) ?_
  refine wp_X5_isRow (fun r hr hrk => ?_) (fun hoob => ?_)
  · skip
    refine wa_if_eqF 20 dX5_isStretch_4 (by decide) (by decide) ?_
    refine wa_iload_n dX5_isStretch_7 rfl ?_
    refine wa_if_lt 20 dX5_isStretch_8 (by decide) (fun c8_2 => ?_) (fun c8_2 => ?_)
    · try simp (disch := omega) only [nI_toInt, Int32.toInt_toInt64] at c8_2
      refine wa_iconst (nI 0) dX5_isStretch_20 (by decide) ?_
      refine wa_zret dX5_isStretch_21 rfl (by decide) ?_
      exact h0 (by omega)
    · try simp (disch := omega) only [nI_toInt, Int32.toInt_toInt64] at c8_2
      refine wa_iload_n dX5_isStretch_11 rfl ?_
      refine wa_iload_n dX5_isStretch_12 rfl ?_
      refine wa_ic_lt 20 dX5_isStretch_13 (by decide) (fun c13_3 => ?_) (fun c13_3 => ?_)
      · try simp (disch := omega) only [nI_toInt, Int32.toInt_toInt64] at c13_3
        refine wa_iconst (nI 0) dX5_isStretch_20 (by decide) ?_
        refine wa_zret dX5_isStretch_21 rfl (by decide) ?_
        exact h0 (by omega)
      · try simp (disch := omega) only [nI_toInt, Int32.toInt_toInt64] at c13_3
        refine wa_iconst (nI 1) dX5_isStretch_16 (by decide) ?_
        refine wa_goto 21 dX5_isStretch_17 (by decide) ?_
        refine wa_zret dX5_isStretch_21 rfl (by decide) ?_
        exact h1 r hr hrk (by omega) (by omega)
  · skip
    refine wa_if_eqT 20 dX5_isStretch_4 (by decide) (by decide) ?_
    refine wa_iconst (nI 0) dX5_isStretch_20 (by decide) ?_
    refine wa_zret dX5_isStretch_21 rfl (by decide) ?_
    exact h0 (Or.inl hoob)
def thOk (μ : Mem) : Prop := ∀ j, j < 8 → μ.1 (7 + 4 * j) 0 = nI 0 ∨ μ.1 (7 + 4 * j) 0 = nI 1
theorem isS_k {j : Nat} (h : j < 9) : isS (7 + 4 * j) := ⟨j, h, rfl⟩
theorem isR_k {j : Nat} (h : j < 6) : isR (43 + 5 * j) := ⟨j, h, rfl⟩
theorem wp_X5_sheetFailure {d : Nat} {k : Int32} {μ : Mem} {Q : QM} (hd : 1 ≤ d) (hth : thOk μ) (hB : oob k 8 → Q (some (.int (-2))) μ) (hN : ∀ j, j < 8 → k = nI j → μ.1 (7 + 4 * j) 0 = nI 0 → Q (some (.int (-10))) μ) (hF : ∀ j, j < 8 → k = nI j → μ.1 (7 + 4 * j) 0 = nI 1 → Q (some (.int (nI 0))) μ) : MW kX5_sheetFailure d [.ref 0, .int k] μ Q := by
  refine MW_of (by decide) [some (.ref 0), some (.int k)] rfl (Nat.le_of_ble_eq_true rfl) ?_
  refine wa_iload_n dX5_sheetFailure_0 rfl ?_
  refine wa_callS1 (k' := kX5_isSheet) (d' := 0) dX5_sheetFailure_1 lmX5_44 ksX5_isSheet (by decide) (by omega) (Nat.le_of_ble_eq_true rfl) ?_
  refine wp_X5_isSheet (fun j hj hk => ?_) (fun hoob => ?_)
  · skip
    refine wa_if_neT 10 dX5_sheetFailure_4 (by decide) (by decide) ?_
    refine wa_aload_n dX5_sheetFailure_10 rfl ?_
    refine wa_getR dX5_sheetFailure_11 fgX5_11 (by first | assumption | rfl) (by rfl) ?_
    refine wa_iload_n dX5_sheetFailure_14 rfl ?_
    refine wa_aalS _ dX5_sheetFailure_15 (by first | assumption | rfl) (by exact hk) (by omega) ?_
    rw [show arf 1 j = 7 + 4 * j from rfl]; have hS := isS_k (show j < 9 by omega); have hsh := (isS_sh hS).1
    refine wa_callV0 (k' := kX3_isThere) (d' := 0) dX5_sheetFailure_16 lmX5_87 kvX3_isThere (by first | assumption | rfl) (by rfl) (by decide) (by omega) (Nat.le_of_ble_eq_true rfl) ?_
    refine wp_X3_isThere (isS_k (by omega)) (hth j hj) (fun h => ?_) (fun h => ?_)
    · skip
      refine wa_if_eqF 26 dX5_sheetFailure_19 (by decide) (by decide) ?_
      refine wa_iconst (nI 0) dX5_sheetFailure_22 (by decide) ?_
      refine wa_goto 28 dX5_sheetFailure_23 (by decide) ?_
      refine wa_iret dX5_sheetFailure_28 rfl ?_
      exact hF j hj hk h
    · skip
      refine wa_if_eqT 26 dX5_sheetFailure_19 (by decide) (by decide) ?_
      refine wa_bipush (-10) dX5_sheetFailure_26 (by decide) ?_
      refine wa_iret dX5_sheetFailure_28 rfl ?_
      exact hN j hj hk h
  · skip
    refine wa_if_neF 10 dX5_sheetFailure_4 (by decide) (by decide) ?_
    refine wa_bipush (-2) dX5_sheetFailure_7 (by decide) ?_
    refine wa_iret dX5_sheetFailure_9 rfl ?_
    exact hB hoob
theorem wp_X5_sampleFailure {d : Nat} {k i : Int32} {sz : Nat → Nat} {μ : Mem} {Q : QM} (hd : 2 ≤ d) (hth : thOk μ) (hsz : ∀ j, j < 8 → μ.1 (7 + 4 * j) 2 = nI (sz j) ∧ sz j ≤ 64) (hB : oob k 8 → Q (some (.int (-2))) μ) (hN : ∀ j, j < 8 → k = nI j → μ.1 (7 + 4 * j) 0 = nI 0 → Q (some (.int (-10))) μ) (hP : ∀ j, j < 8 → k = nI j → μ.1 (7 + 4 * j) 0 = nI 1 → (i.toInt < 0 ∨ (sz j : Int) ≤ i.toInt) → Q (some (.int (-13))) μ) (hF : ∀ j, j < 8 → k = nI j → μ.1 (7 + 4 * j) 0 = nI 1 → ∀ a, a < sz j → i = nI a → Q (some (.int (nI 0))) μ) : MW kX5_sampleFailure d [.ref 0, .int k, .int i] μ Q := by
  refine MW_of (by decide) [some (.ref 0), some (.int k), some (.int i), none] rfl (Nat.le_of_ble_eq_true rfl) ?_
  refine wa_aload_n dX5_sampleFailure_0 rfl ?_
  refine wa_iload_n dX5_sampleFailure_1 rfl ?_
  refine wa_callV1 (k' := kX5_sheetFailure) (d' := 1) dX5_sampleFailure_2 lmX5_52 kvX5_sheetFailure (by first | assumption | rfl) (by rfl) (by decide) (by omega) (Nat.le_of_ble_eq_true rfl) ?_
  refine wp_X5_sheetFailure (by omega) hth (fun hoob => ?_) (fun j hj hk h => ?_) (fun j hj hk h => ?_)
  · skip
    refine wa_istore_n dX5_sampleFailure_5 (by decide) ?_
    refine wa_iload_n dX5_sampleFailure_6 rfl ?_
    refine wa_if_eqF 12 dX5_sampleFailure_7 (by decide) (by decide) ?_
    refine wa_iload_n dX5_sampleFailure_10 rfl ?_
    refine wa_iret dX5_sampleFailure_11 rfl ?_
    exact hB hoob
  · skip
    refine wa_istore_n dX5_sampleFailure_5 (by decide) ?_
    refine wa_iload_n dX5_sampleFailure_6 rfl ?_
    refine wa_if_eqF 12 dX5_sampleFailure_7 (by decide) (by decide) ?_
    refine wa_iload_n dX5_sampleFailure_10 rfl ?_
    refine wa_iret dX5_sampleFailure_11 rfl ?_
    exact hN j hj hk h
  · skip
    refine wa_istore_n dX5_sampleFailure_5 (by decide) ?_
    refine wa_iload_n dX5_sampleFailure_6 rfl ?_
    refine wa_if_eqT 12 dX5_sampleFailure_7 (by decide) (by decide) ?_
    refine wa_aload_n dX5_sampleFailure_12 rfl ?_
    refine wa_getR dX5_sampleFailure_13 fgX5_11 (by first | assumption | rfl) (by rfl) ?_
    refine wa_iload_n dX5_sampleFailure_16 rfl ?_
    refine wa_aalS _ dX5_sampleFailure_17 (by first | assumption | rfl) (by exact hk) (by omega) ?_
    refine wa_iload_n dX5_sampleFailure_18 rfl ?_
    rw [show arf 1 j = 7 + 4 * j from rfl]; have hS := isS_k (show j < 9 by omega); have hsh := (isS_sh hS).1
    refine wa_callV1 (k' := kX3_has) (d' := 0) dX5_sampleFailure_19 lmX5_271 kvX3_has (by first | assumption | rfl) (by rfl) (by decide) (by omega) (Nat.le_of_ble_eq_true rfl) ?_
    refine wp_X3_has (isS_k (by omega)) (hsz j hj).1 (hsz j hj).2 (fun a ha hia => ?_) (fun hia => ?_)
    · skip
      refine wa_if_eqF 29 dX5_sampleFailure_22 (by decide) (by decide) ?_
      refine wa_iconst (nI 0) dX5_sampleFailure_25 (by decide) ?_
      refine wa_goto 31 dX5_sampleFailure_26 (by decide) ?_
      refine wa_iret dX5_sampleFailure_31 rfl ?_
      exact hF j hj hk h a ha hia
    · skip
      refine wa_if_eqT 29 dX5_sampleFailure_22 (by decide) (by decide) ?_
      refine wa_bipush (-13) dX5_sampleFailure_29 (by decide) ?_
      refine wa_iret dX5_sampleFailure_31 rfl ?_
      exact hP j hj hk h hia
/-! the way -/
