/-! WaveBuoys itself: what several calls need -/
def oob (x : Int32) (n : Int) : Prop := x.toInt < 0 ∨ n ≤ x.toInt
theorem wp_X5_isSheet {d : Nat} {k : Int32} {μ : Mem} {Q : QM} (h1 : ∀ j, j < 8 → k = nI j → Q (some (.int (nI 1))) μ) (h0 : oob k 8 → Q (some (.int (nI 0))) μ) : MW kX5_isSheet d [.int k] μ Q := by
  refine MW_of (by decide) [some (.int k)] rfl (Nat.le_of_ble_eq_true rfl) ?_
  unfold oob at h0
  refine wa_iload_n dX5_isSheet_0 rfl ?_
  refine wa_if_lt 14 dX5_isSheet_1 (by decide) (fun c1_1 => ?_) (fun c1_1 => ?_)
  · try simp (disch := omega) only [nI_toInt, Int32.toInt_toInt64] at c1_1
    refine wa_iconst (nI 0) dX5_isSheet_14 (by decide) ?_
    refine wa_zret dX5_isSheet_15 rfl (by decide) ?_
    exact h0 (by omega)
  · try simp (disch := omega) only [nI_toInt, Int32.toInt_toInt64] at c1_1
    refine wa_iload_n dX5_isSheet_4 rfl ?_
    refine wa_bipush (nI 8) dX5_isSheet_5 (by decide) ?_
    refine wa_ic_ge 14 dX5_isSheet_7 (by decide) (fun c7_2 => ?_) (fun c7_2 => ?_)
    · try simp (disch := omega) only [nI_toInt, Int32.toInt_toInt64] at c7_2
      refine wa_iconst (nI 0) dX5_isSheet_14 (by decide) ?_
      refine wa_zret dX5_isSheet_15 rfl (by decide) ?_
      exact h0 (by omega)
    · try simp (disch := omega) only [nI_toInt, Int32.toInt_toInt64] at c7_2
      refine wa_iconst (nI 1) dX5_isSheet_10 (by decide) ?_
      refine wa_goto 15 dX5_isSheet_11 (by decide) ?_
      refine wa_zret dX5_isSheet_15 rfl (by decide) ?_
      obtain ⟨j, hj, e⟩ := nI_ex (x := k) (n := 8) (by omega) (by omega) (by omega)
      exact h1 j hj e
theorem wp_X5_isRow {d : Nat} {k : Int32} {μ : Mem} {Q : QM} (h1 : ∀ j, j < 6 → k = nI j → Q (some (.int (nI 1))) μ) (h0 : oob k 6 → Q (some (.int (nI 0))) μ) : MW kX5_isRow d [.int k] μ Q := by
  refine MW_of (by decide) [some (.int k)] rfl (Nat.le_of_ble_eq_true rfl) ?_
  unfold oob at h0
  refine wa_iload_n dX5_isRow_0 rfl ?_
  refine wa_if_lt 14 dX5_isRow_1 (by decide) (fun c1_1 => ?_) (fun c1_1 => ?_)
  · try simp (disch := omega) only [nI_toInt, Int32.toInt_toInt64] at c1_1
    refine wa_iconst (nI 0) dX5_isRow_14 (by decide) ?_
    refine wa_zret dX5_isRow_15 rfl (by decide) ?_
    exact h0 (by omega)
  · try simp (disch := omega) only [nI_toInt, Int32.toInt_toInt64] at c1_1
    refine wa_iload_n dX5_isRow_4 rfl ?_
    refine wa_bipush (nI 6) dX5_isRow_5 (by decide) ?_
    refine wa_ic_ge 14 dX5_isRow_7 (by decide) (fun c7_2 => ?_) (fun c7_2 => ?_)
    · try simp (disch := omega) only [nI_toInt, Int32.toInt_toInt64] at c7_2
      refine wa_iconst (nI 0) dX5_isRow_14 (by decide) ?_
      refine wa_zret dX5_isRow_15 rfl (by decide) ?_
      exact h0 (by omega)
    · try simp (disch := omega) only [nI_toInt, Int32.toInt_toInt64] at c7_2
      refine wa_iconst (nI 1) dX5_isRow_10 (by decide) ?_
      refine wa_goto 15 dX5_isRow_11 (by decide) ?_
      refine wa_zret dX5_isRow_15 rfl (by decide) ?_
      obtain ⟨j, hj, e⟩ := nI_ex (x := k) (n := 6) (by omega) (by omega) (by omega)
      exact h1 j hj e
theorem wp_X5_isStretch {d : Nat} {k a b : Int32} {μ : Mem} {Q : QM} (hd : 1 ≤ d) (h1 : ∀ r, r < 6 → k = nI r → 0 ≤ a.toInt → a.toInt ≤ b.toInt → Q (some (.int (nI 1))) μ) (h0 : (oob k 6 ∨ a.toInt < 0 ∨ b.toInt < a.toInt) → Q (some (.int (nI 0))) μ) : MW kX5_isStretch d [.int k, .int a, .int b] μ Q := by
  refine MW_of (by decide) [some (.int k), some (.int a), some (.int b)] rfl (Nat.le_of_ble_eq_true rfl) ?_
  refine wa_iload_n dX5_isStretch_0 rfl ?_
  refine wa_callS1 (k' := kX5_isRow) (d' := 0) dX5_isStretch_1 lmX5_111 ksX5_isRow (by decide) (by omega) (Nat.le_of_ble_eq_true rfl) ?_
  refine wp_X5_isRow (fun r hr hrk => ?_) (fun hoob => ?_)
  · skip
    refine wa_if_eqF 20 dX5_isStretch_4 (by decide) (by decide) ?_
    refine wa_iload_n dX5_isStretch_7 rfl ?_
    refine wa_if_lt 20 dX5_isStretch_8 (by decide) (fun c8_2 => ?_) (fun c8_2 => ?_)
    · try simp (disch := omega) only [nI_toInt, Int32.toInt_toInt64] at c8_2
      refine wa_iconst (nI 0) dX5_isStretch_20 (by decide) ?_
      refine wa_zret dX5_isStretch_21 rfl (by decide) ?_
      exact h0 (by omega)
    · try simp (disch := omega) only [nI_toInt, Int32.toInt_toInt64] at c8_2
      refine wa_iload_n dX5_isStretch_11 rfl ?_
      refine wa_iload_n dX5_isStretch_12 rfl ?_
      refine wa_ic_lt 20 dX5_isStretch_13 (by decide) (fun c13_3 => ?_) (fun c13_3 => ?_)
      · try simp (disch := omega) only [nI_toInt, Int32.toInt_toInt64] at c13_3
        refine wa_iconst (nI 0) dX5_isStretch_20 (by decide) ?_
        refine wa_zret dX5_isStretch_21 rfl (by decide) ?_
        exact h0 (by omega)
      · try simp (disch := omega) only [nI_toInt, Int32.toInt_toInt64] at c13_3
        refine wa_iconst (nI 1) dX5_isStretch_16 (by decide) ?_
        refine wa_goto 21 dX5_isStretch_17 (by decide) ?_
        refine wa_zret dX5_isStretch_21 rfl (by decide) ?_
        exact h1 r hr hrk (by omega) (by omega)
  · skip
    refine wa_if_eqT 20 dX5_isStretch_4 (by decide) (by decide) ?_
    refine wa_iconst (nI 0) dX5_isStretch_20 (by decide) ?_
    refine wa_zret dX5_isStretch_21 rfl (by decide) ?_
    exact h0 (Or.inl hoob)
theorem k1e6 : (1000000 : Int64).toInt = 1000000 ∧ (-(1000000 : Int64)).toInt = -1000000 := by decide
def plc (x y : Int) : Prop := (-1000000 ≤ x ∧ x ≤ 1000000) ∧ (-1000000 ≤ y ∧ y ≤ 1000000)
theorem wp_X5_isPlace {d : Nat} {x y : Int32} {μ : Mem} {Q : QM} (hd : 1 ≤ d) (h1 : plc x.toInt y.toInt → Q (some (.int (nI 1))) μ) (h0 : ¬ plc x.toInt y.toInt → Q (some (.int (nI 0))) μ) : MW kX5_isPlace d [.int x, .int y] μ Q := by
  refine MW_of (by decide) [some (.int x), some (.int y)] rfl (Nat.le_of_ble_eq_true rfl) ?_
  unfold plc at h0 h1
  have ea := k1e6.1
  have eb := k1e6.2
  refine wa_iload_n dX5_isPlace_0 rfl ?_
  refine wa_i2l dX5_isPlace_1 ?_
  refine wa_ldc2 (1000000) dX5_isPlace_2 lcX5_269 ?_
  refine wa_callS2 (k' := kX5_isWithin) (d' := 0) dX5_isPlace_5 lmX5_142 ksX5_isWithin (by decide) (by omega) (Nat.le_of_ble_eq_true rfl) ?_
  refine wp_X5_isWithin (fun hw => ?_) (fun hw => ?_)
  · skip
    rw [ea, eb, Int32.toInt_toInt64] at hw
    refine wa_if_eqF 26 dX5_isPlace_8 (by decide) (by decide) ?_
    refine wa_iload_n dX5_isPlace_11 rfl ?_
    refine wa_i2l dX5_isPlace_12 ?_
    refine wa_ldc2 (1000000) dX5_isPlace_13 lcX5_269 ?_
    refine wa_callS2 (k' := kX5_isWithin) (d' := 0) dX5_isPlace_16 lmX5_142 ksX5_isWithin (by decide) (by omega) (Nat.le_of_ble_eq_true rfl) ?_
    refine wp_X5_isWithin (fun hv => ?_) (fun hv => ?_)
    · skip
      rw [ea, eb, Int32.toInt_toInt64] at hv
      refine wa_if_eqF 26 dX5_isPlace_19 (by decide) (by decide) ?_
      refine wa_iconst (nI 1) dX5_isPlace_22 (by decide) ?_
      refine wa_goto 27 dX5_isPlace_23 (by decide) ?_
      refine wa_zret dX5_isPlace_27 rfl (by decide) ?_
      exact h1 ⟨hw, hv⟩
    · skip
      rw [ea, eb, Int32.toInt_toInt64] at hv
      refine wa_if_eqT 26 dX5_isPlace_19 (by decide) (by decide) ?_
      refine wa_iconst (nI 0) dX5_isPlace_26 (by decide) ?_
      refine wa_zret dX5_isPlace_27 rfl (by decide) ?_
      exact h0 (fun q => hv q.2)
  · skip
    rw [ea, eb, Int32.toInt_toInt64] at hw
    refine wa_if_eqT 26 dX5_isPlace_8 (by decide) (by decide) ?_
    refine wa_iconst (nI 0) dX5_isPlace_26 (by decide) ?_
    refine wa_zret dX5_isPlace_27 rfl (by decide) ?_
    exact h0 (fun q => hw q.1)
def thOk (μ : Mem) : Prop := ∀ j, j < 8 → μ.1 (7 + 4 * j) 0 = nI 0 ∨ μ.1 (7 + 4 * j) 0 = nI 1
theorem isS_k {j : Nat} (h : j < 9) : isS (7 + 4 * j) := ⟨j, h, rfl⟩
theorem isR_k {j : Nat} (h : j < 6) : isR (43 + 5 * j) := ⟨j, h, rfl⟩
theorem wp_X5_sheetFailure {d : Nat} {k : Int32} {μ : Mem} {Q : QM} (hd : 1 ≤ d) (hth : thOk μ) (hB : oob k 8 → Q (some (.int (-2))) μ) (hN : ∀ j, j < 8 → k = nI j → μ.1 (7 + 4 * j) 0 = nI 0 → Q (some (.int (-10))) μ) (hF : ∀ j, j < 8 → k = nI j → μ.1 (7 + 4 * j) 0 = nI 1 → Q (some (.int (nI 0))) μ) : MW kX5_sheetFailure d [.ref 0, .int k] μ Q := by
  refine MW_of (by decide) [some (.ref 0), some (.int k)] rfl (Nat.le_of_ble_eq_true rfl) ?_
  refine wa_iload_n dX5_sheetFailure_0 rfl ?_
  refine wa_callS1 (k' := kX5_isSheet) (d' := 0) dX5_sheetFailure_1 lmX5_44 ksX5_isSheet (by decide) (by omega) (Nat.le_of_ble_eq_true rfl) ?_
  refine wp_X5_isSheet (fun j hj hk => ?_) (fun hoob => ?_)
  · skip
    refine wa_if_neT 10 dX5_sheetFailure_4 (by decide) (by decide) ?_
    refine wa_aload_n dX5_sheetFailure_10 rfl ?_
    refine wa_getR dX5_sheetFailure_11 fgX5_11 (by first | assumption | rfl) (by rfl) ?_
    refine wa_iload_n dX5_sheetFailure_14 rfl ?_
    refine wa_aalS _ dX5_sheetFailure_15 (by first | assumption | rfl) (by exact hk) (by omega) ?_
    rw [show arf 1 j = 7 + 4 * j from rfl]; have hS := isS_k (show j < 9 by omega); have hsh := (isS_sh hS).1
    refine wa_callV0 (k' := kX3_isThere) (d' := 0) dX5_sheetFailure_16 lmX5_87 kvX3_isThere (by first | assumption | rfl) (by rfl) (by decide) (by omega) (Nat.le_of_ble_eq_true rfl) ?_
    refine wp_X3_isThere (isS_k (by omega)) (hth j hj) (fun h => ?_) (fun h => ?_)
    · skip
      refine wa_if_eqF 26 dX5_sheetFailure_19 (by decide) (by decide) ?_
      refine wa_iconst (nI 0) dX5_sheetFailure_22 (by decide) ?_
      refine wa_goto 28 dX5_sheetFailure_23 (by decide) ?_
      refine wa_iret dX5_sheetFailure_28 rfl ?_
      exact hF j hj hk h
    · skip
      refine wa_if_eqT 26 dX5_sheetFailure_19 (by decide) (by decide) ?_
      refine wa_bipush (-10) dX5_sheetFailure_26 (by decide) ?_
      refine wa_iret dX5_sheetFailure_28 rfl ?_
      exact hN j hj hk h
  · skip
    refine wa_if_neF 10 dX5_sheetFailure_4 (by decide) (by decide) ?_
    refine wa_bipush (-2) dX5_sheetFailure_7 (by decide) ?_
    refine wa_iret dX5_sheetFailure_9 rfl ?_
    exact hB hoob
theorem wp_X5_sampleFailure {d : Nat} {k i : Int32} {sz : Nat → Nat} {μ : Mem} {Q : QM} (hd : 2 ≤ d) (hth : thOk μ) (hsz : ∀ j, j < 8 → μ.1 (7 + 4 * j) 2 = nI (sz j) ∧ sz j ≤ 64) (hB : oob k 8 → Q (some (.int (-2))) μ) (hN : ∀ j, j < 8 → k = nI j → μ.1 (7 + 4 * j) 0 = nI 0 → Q (some (.int (-10))) μ) (hP : ∀ j, j < 8 → k = nI j → μ.1 (7 + 4 * j) 0 = nI 1 → (i.toInt < 0 ∨ (sz j : Int) ≤ i.toInt) → Q (some (.int (-13))) μ) (hF : ∀ j, j < 8 → k = nI j → μ.1 (7 + 4 * j) 0 = nI 1 → ∀ a, a < sz j → i = nI a → Q (some (.int (nI 0))) μ) : MW kX5_sampleFailure d [.ref 0, .int k, .int i] μ Q := by
  refine MW_of (by decide) [some (.ref 0), some (.int k), some (.int i), none] rfl (Nat.le_of_ble_eq_true rfl) ?_
  refine wa_aload_n dX5_sampleFailure_0 rfl ?_
  refine wa_iload_n dX5_sampleFailure_1 rfl ?_
  refine wa_callV1 (k' := kX5_sheetFailure) (d' := 1) dX5_sampleFailure_2 lmX5_52 kvX5_sheetFailure (by first | assumption | rfl) (by rfl) (by decide) (by omega) (Nat.le_of_ble_eq_true rfl) ?_
  refine wp_X5_sheetFailure (by omega) hth (fun hoob => ?_) (fun j hj hk h => ?_) (fun j hj hk h => ?_)
  · skip
    refine wa_istore_n dX5_sampleFailure_5 (by decide) ?_
    refine wa_iload_n dX5_sampleFailure_6 rfl ?_
    refine wa_if_eqF 12 dX5_sampleFailure_7 (by decide) (by decide) ?_
    refine wa_iload_n dX5_sampleFailure_10 rfl ?_
    refine wa_iret dX5_sampleFailure_11 rfl ?_
    exact hB hoob
  · skip
    refine wa_istore_n dX5_sampleFailure_5 (by decide) ?_
    refine wa_iload_n dX5_sampleFailure_6 rfl ?_
    refine wa_if_eqF 12 dX5_sampleFailure_7 (by decide) (by decide) ?_
    refine wa_iload_n dX5_sampleFailure_10 rfl ?_
    refine wa_iret dX5_sampleFailure_11 rfl ?_
    exact hN j hj hk h
  · skip
    refine wa_istore_n dX5_sampleFailure_5 (by decide) ?_
    refine wa_iload_n dX5_sampleFailure_6 rfl ?_
    refine wa_if_eqT 12 dX5_sampleFailure_7 (by decide) (by decide) ?_
    refine wa_aload_n dX5_sampleFailure_12 rfl ?_
    refine wa_getR dX5_sampleFailure_13 fgX5_11 (by first | assumption | rfl) (by rfl) ?_
    refine wa_iload_n dX5_sampleFailure_16 rfl ?_
    refine wa_aalS _ dX5_sampleFailure_17 (by first | assumption | rfl) (by exact hk) (by omega) ?_
    refine wa_iload_n dX5_sampleFailure_18 rfl ?_
    rw [show arf 1 j = 7 + 4 * j from rfl]; have hS := isS_k (show j < 9 by omega); have hsh := (isS_sh hS).1
    refine wa_callV1 (k' := kX3_has) (d' := 0) dX5_sampleFailure_19 lmX5_271 kvX3_has (by first | assumption | rfl) (by rfl) (by decide) (by omega) (Nat.le_of_ble_eq_true rfl) ?_
    refine wp_X3_has (isS_k (by omega)) (hsz j hj).1 (hsz j hj).2 (fun a ha hia => ?_) (fun hia => ?_)
    · skip
      refine wa_if_eqF 29 dX5_sampleFailure_22 (by decide) (by decide) ?_
      refine wa_iconst (nI 0) dX5_sampleFailure_25 (by decide) ?_
      refine wa_goto 31 dX5_sampleFailure_26 (by decide) ?_
      refine wa_iret dX5_sampleFailure_31 rfl ?_
      exact hF j hj hk h a ha hia
    · skip
      refine wa_if_eqT 29 dX5_sampleFailure_22 (by decide) (by decide) ?_
      refine wa_bipush (-13) dX5_sampleFailure_29 (by decide) ?_
      refine wa_iret dX5_sampleFailure_31 rfl ?_
      exact hP j hj hk h hia
def thN (f : Nat → Int32) : Nat → Nat
  | 0 => 0
  | n + 1 => thN f n + (if (f n).toInt = 0 then 0 else 1)
theorem wp_X5_sheetsThere {d : Nat} {μ : Mem} {Q : QM} (hd : 1 ≤ d) (hth : thOk μ) (hQ : Q (some (.int (nI (thN (fun j => μ.1 (7 + 4 * j) 0) 8)))) μ) : MW kX5_sheetsThere d [.ref 0] μ Q := by
  refine MW_of (by decide) [some (.ref 0), none, none] rfl (Nat.le_of_ble_eq_true rfl) ?_
  have loop : ∀ m i, i + m = 8 → WA kX5_sheetsThere d Q 4 [some (.ref 0), some (.int (nI (thN (fun j => μ.1 (7 + 4 * j) 0) i))), some (.int (nI i))] [] μ := by
    intro m
    induction m with
    | zero =>
      intro i hi
      obtain rfl : i = 8 := by omega
      refine wa_iload_n dX5_sheetsThere_4 rfl ?_
      refine wa_bipush (nI 8) dX5_sheetsThere_5 (by decide) ?_
      refine wa_ic_geT 31 dX5_sheetsThere_7 (by decide) (le_nI (by omega) (by omega)) ?_
      refine wa_iload_n dX5_sheetsThere_31 rfl ?_
      refine wa_iret dX5_sheetsThere_32 rfl ?_
      exact hQ
    | succ m ih =>
      intro i hi
      have e := ih (i + 1) (by omega)
      have hS := isS_k (show i < 9 by omega)
      have hsh := (isS_sh hS).1
      refine wa_iload_n dX5_sheetsThere_4 rfl ?_
      refine wa_bipush (nI 8) dX5_sheetsThere_5 (by decide) ?_
      refine wa_ic_geF 31 dX5_sheetsThere_7 (by decide) (nle_nI (by omega) (by omega)) ?_
      refine wa_aload_n dX5_sheetsThere_10 rfl ?_
      refine wa_getR dX5_sheetsThere_11 fgX5_11 (by first | assumption | rfl) (by rfl) ?_
      refine wa_iload_n dX5_sheetsThere_14 rfl ?_
      refine wa_aalS _ dX5_sheetsThere_15 (by first | assumption | rfl) (by first | with_reducible rfl | with_reducible assumption | with_reducible exact ix_ma _ _ _ | with_reducible exact ix_maa _ _ _ _ | with_reducible exact ix_a _ _ | with_reducible exact ix_mama _ _ _ _ _) (by omega) ?_
      rw [show arf 1 i = 7 + 4 * i from rfl]
      refine wa_callV0 (k' := kX3_isThere) (d' := 0) dX5_sheetsThere_16 lmX5_87 kvX3_isThere (by first | assumption | rfl) (by rfl) (by decide) (by omega) (Nat.le_of_ble_eq_true rfl) ?_
      refine wp_X3_isThere hS (hth i (by omega)) (fun h => ?_) (fun h => ?_)
      · skip
        refine wa_if_eqF 25 dX5_sheetsThere_19 (by decide) (by decide) ?_
        refine wa_iinc (nI 1) dX5_sheetsThere_22 rfl (by decide) (by decide) ?_
        refine wa_iinc (nI 1) dX5_sheetsThere_25 rfl (by decide) (by decide) ?_
        refine wa_goto 4 dX5_sheetsThere_28 (by decide) ?_
        rw [thN, h, if_neg (by decide)] at e; simp only [nI_add]; exact e
      · skip
        refine wa_if_eqT 25 dX5_sheetsThere_19 (by decide) (by decide) ?_
        refine wa_iinc (nI 1) dX5_sheetsThere_25 rfl (by decide) (by decide) ?_
        refine wa_goto 4 dX5_sheetsThere_28 (by decide) ?_
        rw [thN, h, if_pos (by decide)] at e; simp only [nI_add]; exact e
  refine wa_iconst (nI 0) dX5_sheetsThere_0 (by decide) ?_
  refine wa_istore_n dX5_sheetsThere_1 (by decide) ?_
  refine wa_iconst (nI 0) dX5_sheetsThere_2 (by decide) ?_
  refine wa_istore_n dX5_sheetsThere_3 (by decide) ?_
  exact loop 8 0 (by omega)
/-- big leaves nothing by d -/
def lrZ (b : Int64) (d : Nat) : Prop := (b - b / (nI d).toInt64 * (nI d).toInt64).toInt = 0
def cdB (b : Int64) (k d : Nat) : Bool := decide (k % d = 0 ∧ (b - b / (nI d).toInt64 * (nI d).toInt64).toInt = 0)
def cdF (b : Int64) (k : Nat) : Nat → Nat
  | 0 => 1
  | d + 1 => if d = 0 then 1 else if cdB b k (d + 1) = true then d + 1 else cdF b k d
theorem wp_X5_commonDivisor {d k : Nat} {b : Int64} {μ : Mem} {Q : QM} (hk : 1 ≤ k) (hk64 : k ≤ 64) (hQ : Q (some (.int (nI (cdF b k k)))) μ) : MW kX5_commonDivisor d [.long b, .int (nI k)] μ Q := by
  refine MW_of (by decide) [some (.long b), none, some (.int (nI k)), none] rfl (Nat.le_of_ble_eq_true rfl) ?_
  have loop : ∀ m, m + 1 ≤ k → Q (some (.int (nI (cdF b k (m + 1))))) μ → WA kX5_commonDivisor d Q 2 [some (.long b), none, some (.int (nI k)), some (.int (nI (m + 1)))] [] μ := by
    intro m
    induction m with
    | zero =>
      intro hm hQ
      refine wa_iload_n dX5_commonDivisor_2 rfl ?_
      refine wa_iconst (nI 1) dX5_commonDivisor_3 (by decide) ?_
      refine wa_ic_leT 30 dX5_commonDivisor_4 (by decide) (by decide) ?_
      refine wa_iconst (nI 1) dX5_commonDivisor_30 (by decide) ?_
      refine wa_iret dX5_commonDivisor_31 rfl ?_
      exact hQ
    | succ m ih =>
      intro hm hQ
      have ei : nI k - nI k / nI (m + 1 + 1) * nI (m + 1 + 1) = nI (k % (m + 1 + 1)) := pk_rem (by omega) (by omega) (by omega)
      have hlt := Nat.mod_lt k (show m + 1 + 1 > 0 by omega)
      rw [cdF, if_neg (by omega)] at hQ
      refine wa_iload_n dX5_commonDivisor_2 rfl ?_
      refine wa_iconst (nI 1) dX5_commonDivisor_3 (by decide) ?_
      refine wa_ic_leF 30 dX5_commonDivisor_4 (by decide) (by rw [nI_toInt (by omega), nI_toInt (by omega)]; omega) ?_
      refine wa_iload_n dX5_commonDivisor_7 rfl ?_
      refine wa_iload_n dX5_commonDivisor_8 rfl ?_
      refine wa_irem dX5_commonDivisor_9 (by have := nI_ne0 (n := m + 1 + 1) (by omega) (by omega); exact this) ?_
      refine wa_if_ne 24 dX5_commonDivisor_10 (by decide) (fun c10_1 => ?_) (fun c10_1 => ?_)
      · try simp (disch := omega) only [nI_toInt, Int32.toInt_toInt64, ei, z64] at c10_1
        refine wa_iinc (-1) dX5_commonDivisor_24 rfl (by decide) (by decide) ?_
        refine wa_goto 2 dX5_commonDivisor_27 (by decide) ?_
        have hc : ¬ cdB b k (m + 1 + 1) = true := fun q => by
          have := of_decide_eq_true q
          omega
        rw [if_neg hc] at hQ
        rw [pk_m1 (m + 1)]
        exact ih (by omega) hQ
      · try simp (disch := omega) only [nI_toInt, Int32.toInt_toInt64, ei, z64] at c10_1
        refine wa_lload_n dX5_commonDivisor_13 rfl ?_
        refine wa_iload_n dX5_commonDivisor_14 rfl ?_
        refine wa_i2l dX5_commonDivisor_15 ?_
        refine wa_lrem dX5_commonDivisor_16 (nIl_ne (by omega) (by omega)) ?_
        refine wa_lconst (0) dX5_commonDivisor_17 (by decide) ?_
        refine wa_lc_ne 24 dX5_commonDivisor_18 dX5_commonDivisor_19 (by decide) (fun c18_2 => ?_) (fun c18_2 => ?_)
        · try simp (disch := omega) only [nI_toInt, Int32.toInt_toInt64, ei, z64] at c18_2
          refine wa_iinc (-1) dX5_commonDivisor_24 rfl (by decide) (by decide) ?_
          refine wa_goto 2 dX5_commonDivisor_27 (by decide) ?_
          have hc : ¬ cdB b k (m + 1 + 1) = true := fun q => by
            have := of_decide_eq_true q
            omega
          rw [if_neg hc] at hQ
          rw [pk_m1 (m + 1)]
          exact ih (by omega) hQ
        · try simp (disch := omega) only [nI_toInt, Int32.toInt_toInt64, ei, z64] at c18_2
          refine wa_iload_n dX5_commonDivisor_22 rfl ?_
          refine wa_iret dX5_commonDivisor_23 rfl ?_
          have hc : cdB b k (m + 1 + 1) = true := decide_eq_true ⟨by omega, by omega⟩
          rw [if_pos hc] at hQ
          exact hQ
  refine wa_iload_n dX5_commonDivisor_0 rfl ?_
  refine wa_istore_n dX5_commonDivisor_1 (by decide) ?_
  have e0 := loop (k - 1) (by omega)
  rw [show k - 1 + 1 = k by omega] at e0
  exact e0 hQ
/-! the way -/
def ei8 (_ b : Int) : Int32 := if b < 0 then nI 7 else (-1)
def ei7 (a b : Int) : Int32 := if a < -b ∧ 0 ≤ a then nI 6 else ei8 a b
def ei6 (a b : Int) : Int32 := if b ≤ a ∧ a < 0 then nI 5 else ei7 a b
def ei5 (a b : Int) : Int32 := if -b < -a ∧ b ≤ 0 then nI 4 else ei6 a b
def ei4 (a b : Int) : Int32 := if b ≤ -a ∧ 0 < b then nI 3 else ei5 a b
def ei3 (a b : Int) : Int32 := if -a < b ∧ a ≤ 0 then nI 2 else ei4 a b
def ei2 (a b : Int) : Int32 := if a ≤ b ∧ 0 < a then nI 1 else ei3 a b
def ei1 (a b : Int) : Int32 := if b < a ∧ 0 ≤ b then nI 0 else ei2 a b
theorem wp_X5_eighth {d : Nat} {x y : Int64} {a b : Int} {μ : Mem} {Q : QM} (hx : x.toInt = a) (hy : y.toInt = b) (hnx : (-x).toInt = -a) (hny : (-y).toInt = -b) (hQ : Q (some (.int (ei1 a b))) μ) : MW kX5_eighth d [.long x, .long y] μ Q := by
  refine MW_of (by decide) [some (.long x), none, some (.long y), none] rfl (Nat.le_of_ble_eq_true rfl) ?_
  have J8 : Q (some (.int (ei8 a b))) μ → WA kX5_eighth d Q 104 [some (.long x), none, some (.long y), none] [] μ := by
    intro hQ
    unfold ei8 at hQ
    refine wa_lload_n dX5_eighth_104 rfl ?_
    refine wa_lconst (0) dX5_eighth_105 (by decide) ?_
    refine wa_lc_ge 115 dX5_eighth_106 dX5_eighth_107 (by decide) (fun c106_1 => ?_) (fun c106_1 => ?_)
    · try simp (disch := omega) only [nI_toInt, Int32.toInt_toInt64, hx, hy, z64] at c106_1
      refine wa_iconst (-1) dX5_eighth_115 (by decide) ?_
      refine wa_iret dX5_eighth_116 rfl ?_
      rw [if_neg (by omega)] at hQ; exact hQ
    · try simp (disch := omega) only [nI_toInt, Int32.toInt_toInt64, hx, hy, z64] at c106_1
      refine wa_bipush (nI 7) dX5_eighth_110 (by decide) ?_
      refine wa_goto 116 dX5_eighth_112 (by decide) ?_
      refine wa_iret dX5_eighth_116 rfl ?_
      rw [if_pos (by omega)] at hQ; exact hQ
  have J7 : Q (some (.int (ei7 a b))) μ → WA kX5_eighth d Q 88 [some (.long x), none, some (.long y), none] [] μ := by
    intro hQ
    unfold ei7 at hQ
    refine wa_lload_n dX5_eighth_88 rfl ?_
    refine wa_lneg dX5_eighth_89 ?_
    refine wa_lload_n dX5_eighth_90 rfl ?_
    refine wa_lc_le 104 dX5_eighth_91 dX5_eighth_92 (by decide) (fun c91_1 => ?_) (fun c91_1 => ?_)
    · try simp (disch := omega) only [nI_toInt, Int32.toInt_toInt64, hx, hy, hny, z64] at c91_1
      rw [if_neg (by omega)] at hQ; exact J8 hQ
    · try simp (disch := omega) only [nI_toInt, Int32.toInt_toInt64, hx, hy, hny, z64] at c91_1
      refine wa_lload_n dX5_eighth_95 rfl ?_
      refine wa_lconst (0) dX5_eighth_96 (by decide) ?_
      refine wa_lc_lt 104 dX5_eighth_97 dX5_eighth_98 (by decide) (fun c97_2 => ?_) (fun c97_2 => ?_)
      · try simp (disch := omega) only [nI_toInt, Int32.toInt_toInt64, hx, hy, hny, z64] at c97_2
        rw [if_neg (by omega)] at hQ; exact J8 hQ
      · try simp (disch := omega) only [nI_toInt, Int32.toInt_toInt64, hx, hy, hny, z64] at c97_2
        refine wa_bipush (nI 6) dX5_eighth_101 (by decide) ?_
        refine wa_iret dX5_eighth_103 rfl ?_
        rw [if_pos (by omega)] at hQ; exact hQ
  have J6 : Q (some (.int (ei6 a b))) μ → WA kX5_eighth d Q 74 [some (.long x), none, some (.long y), none] [] μ := by
    intro hQ
    unfold ei6 at hQ
    refine wa_lload_n dX5_eighth_74 rfl ?_
    refine wa_lload_n dX5_eighth_75 rfl ?_
    refine wa_lc_lt 88 dX5_eighth_76 dX5_eighth_77 (by decide) (fun c76_1 => ?_) (fun c76_1 => ?_)
    · try simp (disch := omega) only [nI_toInt, Int32.toInt_toInt64, hx, hy, z64] at c76_1
      rw [if_neg (by omega)] at hQ; exact J7 hQ
    · try simp (disch := omega) only [nI_toInt, Int32.toInt_toInt64, hx, hy, z64] at c76_1
      refine wa_lload_n dX5_eighth_80 rfl ?_
      refine wa_lconst (0) dX5_eighth_81 (by decide) ?_
      refine wa_lc_ge 88 dX5_eighth_82 dX5_eighth_83 (by decide) (fun c82_2 => ?_) (fun c82_2 => ?_)
      · try simp (disch := omega) only [nI_toInt, Int32.toInt_toInt64, hx, hy, z64] at c82_2
        rw [if_neg (by omega)] at hQ; exact J7 hQ
      · try simp (disch := omega) only [nI_toInt, Int32.toInt_toInt64, hx, hy, z64] at c82_2
        refine wa_iconst (nI 5) dX5_eighth_86 (by decide) ?_
        refine wa_iret dX5_eighth_87 rfl ?_
        rw [if_pos (by omega)] at hQ; exact hQ
  have J5 : Q (some (.int (ei5 a b))) μ → WA kX5_eighth d Q 58 [some (.long x), none, some (.long y), none] [] μ := by
    intro hQ
    unfold ei5 at hQ
    refine wa_lload_n dX5_eighth_58 rfl ?_
    refine wa_lneg dX5_eighth_59 ?_
    refine wa_lload_n dX5_eighth_60 rfl ?_
    refine wa_lneg dX5_eighth_61 ?_
    refine wa_lc_le 74 dX5_eighth_62 dX5_eighth_63 (by decide) (fun c62_1 => ?_) (fun c62_1 => ?_)
    · try simp (disch := omega) only [nI_toInt, Int32.toInt_toInt64, hx, hy, hnx, hny, z64] at c62_1
      rw [if_neg (by omega)] at hQ; exact J6 hQ
    · try simp (disch := omega) only [nI_toInt, Int32.toInt_toInt64, hx, hy, hnx, hny, z64] at c62_1
      refine wa_lload_n dX5_eighth_66 rfl ?_
      refine wa_lconst (0) dX5_eighth_67 (by decide) ?_
      refine wa_lc_gt 74 dX5_eighth_68 dX5_eighth_69 (by decide) (fun c68_2 => ?_) (fun c68_2 => ?_)
      · try simp (disch := omega) only [nI_toInt, Int32.toInt_toInt64, hx, hy, hnx, hny, z64] at c68_2
        rw [if_neg (by omega)] at hQ; exact J6 hQ
      · try simp (disch := omega) only [nI_toInt, Int32.toInt_toInt64, hx, hy, hnx, hny, z64] at c68_2
        refine wa_iconst (nI 4) dX5_eighth_72 (by decide) ?_
        refine wa_iret dX5_eighth_73 rfl ?_
        rw [if_pos (by omega)] at hQ; exact hQ
  have J4 : Q (some (.int (ei4 a b))) μ → WA kX5_eighth d Q 43 [some (.long x), none, some (.long y), none] [] μ := by
    intro hQ
    unfold ei4 at hQ
    refine wa_lload_n dX5_eighth_43 rfl ?_
    refine wa_lneg dX5_eighth_44 ?_
    refine wa_lload_n dX5_eighth_45 rfl ?_
    refine wa_lc_lt 58 dX5_eighth_46 dX5_eighth_47 (by decide) (fun c46_1 => ?_) (fun c46_1 => ?_)
    · try simp (disch := omega) only [nI_toInt, Int32.toInt_toInt64, hx, hy, hnx, z64] at c46_1
      rw [if_neg (by omega)] at hQ; exact J5 hQ
    · try simp (disch := omega) only [nI_toInt, Int32.toInt_toInt64, hx, hy, hnx, z64] at c46_1
      refine wa_lload_n dX5_eighth_50 rfl ?_
      refine wa_lconst (0) dX5_eighth_51 (by decide) ?_
      refine wa_lc_le 58 dX5_eighth_52 dX5_eighth_53 (by decide) (fun c52_2 => ?_) (fun c52_2 => ?_)
      · try simp (disch := omega) only [nI_toInt, Int32.toInt_toInt64, hx, hy, hnx, z64] at c52_2
        rw [if_neg (by omega)] at hQ; exact J5 hQ
      · try simp (disch := omega) only [nI_toInt, Int32.toInt_toInt64, hx, hy, hnx, z64] at c52_2
        refine wa_iconst (nI 3) dX5_eighth_56 (by decide) ?_
        refine wa_iret dX5_eighth_57 rfl ?_
        rw [if_pos (by omega)] at hQ; exact hQ
  have J3 : Q (some (.int (ei3 a b))) μ → WA kX5_eighth d Q 28 [some (.long x), none, some (.long y), none] [] μ := by
    intro hQ
    unfold ei3 at hQ
    refine wa_lload_n dX5_eighth_28 rfl ?_
    refine wa_lload_n dX5_eighth_29 rfl ?_
    refine wa_lneg dX5_eighth_30 ?_
    refine wa_lc_le 43 dX5_eighth_31 dX5_eighth_32 (by decide) (fun c31_1 => ?_) (fun c31_1 => ?_)
    · try simp (disch := omega) only [nI_toInt, Int32.toInt_toInt64, hx, hy, hnx, z64] at c31_1
      rw [if_neg (by omega)] at hQ; exact J4 hQ
    · try simp (disch := omega) only [nI_toInt, Int32.toInt_toInt64, hx, hy, hnx, z64] at c31_1
      refine wa_lload_n dX5_eighth_35 rfl ?_
      refine wa_lconst (0) dX5_eighth_36 (by decide) ?_
      refine wa_lc_gt 43 dX5_eighth_37 dX5_eighth_38 (by decide) (fun c37_2 => ?_) (fun c37_2 => ?_)
      · try simp (disch := omega) only [nI_toInt, Int32.toInt_toInt64, hx, hy, hnx, z64] at c37_2
        rw [if_neg (by omega)] at hQ; exact J4 hQ
      · try simp (disch := omega) only [nI_toInt, Int32.toInt_toInt64, hx, hy, hnx, z64] at c37_2
        refine wa_iconst (nI 2) dX5_eighth_41 (by decide) ?_
        refine wa_iret dX5_eighth_42 rfl ?_
        rw [if_pos (by omega)] at hQ; exact hQ
  have J2 : Q (some (.int (ei2 a b))) μ → WA kX5_eighth d Q 14 [some (.long x), none, some (.long y), none] [] μ := by
    intro hQ
    unfold ei2 at hQ
    refine wa_lload_n dX5_eighth_14 rfl ?_
    refine wa_lload_n dX5_eighth_15 rfl ?_
    refine wa_lc_lt 28 dX5_eighth_16 dX5_eighth_17 (by decide) (fun c16_1 => ?_) (fun c16_1 => ?_)
    · try simp (disch := omega) only [nI_toInt, Int32.toInt_toInt64, hx, hy, z64] at c16_1
      rw [if_neg (by omega)] at hQ; exact J3 hQ
    · try simp (disch := omega) only [nI_toInt, Int32.toInt_toInt64, hx, hy, z64] at c16_1
      refine wa_lload_n dX5_eighth_20 rfl ?_
      refine wa_lconst (0) dX5_eighth_21 (by decide) ?_
      refine wa_lc_le 28 dX5_eighth_22 dX5_eighth_23 (by decide) (fun c22_2 => ?_) (fun c22_2 => ?_)
      · try simp (disch := omega) only [nI_toInt, Int32.toInt_toInt64, hx, hy, z64] at c22_2
        rw [if_neg (by omega)] at hQ; exact J3 hQ
      · try simp (disch := omega) only [nI_toInt, Int32.toInt_toInt64, hx, hy, z64] at c22_2
        refine wa_iconst (nI 1) dX5_eighth_26 (by decide) ?_
        refine wa_iret dX5_eighth_27 rfl ?_
        rw [if_pos (by omega)] at hQ; exact hQ
  unfold ei1 at hQ
  refine wa_lload_n dX5_eighth_0 rfl ?_
  refine wa_lload_n dX5_eighth_1 rfl ?_
  refine wa_lc_le 14 dX5_eighth_2 dX5_eighth_3 (by decide) (fun c2_1 => ?_) (fun c2_1 => ?_)
  · try simp (disch := omega) only [nI_toInt, Int32.toInt_toInt64, hx, hy, z64] at c2_1
    rw [if_neg (by omega)] at hQ; exact J2 hQ
  · try simp (disch := omega) only [nI_toInt, Int32.toInt_toInt64, hx, hy, z64] at c2_1
    refine wa_lload_n dX5_eighth_6 rfl ?_
    refine wa_lconst (0) dX5_eighth_7 (by decide) ?_
    refine wa_lc_lt 14 dX5_eighth_8 dX5_eighth_9 (by decide) (fun c8_2 => ?_) (fun c8_2 => ?_)
    · try simp (disch := omega) only [nI_toInt, Int32.toInt_toInt64, hx, hy, z64] at c8_2
      rw [if_neg (by omega)] at hQ; exact J2 hQ
    · try simp (disch := omega) only [nI_toInt, Int32.toInt_toInt64, hx, hy, z64] at c8_2
      refine wa_iconst (nI 0) dX5_eighth_12 (by decide) ?_
      refine wa_iret dX5_eighth_13 rfl ?_
      rw [if_pos (by omega)] at hQ; exact hQ
/-- what count() tells -/
def cVc (μ : Mem) (n8 w : Nat) : Int32 := match w with
  | 0 => nI (thN (fun j => μ.1 (7 + 4 * j) 0) 8)
  | 1 => nI (pkN n8)
  | 2 => nI (nzN (μ.1 6) 10)
  | 3 => μ.1 4 4
  | 4 => μ.1 4 5
  | 5 => μ.1 4 3
  | 6 => μ.1 5 4
  | 7 => μ.1 5 5
  | 8 => if (μ.1 5 4).toInt = 0 then nI 0 else μ.1 5 7 - μ.1 5 6
  | _ => if (μ.1 5 4).toInt = 0 then nI 0 else μ.1 5 9 - μ.1 5 8
theorem wp_X5_count {d n8 w : Nat} {μ : Mem} {Q : QM} (hd : 3 ≤ d) (hth : thOk μ) (hn : μ.1 39 2 = nI n8) (hn64 : n8 ≤ 64) (hw : w < 10) (hQ : Q (some (.int (cVc μ n8 w))) μ) : MW kX5_count d [.ref 0, .int (nI w)] μ Q := by
  refine MW_of (by decide) [some (.ref 0), some (.int (nI w))] rfl (Nat.le_of_ble_eq_true rfl) ?_
  have : w = 0 ∨ w = 1 ∨ w = 2 ∨ w = 3 ∨ w = 4 ∨ w = 5 ∨ w = 6 ∨ w = 7 ∨ w = 8 ∨ w = 9 := by omega
  rcases this with rfl | rfl | rfl | rfl | rfl | rfl | rfl | rfl | rfl | rfl
  · refine wa_iload_n dX5_count_0 rfl ?_
    refine wa_tsI 56 0 dX5_count_1 (by decide) (by decide) (by decide) rfl (by decide) ?_
    refine wa_aload_n dX5_count_56 rfl ?_
    refine wa_callV0 (k' := kX5_sheetsThere) (d' := 1) dX5_count_57 lmX5_233 kvX5_sheetsThere (by first | assumption | rfl) (by rfl) (by decide) (by omega) (Nat.le_of_ble_eq_true rfl) ?_
    refine wp_X5_sheetsThere (by omega) (by assumption) ?_
    refine wa_iret dX5_count_60 rfl ?_
    exact hQ
  · refine wa_iload_n dX5_count_0 rfl ?_
    refine wa_tsI 61 1 dX5_count_1 (by decide) (by decide) (by decide) rfl (by decide) ?_
    refine wa_aload_n dX5_count_61 rfl ?_
    refine wa_getR dX5_count_62 fgX5_26 (by first | assumption | rfl) (by rfl) ?_
    refine wa_callV0 (k' := kX1_size) (d' := 2) dX5_count_65 lmX5_206 kvX1_size (by first | assumption | rfl) (by rfl) (by decide) (by omega) (Nat.le_of_ble_eq_true rfl) ?_
    refine wp_X1_size (by omega) (by assumption) (by assumption) ?_
    refine wa_iret dX5_count_68 rfl ?_
    exact hQ
  · refine wa_iload_n dX5_count_0 rfl ?_
    refine wa_tsI 69 2 dX5_count_1 (by decide) (by decide) (by decide) rfl (by decide) ?_
    refine wa_aload_n dX5_count_69 rfl ?_
    refine wa_getR dX5_count_70 fgX5_26 (by first | assumption | rfl) (by rfl) ?_
    refine wa_callV0 (k' := kX1_lostPacks) (d' := 0) dX5_count_73 lmX5_236 kvX1_lostPacks (by first | assumption | rfl) (by rfl) (by decide) (by omega) (Nat.le_of_ble_eq_true rfl) ?_
    refine wp_X1_lostPacks ?_
    refine wa_iret dX5_count_76 rfl ?_
    exact hQ
  · refine wa_iload_n dX5_count_0 rfl ?_
    refine wa_tsI 77 3 dX5_count_1 (by decide) (by decide) (by decide) rfl (by decide) ?_
    refine wa_aload_n dX5_count_77 rfl ?_
    refine wa_getR dX5_count_78 fgX5_33 (by first | assumption | rfl) (by rfl) ?_
    refine wa_callV0 (k' := kX4_heard) (d' := 0) dX5_count_81 lmX5_239 kvX4_heard (by first | assumption | rfl) (by rfl) (by decide) (by omega) (Nat.le_of_ble_eq_true rfl) ?_
    refine wp_X4_heard ?_
    refine wa_iret dX5_count_84 rfl ?_
    exact hQ
  · refine wa_iload_n dX5_count_0 rfl ?_
    refine wa_tsI 85 4 dX5_count_1 (by decide) (by decide) (by decide) rfl (by decide) ?_
    refine wa_aload_n dX5_count_85 rfl ?_
    refine wa_getR dX5_count_86 fgX5_33 (by first | assumption | rfl) (by rfl) ?_
    refine wa_callV0 (k' := kX4_changes) (d' := 0) dX5_count_89 lmX5_242 kvX4_changes (by first | assumption | rfl) (by rfl) (by decide) (by omega) (Nat.le_of_ble_eq_true rfl) ?_
    refine wp_X4_changes ?_
    refine wa_iret dX5_count_92 rfl ?_
    exact hQ
  · refine wa_iload_n dX5_count_0 rfl ?_
    refine wa_tsI 93 5 dX5_count_1 (by decide) (by decide) (by decide) rfl (by decide) ?_
    refine wa_aload_n dX5_count_93 rfl ?_
    refine wa_getR dX5_count_94 fgX5_33 (by first | assumption | rfl) (by rfl) ?_
    refine wa_callV0 (k' := kX4_state) (d' := 0) dX5_count_97 lmX5_220 kvX4_state (by first | assumption | rfl) (by rfl) (by decide) (by omega) (Nat.le_of_ble_eq_true rfl) ?_
    refine wp_X4_state ?_
    refine wa_iret dX5_count_100 rfl ?_
    exact hQ
  · refine wa_iload_n dX5_count_0 rfl ?_
    refine wa_tsI 101 6 dX5_count_1 (by decide) (by decide) (by decide) rfl (by decide) ?_
    refine wa_aload_n dX5_count_101 rfl ?_
    refine wa_getR dX5_count_102 fgX5_40 (by first | assumption | rfl) (by rfl) ?_
    refine wa_callV0 (k' := kX0_places) (d' := 0) dX5_count_105 lmX5_245 kvX0_places (by first | assumption | rfl) (by rfl) (by decide) (by omega) (Nat.le_of_ble_eq_true rfl) ?_
    refine wp_X0_places ?_
    refine wa_iret dX5_count_108 rfl ?_
    exact hQ
  · refine wa_iload_n dX5_count_0 rfl ?_
    refine wa_tsI 109 7 dX5_count_1 (by decide) (by decide) (by decide) rfl (by decide) ?_
    refine wa_aload_n dX5_count_109 rfl ?_
    refine wa_getR dX5_count_110 fgX5_40 (by first | assumption | rfl) (by rfl) ?_
    refine wa_callV0 (k' := kX0_outOnEnd) (d' := 0) dX5_count_113 lmX5_248 kvX0_outOnEnd (by first | assumption | rfl) (by rfl) (by decide) (by omega) (Nat.le_of_ble_eq_true rfl) ?_
    refine wp_X0_outOnEnd ?_
    refine wa_iret dX5_count_116 rfl ?_
    exact hQ
  · simp only [cVc] at hQ
    refine wa_iload_n dX5_count_0 rfl ?_
    refine wa_tsI 117 8 dX5_count_1 (by decide) (by decide) (by decide) rfl (by decide) ?_
    refine wa_aload_n dX5_count_117 rfl ?_
    refine wa_getR dX5_count_118 fgX5_40 (by first | assumption | rfl) (by rfl) ?_
    refine wa_callV0 (k' := kX0_width) (d' := 0) dX5_count_121 lmX5_251 kvX0_width (by first | assumption | rfl) (by rfl) (by decide) (by omega) (Nat.le_of_ble_eq_true rfl) ?_
    refine wp_X0_width (fun hw => ?_) (fun hw => ?_)
    · skip
      refine wa_iret dX5_count_124 rfl ?_
      rw [if_pos hw] at hQ; exact hQ
    · skip
      refine wa_iret dX5_count_124 rfl ?_
      rw [if_neg hw] at hQ; exact hQ
  · simp only [cVc] at hQ
    refine wa_iload_n dX5_count_0 rfl ?_
    refine wa_tsI 125 9 dX5_count_1 (by decide) (by decide) (by decide) rfl (by decide) ?_
    refine wa_aload_n dX5_count_125 rfl ?_
    refine wa_getR dX5_count_126 fgX5_40 (by first | assumption | rfl) (by rfl) ?_
    refine wa_callV0 (k' := kX0_depth) (d' := 0) dX5_count_129 lmX5_254 kvX0_depth (by first | assumption | rfl) (by rfl) (by decide) (by omega) (Nat.le_of_ble_eq_true rfl) ?_
    refine wp_X0_depth (fun hw => ?_) (fun hw => ?_)
    · skip
      refine wa_iret dX5_count_132 rfl ?_
      rw [if_pos hw] at hQ; exact hQ
    · skip
      refine wa_iret dX5_count_132 rfl ?_
      rw [if_neg hw] at hQ; exact hQ
