/-! BASE: indices, reading behind writing, tags -/
theorem ix_a (a b : Nat) : nI a + nI b = nI (a + b) := nI_add a b
theorem ix_ma (a b c : Nat) : nI a * nI b + nI c = nI (a * b + c) := by rw [pk_mul, nI_add]
theorem ix_maa (a b c e : Nat) : nI a * nI b + nI c + nI e = nI (a * b + c + e) := by rw [pk_mul, nI_add, nI_add]
theorem ix_mama (a b c e f : Nat) : nI a * nI b + nI c + nI e + nI f = nI (a * b + c + e + f) := by rw [pk_mul, nI_add, nI_add, nI_add]
theorem r1s {μ : Mem} {t i a b : Nat} {x : Int32} (h : ¬ (a = t ∧ b = i)) : (sI μ t i x).1 a b = μ.1 a b := if_neg h
theorem r1n {μ : Mem} {t i a b : Nat} {x : Int32} (h : a ≠ t) : (sI μ t i x).1 a b = μ.1 a b := if_neg (fun q => h q.1)
theorem r1m {μ : Mem} {t i a b : Nat} {x : Int32} (h : b ≠ i) : (sI μ t i x).1 a b = μ.1 a b := if_neg (fun q => h q.2)
theorem r1e {μ : Mem} {t i : Nat} {x : Int32} : (sI μ t i x).1 t i = x := if_pos ⟨rfl, rfl⟩
theorem r1l {μ : Mem} {t i : Nat} {x : Int32} : (sI μ t i x).2 = μ.2 := rfl
theorem r2n {μ : Mem} {t i a b : Nat} {x : Int64} (h : a ≠ t) : (sL μ t i x).2 a b = μ.2 a b := if_neg (fun q => h q.1)
theorem r2m {μ : Mem} {t i a b : Nat} {x : Int64} (h : b ≠ i) : (sL μ t i x).2 a b = μ.2 a b := if_neg (fun q => h q.2)
theorem r2e {μ : Mem} {t i : Nat} {x : Int64} : (sL μ t i x).2 t i = x := if_pos ⟨rfl, rfl⟩
theorem r2l {μ : Mem} {t i : Nat} {x : Int64} : (sL μ t i x).1 = μ.1 := rfl
theorem rb1n {μ : Mem} {t a : Nat} {f : Nat → Int32} (h : a ≠ t) : (bI μ t f).1 a = μ.1 a := if_neg h
theorem rb1e {μ : Mem} {t : Nat} {f : Nat → Int32} : (bI μ t f).1 t = f := if_pos rfl
theorem rb1l {μ : Mem} {t : Nat} {f : Nat → Int32} : (bI μ t f).2 = μ.2 := rfl
theorem rb2n {μ : Mem} {t a : Nat} {f : Nat → Int64} (h : a ≠ t) : (bL μ t f).2 a = μ.2 a := if_neg h
theorem rb2e {μ : Mem} {t : Nat} {f : Nat → Int64} : (bL μ t f).2 t = f := if_pos rfl
theorem rb2l {μ : Mem} {t : Nat} {f : Nat → Int64} : (bL μ t f).1 = μ.1 := rfl
theorem bI_self (μ : Mem) (t : Nat) : bI μ t (μ.1 t) = μ := by
  unfold bI
  congr 1
  funext a
  by_cases h : a = t
  · rw [if_pos h, h]
  · rw [if_neg h]
theorem bL_self (μ : Mem) (t : Nat) : bL μ t (μ.2 t) = μ := by
  unfold bL
  congr 1
  funext a
  by_cases h : a = t
  · rw [if_pos h, h]
  · rw [if_neg h]
theorem bI_bI (μ : Mem) (t : Nat) (f g : Nat → Int32) : bI (bI μ t f) t g = bI μ t g := by
  unfold bI
  congr 1
  funext a
  by_cases h : a = t <;> simp [h]
theorem bL_bL (μ : Mem) (t : Nat) (f g : Nat → Int64) : bL (bL μ t f) t g = bL μ t g := by
  unfold bL
  congr 1
  funext a
  by_cases h : a = t <;> simp [h]
theorem bI_comm (μ : Mem) {t u : Nat} (f g : Nat → Int32) (h : t ≠ u) : bI (bI μ t f) u g = bI (bI μ u g) t f := by
  unfold bI
  congr 1
  funext a
  by_cases h1 : a = t
  · subst h1
    simp [h]
  · simp [h1]
theorem sIb (μ : Mem) (t i : Nat) (f : Nat → Int32) (x : Int32) : sI (bI μ t f) t i x = bI μ t (upd f i x) := by
  rw [← sI_bI, rb1e, bI_bI]
theorem sLb (μ : Mem) (t i : Nat) (f : Nat → Int64) (x : Int64) : sL (bL μ t f) t i x = bL μ t (vp_updL f i x) := by
  rw [← sL_bL, rb2e, bL_bL]
theorem sIb2 (μ : Mem) {t u : Nat} (i : Nat) (f g : Nat → Int32) (x : Int32) (h : t ≠ u) : sI (bI (bI μ t f) u g) t i x = bI (bI μ t (upd f i x)) u g := by
  rw [bI_comm _ _ _ h, sIb, bI_comm _ _ _ (Ne.symm h)]
/-- v at places below n -/
def fillF (f : Nat → Int32) (v : Int32) (n : Nat) : Nat → Int32 := fun b => if b < n then v else f b
theorem fillF_0 (f : Nat → Int32) (v : Int32) : fillF f v 0 = f := by
  funext b
  simp [fillF]
theorem fillF_s (f : Nat → Int32) (v : Int32) (n : Nat) : upd (fillF f v n) n v = fillF f v (n + 1) := by
  funext b
  by_cases h : b = n
  · subst h
    simp [upd, fillF]
  · simp only [upd, fillF, h, if_false]
    congr 1
    exact propext ⟨fun q => by omega, fun q => by omega⟩
/-- a SHEET's tag; a ROW's -/
def isS (t : Nat) : Prop := ∃ k, k < 9 ∧ t = 7 + 4 * k
def isR (t : Nat) : Prop := ∃ k, k < 6 ∧ t = 43 + 5 * k
theorem isS_sh {t : Nat} (h : isS t) : shp t = .inr (3, [.int 0, .int 0, .int 0, .ref (t + 1), .ref (t + 2), .ref (t + 3)]) ∧ shp (t + 1) = .inl (1, 64) ∧ shp (t + 2) = .inl (1, 64) ∧ shp (t + 3) = .inl (0, 64) := by
  obtain ⟨k, hk, rfl⟩ := h
  have : k = 0 ∨ k = 1 ∨ k = 2 ∨ k = 3 ∨ k = 4 ∨ k = 5 ∨ k = 6 ∨ k = 7 ∨ k = 8 := by omega
  rcases this with rfl | rfl | rfl | rfl | rfl | rfl | rfl | rfl | rfl <;> exact ⟨rfl, rfl, rfl, rfl⟩
theorem isR_sh {t : Nat} (h : isR t) : shp t = .inr (2, [.int 0, .ref (t + 1), .ref (t + 2), .ref (t + 3), .ref (t + 4)]) ∧ shp (t + 1) = .inl (2, 64) ∧ shp (t + 2) = .inl (2, 64) ∧ shp (t + 3) = .inl (1, 64) ∧ shp (t + 4) = .inl (2, 64) := by
  obtain ⟨k, hk, rfl⟩ := h
  have : k = 0 ∨ k = 1 ∨ k = 2 ∨ k = 3 ∨ k = 4 ∨ k = 5 := by omega
  rcases this with rfl | rfl | rfl | rfl | rfl | rfl <;> exact ⟨rfl, rfl, rfl, rfl, rfl⟩
def mxI (x y : Int32) : Int32 := if x.toInt < y.toInt then y else x
def mnI (x y : Int32) : Int32 := if y.toInt < x.toInt then y else x
def mxL (x y : Int64) : Int64 := if x.toInt < y.toInt then y else x
def mnL (x y : Int64) : Int64 := if y.toInt < x.toInt then y else x
def abL (x : Int64) : Int64 := if 0 ≤ x.toInt then x else -x
theorem z64 : (0 : Int64).toInt = 0 := by decide
/-- the ones of an int, as Integer.bitCount reckons them -/
def bcI (x : Int32) : Int32 :=
  let u := fun (a b : Int32) => (a.toUInt32 >>> (b.toUInt32 &&& Int32.toUInt32 31)).toInt32
  let x1 := x - (u x (nI 1) &&& 1431655765)
  let x2 := (x1 &&& 858993459) + (u x1 (nI 2) &&& 858993459)
  let x3 := (x2 + u x2 (nI 4)) &&& 252645135
  let x4 := x3 + u x3 (nI 8)
  let x5 := x4 + u x4 (nI 16)
  x5 &&& nI 63
/-! the JDK's own -/
section CALLS
variable {k k' : MK} {d d' : Nat} {Q : QM} {pc : Nat} {lv : List (Option Value)} {μ : Mem}
theorem wa_callV0 {t ci idx : Nat} {rest sl : List Value} (hd : decode k.2.1 pc = .ok (.invokevirtual idx, 3)) (hlink : Cond.methodLink k.1.cls idx k'.1 ∈ wT) (hk : lkV k' 0) (hsh : shp t = .inr (ci, sl)) (hcl : (vwCl[ci]?).map (fun q => q.1) = some k'.1.cls) (hml : k'.2.2.1 ≤ 21) (hdd : d' + 1 ≤ d) (hcat : catS rest ≤ 8) (hM : MW k' d' (.ref t :: []) μ (fun r μ' => WA k d Q (pc + 3) lv (r.toList ++ rest) μ')) : WA k d Q pc lv (.ref t :: rest) μ :=
  wa_callV (as := []) hd hlink hk hsh hcl hml hdd rfl rfl hcat hM
theorem wa_callS0 {idx : Nat} {rest : List Value} (hd : decode k.2.1 pc = .ok (.invokestatic idx, 3)) (hlink : Cond.methodLink k.1.cls idx k'.1 ∈ wT) (hk : lkS k' 0) (hml : k'.2.2.1 ≤ 21) (hdd : d' + 1 ≤ d) (hcat : catS rest ≤ 8) (hM : MW k' d' [] μ (fun r μ' => WA k d Q (pc + 3) lv (r.toList ++ rest) μ')) : WA k d Q pc lv (rest) μ :=
  wa_callS (as := []) hd hlink hk hml hdd rfl rfl hcat hM
theorem wa_callV1 {t ci idx : Nat} {a1 : Value} {rest sl : List Value} (hd : decode k.2.1 pc = .ok (.invokevirtual idx, 3)) (hlink : Cond.methodLink k.1.cls idx k'.1 ∈ wT) (hk : lkV k' 1) (hsh : shp t = .inr (ci, sl)) (hcl : (vwCl[ci]?).map (fun q => q.1) = some k'.1.cls) (hml : k'.2.2.1 ≤ 21) (hdd : d' + 1 ≤ d) (hcat : catS rest ≤ 8) (hM : MW k' d' (.ref t :: [a1]) μ (fun r μ' => WA k d Q (pc + 3) lv (r.toList ++ rest) μ')) : WA k d Q pc lv (a1 :: .ref t :: rest) μ :=
  wa_callV (as := [a1]) hd hlink hk hsh hcl hml hdd rfl rfl hcat hM
theorem wa_callS1 {idx : Nat} {a1 : Value} {rest : List Value} (hd : decode k.2.1 pc = .ok (.invokestatic idx, 3)) (hlink : Cond.methodLink k.1.cls idx k'.1 ∈ wT) (hk : lkS k' 1) (hml : k'.2.2.1 ≤ 21) (hdd : d' + 1 ≤ d) (hcat : catS rest ≤ 8) (hM : MW k' d' [a1] μ (fun r μ' => WA k d Q (pc + 3) lv (r.toList ++ rest) μ')) : WA k d Q pc lv (a1 :: rest) μ :=
  wa_callS (as := [a1]) hd hlink hk hml hdd rfl rfl hcat hM
theorem wa_callV2 {t ci idx : Nat} {a1 a2 : Value} {rest sl : List Value} (hd : decode k.2.1 pc = .ok (.invokevirtual idx, 3)) (hlink : Cond.methodLink k.1.cls idx k'.1 ∈ wT) (hk : lkV k' 2) (hsh : shp t = .inr (ci, sl)) (hcl : (vwCl[ci]?).map (fun q => q.1) = some k'.1.cls) (hml : k'.2.2.1 ≤ 21) (hdd : d' + 1 ≤ d) (hcat : catS rest ≤ 8) (hM : MW k' d' (.ref t :: [a1, a2]) μ (fun r μ' => WA k d Q (pc + 3) lv (r.toList ++ rest) μ')) : WA k d Q pc lv (a2 :: a1 :: .ref t :: rest) μ :=
  wa_callV (as := [a1, a2]) hd hlink hk hsh hcl hml hdd rfl rfl hcat hM
theorem wa_callS2 {idx : Nat} {a1 a2 : Value} {rest : List Value} (hd : decode k.2.1 pc = .ok (.invokestatic idx, 3)) (hlink : Cond.methodLink k.1.cls idx k'.1 ∈ wT) (hk : lkS k' 2) (hml : k'.2.2.1 ≤ 21) (hdd : d' + 1 ≤ d) (hcat : catS rest ≤ 8) (hM : MW k' d' [a1, a2] μ (fun r μ' => WA k d Q (pc + 3) lv (r.toList ++ rest) μ')) : WA k d Q pc lv (a2 :: a1 :: rest) μ :=
  wa_callS (as := [a1, a2]) hd hlink hk hml hdd rfl rfl hcat hM
theorem wa_callV3 {t ci idx : Nat} {a1 a2 a3 : Value} {rest sl : List Value} (hd : decode k.2.1 pc = .ok (.invokevirtual idx, 3)) (hlink : Cond.methodLink k.1.cls idx k'.1 ∈ wT) (hk : lkV k' 3) (hsh : shp t = .inr (ci, sl)) (hcl : (vwCl[ci]?).map (fun q => q.1) = some k'.1.cls) (hml : k'.2.2.1 ≤ 21) (hdd : d' + 1 ≤ d) (hcat : catS rest ≤ 8) (hM : MW k' d' (.ref t :: [a1, a2, a3]) μ (fun r μ' => WA k d Q (pc + 3) lv (r.toList ++ rest) μ')) : WA k d Q pc lv (a3 :: a2 :: a1 :: .ref t :: rest) μ :=
  wa_callV (as := [a1, a2, a3]) hd hlink hk hsh hcl hml hdd rfl rfl hcat hM
theorem wa_callS3 {idx : Nat} {a1 a2 a3 : Value} {rest : List Value} (hd : decode k.2.1 pc = .ok (.invokestatic idx, 3)) (hlink : Cond.methodLink k.1.cls idx k'.1 ∈ wT) (hk : lkS k' 3) (hml : k'.2.2.1 ≤ 21) (hdd : d' + 1 ≤ d) (hcat : catS rest ≤ 8) (hM : MW k' d' [a1, a2, a3] μ (fun r μ' => WA k d Q (pc + 3) lv (r.toList ++ rest) μ')) : WA k d Q pc lv (a3 :: a2 :: a1 :: rest) μ :=
  wa_callS (as := [a1, a2, a3]) hd hlink hk hml hdd rfl rfl hcat hM
theorem wa_callV4 {t ci idx : Nat} {a1 a2 a3 a4 : Value} {rest sl : List Value} (hd : decode k.2.1 pc = .ok (.invokevirtual idx, 3)) (hlink : Cond.methodLink k.1.cls idx k'.1 ∈ wT) (hk : lkV k' 4) (hsh : shp t = .inr (ci, sl)) (hcl : (vwCl[ci]?).map (fun q => q.1) = some k'.1.cls) (hml : k'.2.2.1 ≤ 21) (hdd : d' + 1 ≤ d) (hcat : catS rest ≤ 8) (hM : MW k' d' (.ref t :: [a1, a2, a3, a4]) μ (fun r μ' => WA k d Q (pc + 3) lv (r.toList ++ rest) μ')) : WA k d Q pc lv (a4 :: a3 :: a2 :: a1 :: .ref t :: rest) μ :=
  wa_callV (as := [a1, a2, a3, a4]) hd hlink hk hsh hcl hml hdd rfl rfl hcat hM
theorem wa_callS4 {idx : Nat} {a1 a2 a3 a4 : Value} {rest : List Value} (hd : decode k.2.1 pc = .ok (.invokestatic idx, 3)) (hlink : Cond.methodLink k.1.cls idx k'.1 ∈ wT) (hk : lkS k' 4) (hml : k'.2.2.1 ≤ 21) (hdd : d' + 1 ≤ d) (hcat : catS rest ≤ 8) (hM : MW k' d' [a1, a2, a3, a4] μ (fun r μ' => WA k d Q (pc + 3) lv (r.toList ++ rest) μ')) : WA k d Q pc lv (a4 :: a3 :: a2 :: a1 :: rest) μ :=
  wa_callS (as := [a1, a2, a3, a4]) hd hlink hk hml hdd rfl rfl hcat hM
theorem wa_callV5 {t ci idx : Nat} {a1 a2 a3 a4 a5 : Value} {rest sl : List Value} (hd : decode k.2.1 pc = .ok (.invokevirtual idx, 3)) (hlink : Cond.methodLink k.1.cls idx k'.1 ∈ wT) (hk : lkV k' 5) (hsh : shp t = .inr (ci, sl)) (hcl : (vwCl[ci]?).map (fun q => q.1) = some k'.1.cls) (hml : k'.2.2.1 ≤ 21) (hdd : d' + 1 ≤ d) (hcat : catS rest ≤ 8) (hM : MW k' d' (.ref t :: [a1, a2, a3, a4, a5]) μ (fun r μ' => WA k d Q (pc + 3) lv (r.toList ++ rest) μ')) : WA k d Q pc lv (a5 :: a4 :: a3 :: a2 :: a1 :: .ref t :: rest) μ :=
  wa_callV (as := [a1, a2, a3, a4, a5]) hd hlink hk hsh hcl hml hdd rfl rfl hcat hM
theorem wa_callS5 {idx : Nat} {a1 a2 a3 a4 a5 : Value} {rest : List Value} (hd : decode k.2.1 pc = .ok (.invokestatic idx, 3)) (hlink : Cond.methodLink k.1.cls idx k'.1 ∈ wT) (hk : lkS k' 5) (hml : k'.2.2.1 ≤ 21) (hdd : d' + 1 ≤ d) (hcat : catS rest ≤ 8) (hM : MW k' d' [a1, a2, a3, a4, a5] μ (fun r μ' => WA k d Q (pc + 3) lv (r.toList ++ rest) μ')) : WA k d Q pc lv (a5 :: a4 :: a3 :: a2 :: a1 :: rest) μ :=
  wa_callS (as := [a1, a2, a3, a4, a5]) hd hlink hk hml hdd rfl rfl hcat hM
theorem wa_callN2 {a1 a2 : Value} {rest : List Value} (hown : k.1.cls = RX2) (hd : decode k.2.1 pc = .ok (.invokestatic 79, 3)) (hy : k'.1 = yX5_isWithin) (hk : lkS k' 2) (hml : k'.2.2.1 ≤ 21) (hdd : d' + 1 ≤ d) (hcat : catS rest ≤ 8) (hM : MW k' d' [a1, a2] μ (fun r μ' => WA k d Q (pc + 3) lv (r.toList ++ rest) μ')) : WA k d Q pc lv (a2 :: a1 :: rest) μ :=
  wa_callN (as := [a1, a2]) hown hd hy hk hml hdd rfl rfl hcat hM
end CALLS
section MATH
variable {k : MK} {d : Nat} {Q : QM} {pc : Nat} {lv : List (Option Value)} {μ : Mem}
def lkM (y : MethodName) (bc : ByteArray) (ml : Nat) (ret : FieldType) : Prop := Cond.static y ∈ wT ∧ Cond.initialized "java/lang/Math" ∈ wT ∧ Cond.code y bc ml (some ret) ∈ wT
end MATH
theorem wp_bitCount {d : Nat} {x : Int32} {μ : Mem} {Q : QM} (hQ : Q (some (.int (bcI x))) μ) : MW kJ6_bitCount_0f7a4 d [.int x] μ Q := by
  refine MW_of (by decide) [some (.int x)] rfl (Nat.le_of_ble_eq_true rfl) ?_
  refine wa_iload_n dJ6_bitCount_0f7a4_0 rfl ?_
  refine wa_iload_n dJ6_bitCount_0f7a4_1 rfl ?_
  refine wa_iconst (nI 1) dJ6_bitCount_0f7a4_2 (by decide) ?_
  refine wa_iushr dJ6_bitCount_0f7a4_3 ?_
  refine wa_ldcw (1431655765) dJ6_bitCount_0f7a4_4 lcJ6_265 ?_
  refine wa_iand dJ6_bitCount_0f7a4_7 ?_
  refine wa_isub dJ6_bitCount_0f7a4_8 ?_
  refine wa_istore_n dJ6_bitCount_0f7a4_9 (by decide) ?_
  refine wa_iload_n dJ6_bitCount_0f7a4_10 rfl ?_
  refine wa_ldcw (858993459) dJ6_bitCount_0f7a4_11 lcJ6_266 ?_
  refine wa_iand dJ6_bitCount_0f7a4_14 ?_
  refine wa_iload_n dJ6_bitCount_0f7a4_15 rfl ?_
  refine wa_iconst (nI 2) dJ6_bitCount_0f7a4_16 (by decide) ?_
  refine wa_iushr dJ6_bitCount_0f7a4_17 ?_
  refine wa_ldcw (858993459) dJ6_bitCount_0f7a4_18 lcJ6_266 ?_
  refine wa_iand dJ6_bitCount_0f7a4_21 ?_
  refine wa_iadd dJ6_bitCount_0f7a4_22 ?_
  refine wa_istore_n dJ6_bitCount_0f7a4_23 (by decide) ?_
  refine wa_iload_n dJ6_bitCount_0f7a4_24 rfl ?_
  refine wa_iload_n dJ6_bitCount_0f7a4_25 rfl ?_
  refine wa_iconst (nI 4) dJ6_bitCount_0f7a4_26 (by decide) ?_
  refine wa_iushr dJ6_bitCount_0f7a4_27 ?_
  refine wa_iadd dJ6_bitCount_0f7a4_28 ?_
  refine wa_ldcw (252645135) dJ6_bitCount_0f7a4_29 lcJ6_267 ?_
  refine wa_iand dJ6_bitCount_0f7a4_32 ?_
  refine wa_istore_n dJ6_bitCount_0f7a4_33 (by decide) ?_
  refine wa_iload_n dJ6_bitCount_0f7a4_34 rfl ?_
  refine wa_iload_n dJ6_bitCount_0f7a4_35 rfl ?_
  refine wa_bipush (nI 8) dJ6_bitCount_0f7a4_36 (by decide) ?_
  refine wa_iushr dJ6_bitCount_0f7a4_38 ?_
  refine wa_iadd dJ6_bitCount_0f7a4_39 ?_
  refine wa_istore_n dJ6_bitCount_0f7a4_40 (by decide) ?_
  refine wa_iload_n dJ6_bitCount_0f7a4_41 rfl ?_
  refine wa_iload_n dJ6_bitCount_0f7a4_42 rfl ?_
  refine wa_bipush (nI 16) dJ6_bitCount_0f7a4_43 (by decide) ?_
  refine wa_iushr dJ6_bitCount_0f7a4_45 ?_
  refine wa_iadd dJ6_bitCount_0f7a4_46 ?_
  refine wa_istore_n dJ6_bitCount_0f7a4_47 (by decide) ?_
  refine wa_iload_n dJ6_bitCount_0f7a4_48 rfl ?_
  refine wa_bipush (nI 63) dJ6_bitCount_0f7a4_49 (by decide) ?_
  refine wa_iand dJ6_bitCount_0f7a4_51 ?_
  refine wa_iret dJ6_bitCount_0f7a4_52 rfl ?_
  exact hQ
theorem wp_fill {d t n : Nat} {v : Int32} {μ : Mem} {Q : QM} (hs : shp t = .inl (1, n)) (hQ : Q none (bI μ t (fillF (μ.1 t) v n))) : MW kJ7_fill_53178 d [.ref t, .int v] μ Q := by
  refine MW_of (by decide) [some (.ref t), some (.int v), none, none] rfl (Nat.le_of_ble_eq_true rfl) ?_
  have hn := shp_n hs
  have loop : ∀ m i, i + m = n → WA kJ7_fill_53178 d Q 5 [some (.ref t), some (.int v), some (.int (nI i)), some (.int (nI n))] [] (bI μ t (fillF (μ.1 t) v i)) := by
    intro m
    induction m with
    | zero =>
      intro i hi
      refine wa_iload_n dJ7_fill_53178_5 rfl ?_
      refine wa_iload_n dJ7_fill_53178_6 rfl ?_
      refine wa_ic_geT 20 dJ7_fill_53178_7 (by decide) (by have := nI_toInt (n := n) (by omega); have := nI_toInt (n := i) (by omega); omega) ?_
      refine wa_vret dJ7_fill_53178_20 rfl ?_
      rw [show i = n by omega]; exact hQ
    | succ m ih =>
      intro i hi
      refine wa_iload_n dJ7_fill_53178_5 rfl ?_
      refine wa_iload_n dJ7_fill_53178_6 rfl ?_
      refine wa_ic_geF 20 dJ7_fill_53178_7 (by decide) (by have := nI_toInt (n := n) (by omega); have := nI_toInt (n := i) (by omega); omega) ?_
      refine wa_aload_n dJ7_fill_53178_10 rfl ?_
      refine wa_iload_n dJ7_fill_53178_11 rfl ?_
      refine wa_iload_n dJ7_fill_53178_12 rfl ?_
      refine wa_iast _ dJ7_fill_53178_13 (by first | assumption | rfl) (by first | with_reducible rfl | with_reducible assumption | with_reducible exact ix_ma _ _ _ | with_reducible exact ix_maa _ _ _ _ | with_reducible exact ix_a _ _ | with_reducible exact ix_mama _ _ _ _ _) (by omega) ?_
      refine wa_iinc (nI 1) dJ7_fill_53178_14 rfl (by decide) (by decide) ?_
      refine wa_goto 5 dJ7_fill_53178_17 (by decide) ?_
      rw [sIb, fillF_s, nI_add]; exact ih (i + 1) (by omega)
  refine wa_iconst (nI 0) dJ7_fill_53178_0 (by decide) ?_
  refine wa_istore_n dJ7_fill_53178_1 (by decide) ?_
  refine wa_aload_n dJ7_fill_53178_2 rfl ?_
  refine wa_alenI dJ7_fill_53178_3 (by first | assumption | rfl) ?_
  refine wa_istore_n dJ7_fill_53178_4 (by decide) ?_
  have h0 := loop n 0 (by omega); rw [fillF_0, bI_self] at h0; exact h0
