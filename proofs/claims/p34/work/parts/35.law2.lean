/-! THE LAW: the row of one, its tones, the loop over three rows -/
section LAW2
variable {p : Program} {l : Launch} {e : Env} {s : State} {m : MethodId} {below : List Frame} {meth : Method} {c : Code} {b L : Nat} {xs : Nat → Int32} {G : WG}
theorem ton_b {V : Nat → Int} {q n : Nat} {B D : Int} (hq : q < 7) (hnq : n = 2 ^ q) (hV : bnd V n B) (hD : 64 * B ≤ D) : bnd (tonZ V q) n D := fun i _ => by
  have := ton_le hq (fun j hj => hV j (by omega)) i
  omega
theorem wl_513 (C : LK p s m meth c b L xs G) {n q t : Nat} {V : Nat → Int} {μ : Mem} (hn : n ≤ 64) (hq : q < 7) (hnq : n = 2 ^ q) (h0 : RowIs μ 0 n (tonZ V q)) (hV : bnd V n 1000) (hA : ArrIs μ 73 n V) : WL p l e s m below meth c b G 513 [some (.ref 75), some (.ref 0), some (.int (nI n)), some (.ref 73), none, none, none, none, none, none, none, none, none, none, none, none, some (.int (nI t)), some (.int (nI t)), some (.int (nI n))] [] μ := by
  refine wl_iload C dL_law_513 rfl ?_
  refine wl_iload C dL_law_515 rfl ?_
  refine wl_ic_neF C 530 dL_law_517 (by decide) (fun q_ => q_ rfl) ?_
  refine wl_aload_n C dL_law_520 rfl ?_
  refine wl_iconst C (nI 0) dL_law_521 (by decide) ?_
  refine wl_iconst C (nI 3) dL_law_522 (by decide) ?_
  refine wl_callV2 C (k' := kX5_turn) dL_law_523 lmL_48 kvX5_turn (by first | assumption | rfl) (by rfl) (by decide) (Nat.le_of_ble_eq_true rfl) ?_
  refine wp_tones (p := q) (by omega) (by omega) hq hnq hn h0 (ton_b hq hnq hV (by omega)) (fun ν h1_ hk_ => ?_)
  refine wl_iload_n C dL_law_526 rfl ?_
  refine wl_ic_eqT C 532 dL_law_527 (by decide) (rfl) ?_
  refine wl_iconst C (nI 0) dL_law_532 (by decide) ?_
  refine wl_istore C dL_law_533 (by decide) ?_
  refine wl_frg [true, true, true, true, false, false, false, false, false, false, false, false, false, false, false, false, false, false, true] ?_
  exact wl_535 C hn (h1_.co (fun i hi => by rw [ton_two hq (by omega), hnq])) (hA.fr (hk_ 73 (by omega)).2) n 0 (by omega)
theorem wl_441 (C : LK p s m meth c b L xs G) {n q t : Nat} {V : Nat → Int} {μ : Mem} (hn : n ≤ 64) (hq : q < 7) (hnq : n = 2 ^ q) (ht : t < n) (h0 : RowIs μ 0 n (tonZ V q)) (hV : bnd V n 1000) (hA : ArrIs μ 73 n V) (hU : ArrIs μ 74 n (unZ t)) : WL p l e s m below meth c b G 441 [some (.ref 75), some (.ref 0), some (.int (nI n)), some (.ref 73), some (.ref 74), none, none, none, none, none, none, none, none, none, none, none, none, some (.int (nI t)), some (.int (nI n))] [] μ := by
  have hB : ∀ B : Int, 1 ≤ B → bnd (unZ t) n B := fun B hB i _ => by
    unfold unZ
    split <;> omega
  refine wl_aload_n C dL_law_441 rfl ?_
  refine wl_iconst C (nI 3) dL_law_442 (by decide) ?_
  refine wl_iconst C (nI 3) dL_law_443 (by decide) ?_
  refine wl_aload C dL_law_444 rfl ?_
  refine wl_iload_n C dL_law_446 rfl ?_
  refine wl_callS5 C (k' := kL_raised) dL_law_447 lmL_32 ksL_raised (by decide) (Nat.le_of_ble_eq_true rfl) ?_
  refine wp_raised (by omega) (by omega) (by omega) hn sh74 (by omega) hU (hB _ (by omega)) (fun ν h3_ hk_ => ?_)
  refine wl_if_eqF C 463 dL_law_450 (by decide) (by decide) ?_
  refine wl_aload_n C dL_law_453 rfl ?_
  refine wl_iconst C (nI 3) dL_law_454 (by decide) ?_
  refine wl_iconst C (nI 3) dL_law_455 (by decide) ?_
  refine wl_callV2 C (k' := kX5_turn) dL_law_456 lmL_48 kvX5_turn (by first | assumption | rfl) (by rfl) (by decide) (Nat.le_of_ble_eq_true rfl) ?_
  refine wp_tones (p := q) (by omega) (by omega) hq hnq hn h3_ (hB _ (by omega)) (fun ν2 h4_ hk2_ => ?_)
  refine wl_iload_n C dL_law_459 rfl ?_
  refine wl_ic_eqT C 465 dL_law_460 (by decide) (rfl) ?_
  refine wl_iconst C (nI 0) dL_law_465 (by decide) ?_
  refine wl_istore C dL_law_466 (by decide) ?_
  refine wl_iconst C (nI 1) dL_law_468 (by decide) ?_
  refine wl_istore C dL_law_469 (by decide) ?_
  have a0 : RowIs ν2 0 n (tonZ V q) := (h0.fr (hk_ (43 + 5 * 0) (by omega) (by omega)).1 (hk_ (43 + 5 * 0 + 1) (by omega) (by omega)).2).fr (hk2_ (43 + 5 * 0) (by omega)).1 (hk2_ (43 + 5 * 0 + 1) (by omega)).2
  have a1 : ArrIs ν2 73 n V := (hA.fr (hk_ 73 (by omega) (by omega)).2).fr (hk2_ 73 (by omega)).2
  have a2 : RowIs ν2 3 n (fun k => sgZ (sgB q t k)) := h4_.co (fun i hi => ton_unit (by omega))
  have a3 := wl_513 (p := p) (l := l) (e := e) (s := s) (m := m) (below := below) (meth := meth) (c := c) (t := t) C hn hq hnq a0 hV a1
  have a4 : flN q t (n - 1) = t := by rw [hnq]; exact fl_end q hq t (by omega)
  refine wl_frg [true, true, true, true, false, false, false, false, false, false, false, false, false, false, false, false, true, true, true] ?_
  exact wl_471 C hn a2 (by rw [a4]; exact a3) (n - 1) 0 (by omega)
theorem wl_412 (C : LK p s m meth c b L xs G) {n q t : Nat} {V : Nat → Int} (hn : n ≤ 64) (hq : q < 7) (hnq : n = 2 ^ q) (ht : t < n) (hV : bnd V n 1000) : ∀ mm i, i + mm = n → ∀ ν, RowIs ν 0 n (tonZ V q) → ArrIs ν 73 n V → ArrIs ν 74 i (unZ t) → WL p l e s m below meth c b G 412 [some (.ref 75), some (.ref 0), some (.int (nI n)), some (.ref 73), some (.ref 74), none, none, none, none, none, none, none, none, none, none, none, none, some (.int (nI t)), some (.int (nI i))] [] ν := by
  have hs := sh74
  intro mm
  induction mm with
  | zero =>
    intro i hi ν h0 hA hU
    obtain rfl : i = n := by omega
    refine wl_iload C dL_law_412 rfl ?_
    refine wl_iload_n C dL_law_414 rfl ?_
    refine wl_ic_geT C 441 dL_law_415 (by decide) (le_nI (by omega) (by omega)) ?_
    exact wl_441 C hn hq hnq ht h0 hV hA hU
  | succ mm ih =>
    intro i hi ν h0 hA hU
    have e_ : ∀ x, x = Int64.ofInt (unZ t i) → WL p l e s m below meth c b G 412 [some (.ref 75), some (.ref 0), some (.int (nI n)), some (.ref 73), some (.ref 74), none, none, none, none, none, none, none, none, none, none, none, none, some (.int (nI t)), some (.int (nI (i + 1)))] [] (sL ν 74 i x) := fun x hx => ih (i + 1) (by omega) _ (h0.fr rfl (sL_off (by omega))) (hA.fr (sL_off (by omega))) (fun j hj => by
      by_cases hji : j = i
      · subst hji
        rw [r2e, hx]
      · rw [r2m hji]
        exact hU j (by omega))
    refine wl_iload C dL_law_412 rfl ?_
    refine wl_iload_n C dL_law_414 rfl ?_
    refine wl_ic_geF C 441 dL_law_415 (by decide) (nle_nI (by omega) (by omega)) ?_
    refine wl_aload C dL_law_418 rfl ?_
    refine wl_iload C dL_law_420 rfl ?_
    refine wl_iload C dL_law_422 rfl ?_
    refine wl_iload C dL_law_424 rfl ?_
    refine wl_ic_ne C 433 dL_law_426 (by decide) (fun c426_1 => ?_) (fun c426_1 => ?_)
    · try simp (disch := omega) only [nI_toInt, Int32.toInt_toInt64] at c426_1
      refine wl_lconst C (0) dL_law_433 (by decide) ?_
      refine wl_last C _ dL_law_434 (by first | assumption | rfl) (by first | with_reducible rfl | with_reducible assumption | with_reducible exact ix_ma _ _ _ | with_reducible exact ix_maa _ _ _ _ | with_reducible exact ix_a _ _ | with_reducible exact ix_mama _ _ _ _ _) (by omega) ?_
      refine wl_iinc C (nI 1) dL_law_435 rfl (by decide) (by decide) ?_
      refine wl_goto C 412 dL_law_438 (by decide) ?_
      have a_ : unZ t i = 0 := by unfold unZ; rw [if_neg (by omega)]
      simp only [nI_add]
      exact e_ 0 (by rw [a_]; rfl)
    · try simp (disch := omega) only [nI_toInt, Int32.toInt_toInt64] at c426_1
      refine wl_lconst C (1) dL_law_429 (by decide) ?_
      refine wl_goto C 434 dL_law_430 (by decide) ?_
      refine wl_last C _ dL_law_434 (by first | assumption | rfl) (by first | with_reducible rfl | with_reducible assumption | with_reducible exact ix_ma _ _ _ | with_reducible exact ix_maa _ _ _ _ | with_reducible exact ix_a _ _ | with_reducible exact ix_mama _ _ _ _ _) (by omega) ?_
      refine wl_iinc C (nI 1) dL_law_435 rfl (by decide) (by decide) ?_
      refine wl_goto C 412 dL_law_438 (by decide) ?_
      have a_ : unZ t i = 1 := by unfold unZ; rw [if_pos (by omega)]
      simp only [nI_add]
      exact e_ 1 (by rw [a_]; rfl)
theorem wl_348 (C : LK p s m meth c b L xs G) {n q : Nat} {a1 a2 : Int} {V U : Nat → Int} {μ : Mem} (hn : n ≤ 64) (hq : q < 7) (hnq : n = 2 ^ q) (ha1 : -4 ≤ a1 ∧ a1 ≤ 4) (ha2 : -4 ≤ a2 ∧ a2 ≤ 4) (hV : bnd V n 1000) (h0 : RowIs μ 0 n (tonZ V q)) (h1 : RowIs μ 1 n (tonZ U q)) (h2 : RowIs μ 2 n (fun i => a1 * tonZ V q i + a2 * tonZ U q i)) (hA : ArrIs μ 73 n V) : ∀ mm i, i + mm = n → WL p l e s m below meth c b G 348 [some (.ref 75), some (.ref 0), some (.int (nI n)), some (.ref 73), some (.ref 74), none, none, none, none, none, none, some (.int (Int32.ofInt a1)), some (.int (Int32.ofInt a2)), none, none, none, none, some (.int (nI i)), none] [] μ := by
  have hn0 : 0 < n := by have := Nat.two_pow_pos q; omega
  intro mm
  induction mm with
  | zero =>
    intro i hi
    obtain rfl : i = n := by omega
    refine wl_iload C dL_law_348 rfl ?_
    refine wl_iload_n C dL_law_350 rfl ?_
    refine wl_ic_geT C 396 dL_law_351 (by decide) (le_nI (by omega) (by omega)) ?_
    refine wl_aload_n C dL_law_396 rfl ?_
    refine wl_sipush C (nI 143) dL_law_397 (by decide) ?_
    refine wl_cell C _ dL_law_400 (by first | with_reducible rfl | with_reducible exact ix_a _ _) (by omega) (Nat.le_of_ble_eq_true rfl) (fun v_400 => ?_)
    refine wl_iload_n C dL_law_403 rfl ?_
    refine wl_up C dL_law_404 (by omega) (by omega) (Nat.le_of_ble_eq_true rfl) (fun r_404 hr_404 => ?_)
    refine wl_istore C dL_law_407 (by decide) ?_
    refine wl_iconst C (nI 0) dL_law_409 (by decide) ?_
    refine wl_istore C dL_law_410 (by decide) ?_
    refine wl_frg [true, true, true, true, true, false, false, false, false, false, false, false, false, false, false, false, false, true, true] ?_
    exact wl_412 C hn hq hnq hr_404 hV i 0 (by omega) μ h0 hA (fun j hj => absurd hj (by omega))
  | succ mm ih =>
    intro i hi
    have e_ := ih (i + 1) (by omega)
    refine wl_iload C dL_law_348 rfl ?_
    refine wl_iload_n C dL_law_350 rfl ?_
    refine wl_ic_geF C 396 dL_law_351 (by decide) (nle_nI (by omega) (by omega)) ?_
    refine wl_aload_n C dL_law_354 rfl ?_
    refine wl_iconst C (nI 2) dL_law_355 (by decide) ?_
    refine wl_iload C dL_law_356 rfl ?_
    refine wl_callV2 C (k' := kX5_number) dL_law_358 lmL_51 kvX5_number (by first | assumption | rfl) (by rfl) (by decide) (Nat.le_of_ble_eq_true rfl) ?_
    refine wp_number (n := n) (by omega) (by omega) hn (by omega) h2 ?_
    refine wl_iload C dL_law_361 rfl ?_
    refine wl_i2l C dL_law_363 ?_
    refine wl_aload_n C dL_law_364 rfl ?_
    refine wl_iconst C (nI 0) dL_law_365 (by decide) ?_
    refine wl_iload C dL_law_366 rfl ?_
    refine wl_callV2 C (k' := kX5_number) dL_law_368 lmL_51 kvX5_number (by first | assumption | rfl) (by rfl) (by decide) (Nat.le_of_ble_eq_true rfl) ?_
    refine wp_number (n := n) (by omega) (by omega) hn (by omega) h0 ?_
    refine wl_lmul C dL_law_371 ?_
    refine wl_iload C dL_law_372 rfl ?_
    refine wl_i2l C dL_law_374 ?_
    refine wl_aload_n C dL_law_375 rfl ?_
    refine wl_iconst C (nI 1) dL_law_376 (by decide) ?_
    refine wl_iload C dL_law_377 rfl ?_
    refine wl_callV2 C (k' := kX5_number) dL_law_379 lmL_51 kvX5_number (by first | assumption | rfl) (by rfl) (by decide) (Nat.le_of_ble_eq_true rfl) ?_
    refine wp_number (n := n) (by omega) (by omega) hn (by omega) h1 ?_
    refine wl_lmul C dL_law_382 ?_
    refine wl_ladd C dL_law_383 ?_
    rw [z_32 (by omega) (by omega), z_32 (by omega) (by omega), ← Int64.ofInt_mul, ← Int64.ofInt_mul, ← Int64.ofInt_add]
    refine wl_lc_eqT C 390 dL_law_384 dL_law_385 (by decide) (rfl) ?_
    refine wl_iinc C (nI 1) dL_law_390 rfl (by decide) (by decide) ?_
    refine wl_goto C 348 dL_law_393 (by decide) ?_
    simp only [nI_add]
    exact e_
end LAW2
