/-! THE LAW, from its end on: the last loop, the changes of sign, the row of one -/
theorem RowIs.fr {μ ν : Mem} {r n : Nat} {V : Nat → Int} (h0 : ν.1 (43 + 5 * r) = μ.1 (43 + 5 * r)) (h1 : ν.2 (43 + 5 * r + 1) = μ.2 (43 + 5 * r + 1)) (h : RowIs μ r n V) : RowIs ν r n V := ⟨by rw [h0]; exact h.1, fun i hi => by rw [h1]; exact h.2 i hi⟩
theorem ArrIs.fr {μ ν : Mem} {t n : Nat} {V : Nat → Int} (h1 : ν.2 t = μ.2 t) (h : ArrIs μ t n V) : ArrIs ν t n V := fun i hi => by rw [h1]; exact h i hi
theorem RowIs.co {μ : Mem} {r n : Nat} {V W : Nat → Int} (e : ∀ i, i < n → V i = W i) (h : RowIs μ r n V) : RowIs μ r n W := ⟨h.1, fun i hi => by rw [← e i hi]; exact h.2 i hi⟩
def unZ (t i : Nat) : Int := if i = t then 1 else 0
theorem sh73 : shp 73 = .inl (2, 64) := rfl
theorem sh74 : shp 74 = .inl (2, 64) := rfl
section LAW1
variable {p : Program} {l : Launch} {e : Env} {s : State} {m : MethodId} {below : List Frame} {meth : Method} {c : Code} {b L : Nat} {xs : Nat → Int32} {G : WG}
theorem wl_535 (C : LK p s m meth c b L xs G) {n : Nat} {V : Nat → Int} {μ : Mem} (hn : n ≤ 64) (h0 : RowIs μ 0 n (fun k => (n : Int) * V k)) (hA : ArrIs μ 73 n V) : ∀ mm i, i + mm = n → WL p l e s m below meth c b G 535 [some (.ref 75), some (.ref 0), some (.int (nI n)), some (.ref 73), none, none, none, none, none, none, none, none, none, none, none, none, none, none, some (.int (nI i))] [] μ := by
  have hs := sh73
  intro mm
  induction mm with
  | zero =>
    intro i hi
    obtain rfl : i = n := by omega
    refine wl_iload C dL_law_535 rfl ?_
    refine wl_iload_n C dL_law_537 rfl ?_
    refine wl_ic_geT C 567 dL_law_538 (by decide) (le_nI (by omega) (by omega)) ?_
    exact wl_end C
  | succ mm ih =>
    intro i hi
    have e_ := ih (i + 1) (by omega)
    refine wl_iload C dL_law_535 rfl ?_
    refine wl_iload_n C dL_law_537 rfl ?_
    refine wl_ic_geF C 567 dL_law_538 (by decide) (nle_nI (by omega) (by omega)) ?_
    refine wl_aload_n C dL_law_541 rfl ?_
    refine wl_iconst C (nI 0) dL_law_542 (by decide) ?_
    refine wl_iload C dL_law_543 rfl ?_
    refine wl_callV2 C (k' := kX5_number) dL_law_545 lmL_51 kvX5_number (by first | assumption | rfl) (by rfl) (by decide) (Nat.le_of_ble_eq_true rfl) ?_
    refine wp_number (n := n) (by omega) (by omega) hn (by omega) h0 ?_
    refine wl_iload_n C dL_law_548 rfl ?_
    refine wl_i2l C dL_law_549 ?_
    refine wl_aload_n C dL_law_550 rfl ?_
    refine wl_iload C dL_law_551 rfl ?_
    refine wl_lald C _ dL_law_553 (by first | assumption | rfl) (by first | with_reducible rfl | with_reducible assumption | with_reducible exact ix_ma _ _ _ | with_reducible exact ix_maa _ _ _ _ | with_reducible exact ix_a _ _ | with_reducible exact ix_mama _ _ _ _ _) (by omega) ?_
    refine wl_lmul C dL_law_554 ?_
    rw [hA i (by omega), z_nI (by omega), ← Int64.ofInt_mul]
    refine wl_lc_eqT C 561 dL_law_555 dL_law_556 (by decide) (rfl) ?_
    refine wl_iinc C (nI 1) dL_law_561 rfl (by decide) (by decide) ?_
    refine wl_goto C 535 dL_law_564 (by decide) ?_
    simp only [nI_add]
    exact e_
theorem wl_471 (C : LK p s m meth c b L xs G) {n q t : Nat} {μ : Mem} (hn : n ≤ 64) (h3 : RowIs μ 3 n (fun k => sgZ (sgB q t k))) (K : WL p l e s m below meth c b G 513 [some (.ref 75), some (.ref 0), some (.int (nI n)), some (.ref 73), none, none, none, none, none, none, none, none, none, none, none, none, some (.int (nI (flN q t (n - 1)))), some (.int (nI t)), some (.int (nI n))] [] μ) : ∀ mm j, j + 1 + mm = n → WL p l e s m below meth c b G 471 [some (.ref 75), some (.ref 0), some (.int (nI n)), some (.ref 73), none, none, none, none, none, none, none, none, none, none, none, none, some (.int (nI (flN q t j))), some (.int (nI t)), some (.int (nI (j + 1)))] [] μ := by
  intro mm
  induction mm with
  | zero =>
    intro j hj
    obtain rfl : n = j + 1 := by omega
    rw [Nat.add_sub_cancel] at K
    refine wl_iload C dL_law_471 rfl ?_
    refine wl_iload_n C dL_law_473 rfl ?_
    refine wl_ic_geT C 513 dL_law_474 (by decide) (le_nI (by omega) (by omega)) ?_
    exact K
  | succ mm ih =>
    intro j hj
    have e_ := ih (j + 1) (by omega)
    refine wl_iload C dL_law_471 rfl ?_
    refine wl_iload_n C dL_law_473 rfl ?_
    refine wl_ic_geF C 513 dL_law_474 (by decide) (nle_nI (by omega) (by omega)) ?_
    refine wl_iload C dL_law_477 rfl ?_
    refine wl_aload_n C dL_law_479 rfl ?_
    refine wl_iconst C (nI 3) dL_law_480 (by decide) ?_
    refine wl_iload C dL_law_481 rfl ?_
    refine wl_callV2 C (k' := kX5_number) dL_law_483 lmL_51 kvX5_number (by first | assumption | rfl) (by rfl) (by decide) (Nat.le_of_ble_eq_true rfl) ?_
    refine wp_number (n := n) (by omega) (by omega) hn (by omega) h3 ?_
    refine wl_aload_n C dL_law_486 rfl ?_
    refine wl_iconst C (nI 3) dL_law_487 (by decide) ?_
    refine wl_iload C dL_law_488 rfl ?_
    refine wl_iconst C (nI 1) dL_law_490 (by decide) ?_
    refine wl_isub C dL_law_491 ?_
    rw [pk_sub (show 1 ≤ j + 1 by omega), Nat.add_sub_cancel]
    refine wl_callV2 C (k' := kX5_number) dL_law_492 lmL_51 kvX5_number (by first | assumption | rfl) (by rfl) (by decide) (Nat.le_of_ble_eq_true rfl) ?_
    refine wp_number (n := n) (by omega) (by omega) hn (by omega) h3 ?_
    refine wl_lc_ne C 503 dL_law_495 dL_law_496 (by decide) (fun c495_3 => ?_) (fun c495_3 => ?_)
    · try simp (disch := omega) only [nI_toInt, Int32.toInt_toInt64] at c495_3
      refine wl_iconst C (nI 1) dL_law_503 (by decide) ?_
      refine wl_iadd C dL_law_504 ?_
      refine wl_istore C dL_law_505 (by decide) ?_
      refine wl_iinc C (nI 1) dL_law_507 rfl (by decide) (by decide) ?_
      refine wl_goto C 471 dL_law_510 (by decide) ?_
      have a_ : ¬ sgB q t (j + 1) = sgB q t j := fun q_ => c495_3 ((sgZ_inj _ _).mpr q_)
      rw [flN, if_neg a_] at e_
      simp only [nI_add]
      exact e_
    · try simp (disch := omega) only [nI_toInt, Int32.toInt_toInt64] at c495_3
      refine wl_iconst C (nI 0) dL_law_499 (by decide) ?_
      refine wl_goto C 504 dL_law_500 (by decide) ?_
      refine wl_iadd C dL_law_504 ?_
      refine wl_istore C dL_law_505 (by decide) ?_
      refine wl_iinc C (nI 1) dL_law_507 rfl (by decide) (by decide) ?_
      refine wl_goto C 471 dL_law_510 (by decide) ?_
      have a_ : sgB q t (j + 1) = sgB q t j := (sgZ_inj _ _).mp (Decidable.not_not.mp c495_3)
      rw [flN, if_pos a_] at e_
      simp only [nI_add]
      exact e_
end LAW1
