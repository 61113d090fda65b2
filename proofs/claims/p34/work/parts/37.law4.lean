/-! THE LAW: its first loop, that fills the two arrays -/
def upZ (V : Nat → Int) (i : Nat) (x : Int) (j : Nat) : Int := if j = i then x else V j
theorem upZ_sum {V : Nat → Int} {i : Nat} {x : Int} : sumZ (upZ V i x) (i + 1) = sumZ V i + x := by
  rw [sumZ, sumZ_congr (g := V) (fun k hk => by rw [upZ, if_neg (by omega)]), upZ, if_pos rfl]
theorem upZ_bnd {V : Nat → Int} {i : Nat} {x B : Int} (h : bnd V i B) (hx : -B ≤ x ∧ x ≤ B) : bnd (upZ V i x) (i + 1) B := fun j hj => by
  by_cases hji : j = i
  · rw [upZ, if_pos hji]
    exact hx
  · rw [upZ, if_neg hji]
    exact h j (by omega)
theorem upZ_arr {ν : Mem} {t i : Nat} {V : Nat → Int} {x : Int} (h : ArrIs ν t i V) : ArrIs (sL ν t i (Int64.ofInt x)) t (i + 1) (upZ V i x) := fun j hj => by
  by_cases hji : j = i
  · subst hji
    rw [r2e, upZ, if_pos rfl]
  · rw [r2m hji, upZ, if_neg hji]
    exact h j (by omega)
section LAW4
variable {p : Program} {l : Launch} {e : Env} {s : State} {m : MethodId} {below : List Frame} {meth : Method} {c : Code} {b L : Nat} {xs : Nat → Int32} {G : WG}
theorem wl_38 (C : LK p s m meth c b L xs G) {n q : Nat} (hn : n ≤ 64) (hq : q < 7) (hnq : n = 2 ^ q) : ∀ mm i, i + mm = n → ∀ (V U : Nat → Int) (ν : Mem), ArrIs ν 73 i V → ArrIs ν 74 i U → bnd V i 1000 → bnd U i 1000 → WL p l e s m below meth c b G 38 [some (.ref 75), some (.ref 0), some (.int (nI n)), some (.ref 73), some (.ref 74), some (.long (Int64.ofInt (sumZ V i))), none, some (.int (nI i)), none, none, none, none, none, none, none, none, none, none, none] [] ν := by
  have hs3 := sh73
  have hs4 := sh74
  intro mm
  induction mm with
  | zero =>
    intro i hi V U ν hA hB hV hU
    obtain rfl : i = n := by omega
    refine wl_iload C dL_law_38 rfl ?_
    refine wl_iload_n C dL_law_40 rfl ?_
    refine wl_ic_geT C 107 dL_law_41 (by decide) (le_nI (by omega) (by omega)) ?_
    refine wl_frg [true, true, true, true, true, true, false, false, false, false, false, false, false, false, false, false, false, false, false] ?_
    exact wl_107 C hn hq hnq hV hU hA hB
  | succ mm ih =>
    intro i hi V U ν hA hB hV hU
    refine wl_iload C dL_law_38 rfl ?_
    refine wl_iload_n C dL_law_40 rfl ?_
    refine wl_ic_geF C 107 dL_law_41 (by decide) (nle_nI (by omega) (by omega)) ?_
    refine wl_aload_n C dL_law_44 rfl ?_
    refine wl_iload C dL_law_45 rfl ?_
    refine wl_aload_n C dL_law_47 rfl ?_
    refine wl_iconst C (nI 1) dL_law_48 (by decide) ?_
    refine wl_iload C dL_law_49 rfl ?_
    refine wl_iadd C dL_law_51 ?_
    refine wl_cell C _ dL_law_52 (by first | with_reducible rfl | with_reducible exact ix_a _ _) (by omega) (Nat.le_of_ble_eq_true rfl) (fun v_52 => ?_)
    refine wl_sipush C (nI 2001) dL_law_55 (by decide) ?_
    refine wl_up C dL_law_58 (by omega) (by omega) (Nat.le_of_ble_eq_true rfl) (fun r_58 hr_58 => ?_)
    refine wl_sipush C (nI 1000) dL_law_61 (by decide) ?_
    refine wl_isub C dL_law_64 ?_
    rw [nI_subZ]
    refine wl_i2l C dL_law_65 ?_
    rw [z_32 (by omega) (by omega)]
    refine wl_last C _ dL_law_66 (by first | assumption | rfl) (by first | with_reducible rfl | with_reducible assumption | with_reducible exact ix_ma _ _ _ | with_reducible exact ix_maa _ _ _ _ | with_reducible exact ix_a _ _ | with_reducible exact ix_mama _ _ _ _ _) (by omega) ?_
    refine wl_aload C dL_law_67 rfl ?_
    refine wl_iload C dL_law_69 rfl ?_
    refine wl_aload_n C dL_law_71 rfl ?_
    refine wl_bipush C (nI 70) dL_law_72 (by decide) ?_
    refine wl_iload C dL_law_74 rfl ?_
    refine wl_iadd C dL_law_76 ?_
    refine wl_cell C _ dL_law_77 (by first | with_reducible rfl | with_reducible exact ix_a _ _) (by omega) (Nat.le_of_ble_eq_true rfl) (fun v_77 => ?_)
    refine wl_sipush C (nI 2001) dL_law_80 (by decide) ?_
    refine wl_up C dL_law_83 (by omega) (by omega) (Nat.le_of_ble_eq_true rfl) (fun r_83 hr_83 => ?_)
    refine wl_sipush C (nI 1000) dL_law_86 (by decide) ?_
    refine wl_isub C dL_law_89 ?_
    rw [nI_subZ]
    refine wl_i2l C dL_law_90 ?_
    rw [z_32 (by omega) (by omega)]
    refine wl_last C _ dL_law_91 (by first | assumption | rfl) (by first | with_reducible rfl | with_reducible assumption | with_reducible exact ix_ma _ _ _ | with_reducible exact ix_maa _ _ _ _ | with_reducible exact ix_a _ _ | with_reducible exact ix_mama _ _ _ _ _) (by omega) ?_
    refine wl_lload C dL_law_92 rfl ?_
    refine wl_aload_n C dL_law_94 rfl ?_
    refine wl_iload C dL_law_95 rfl ?_
    refine wl_lald C _ dL_law_97 (by first | assumption | rfl) (by first | with_reducible rfl | with_reducible assumption | with_reducible exact ix_ma _ _ _ | with_reducible exact ix_maa _ _ _ _ | with_reducible exact ix_a _ _ | with_reducible exact ix_mama _ _ _ _ _) (by omega) ?_
    rw [sL_off (show (73 : Nat) ≠ 74 by omega), r2e]
    refine wl_ladd C dL_law_98 ?_
    rw [← Int64.ofInt_add]
    refine wl_lstore C dL_law_99 (by decide) ?_
    refine wl_iinc C (nI 1) dL_law_101 rfl (by decide) (by decide) ?_
    refine wl_goto C 38 dL_law_104 (by decide) ?_
    have e_ := ih (i + 1) (by omega) (upZ V i ((r_58 : Int) - ((1000 : Nat) : Int))) (upZ U i ((r_83 : Int) - ((1000 : Nat) : Int))) (sL (sL ν 73 i (Int64.ofInt ((r_58 : Int) - ((1000 : Nat) : Int)))) 74 i (Int64.ofInt ((r_83 : Int) - ((1000 : Nat) : Int)))) ((upZ_arr hA).fr (sL_off (by omega))) (upZ_arr (hB.fr (sL_off (by omega)))) (upZ_bnd hV (by omega)) (upZ_bnd hU (by omega))
    rw [upZ_sum] at e_
    simp only [nI_add]
    exact e_
end LAW4
