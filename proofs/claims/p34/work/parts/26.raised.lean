/-! THE LAW'S OWN: a sheet of numbers, raised to a row -/
def ArrIs (μ : Mem) (t n : Nat) (V : Nat → Int) : Prop := ∀ i, i < n → μ.2 t i = Int64.ofInt (V i)
/-- all tags but those of sheet k and row r stay -/
def Kp2 (μ ν : Mem) (k r : Nat) : Prop := ∀ t, ¬ (7 + 4 * k ≤ t ∧ t < 11 + 4 * k) → ¬ (43 + 5 * r ≤ t ∧ t < 48 + 5 * r) → ν.1 t = μ.1 t ∧ ν.2 t = μ.2 t
theorem wp_raised {d k r t n : Nat} {V : Nat → Int} {μ : Mem} {Q : QM} (hd : 4 ≤ d) (hk : k < 8) (hr : r < 6) (hn : n ≤ 64) (hsh : shp t = .inl (2, 64)) (ht : 73 ≤ t) (hA : ArrIs μ t n V) (hV : bnd V n 2000000000) (hQ : ∀ ν, RowIs ν r n V → Kp2 μ ν k r → Q (some (.int (nI 1))) ν) : MW kL_raised d [.ref 0, .int (nI k), .int (nI r), .ref t, .int (nI n)] μ Q := by
  refine MW_of (by decide) [some (.ref 0), some (.int (nI k)), some (.int (nI r)), some (.ref t), some (.int (nI n)), none] rfl (Nat.le_of_ble_eq_true rfl) ?_
  have loop : ∀ m i, i + m = n → ∀ ν, ShIs ν k n → Kp μ ν (7 + 4 * k) (11 + 4 * k) → (∀ j, j < i → ν.1 (7 + 4 * k + 1) j = Int32.ofInt (V j)) → WA kL_raised d Q 17 [some (.ref 0), some (.int (nI k)), some (.int (nI r)), some (.ref t), some (.int (nI n)), some (.int (nI i))] [] ν := by
    intro m
    induction m with
    | zero =>
      intro i hi ν hs hkp hv
      obtain rfl : i = n := by omega
      refine wa_iload dL_raised_17 rfl ?_
      refine wa_iload dL_raised_19 rfl ?_
      refine wa_ic_geT 48 dL_raised_21 (by decide) (le_nI (by omega) (by omega)) ?_
      refine wa_aload_n dL_raised_48 rfl ?_
      refine wa_iload_n dL_raised_49 rfl ?_
      refine wa_iload_n dL_raised_50 rfl ?_
      refine wa_callV2 (k' := kX5_raise) (d' := 2) dL_raised_51 lmL_18 kvX5_raise (by first | assumption | rfl) (by rfl) (by decide) (by omega) (Nat.le_of_ble_eq_true rfl) ?_
      refine wp_raise (n := i) (by omega) hk hr hn hs ?_
      refine wa_iload dL_raised_54 rfl ?_
      refine wa_ic_neF 63 dL_raised_56 (by decide) (fun q_ => q_ rfl) ?_
      refine wa_iconst (nI 1) dL_raised_59 (by decide) ?_
      refine wa_goto 64 dL_raised_60 (by decide) ?_
      refine wa_zret dL_raised_64 rfl (by decide) ?_
      refine hQ _ ⟨?_, fun j hj => ?_⟩ (fun q hq1 hq2 => ?_)
      · rw [rb2l, r1e]
      · rw [rb2e, frF, if_pos hj, hv j hj, z_32 (by have := hV j hj; omega) (by have := hV j hj; omega)]
      · have hq := hkp q hq1
        exact ⟨by rw [rb2l, sI_off (by omega), hq.1], by rw [bL_off (by omega), r1l, hq.2]⟩
    | succ m ih =>
      intro i hi ν hs hkp hv
      have e := ih (i + 1) (by omega) (sI (sI ν (7 + 4 * k + 1) i (Int32.ofInt (V i))) (7 + 4 * k + 2) i (nI 1)) ⟨?_, ?_, ?_, fun j hj => ?_⟩ (fun q hq => ?_) (fun j hj => ?_)
      · refine wa_iload dL_raised_17 rfl ?_
        refine wa_iload dL_raised_19 rfl ?_
        refine wa_ic_geF 48 dL_raised_21 (by decide) (nle_nI (by omega) (by omega)) ?_
        refine wa_aload_n dL_raised_24 rfl ?_
        refine wa_iload_n dL_raised_25 rfl ?_
        refine wa_iload dL_raised_26 rfl ?_
        refine wa_aload_n dL_raised_28 rfl ?_
        refine wa_iload dL_raised_29 rfl ?_
        refine wa_lald _ dL_raised_31 (by first | assumption | rfl) (by first | with_reducible rfl | with_reducible assumption | with_reducible exact ix_ma _ _ _ | with_reducible exact ix_maa _ _ _ _ | with_reducible exact ix_a _ _ | with_reducible exact ix_mama _ _ _ _ _) (by omega) ?_
        rw [(hkp t (by omega)).2, hA i (by omega)]
        refine wa_l2i dL_raised_32 ?_
        rw [Int64.toInt32_ofInt]
        refine wa_callV3 (k' := kX5_put) (d' := 3) dL_raised_33 lmL_15 kvX5_put (by first | assumption | rfl) (by rfl) (by decide) (by omega) (Nat.le_of_ble_eq_true rfl) ?_
        refine wp_put (n := n) (by omega) hk hn (by omega) hs ?_
        refine wa_iconst (nI 1) dL_raised_36 (by decide) ?_
        refine wa_ic_eqT 42 dL_raised_37 (by decide) (by decide) ?_
        refine wa_iinc (nI 1) dL_raised_42 rfl (by decide) (by decide) ?_
        refine wa_goto 17 dL_raised_45 (by decide) ?_
        simp only [nI_add]
        exact e
      · rw [sI_off (by omega), sI_off (by omega)]
        exact hs.1
      · rw [sI_off (by omega), sI_off (by omega)]
        exact hs.2.1
      · rw [sI_off (by omega), sI_off (by omega)]
        exact hs.2.2.1
      · by_cases hji : j = i
        · subst hji
          rw [r1e]
        · rw [r1m hji, sI_off (by omega)]
          exact hs.2.2.2 j hj
      · have h := hkp q hq
        exact ⟨by rw [sI_off (by omega), sI_off (by omega), h.1], h.2⟩
      · rw [sI_off (by omega)]
        by_cases hji : j = i
        · subst hji
          rw [r1e]
        · rw [r1m hji]
          exact hv j (by omega)
  refine wa_aload_n dL_raised_0 rfl ?_
  refine wa_iload_n dL_raised_1 rfl ?_
  refine wa_iconst (nI 2) dL_raised_2 (by decide) ?_
  refine wa_iload dL_raised_3 rfl ?_
  refine wa_callV3 (k' := kX5_sheet) (d' := 2) dL_raised_5 lmL_9 kvX5_sheet (by first | assumption | rfl) (by rfl) (by decide) (by omega) (Nat.le_of_ble_eq_true rfl) ?_
  refine wp_sheet (by omega) hk hn (fun ν hs_ hk_ => ?_)
  refine wa_iconst (nI 1) dL_raised_8 (by decide) ?_
  refine wa_ic_eqT 14 dL_raised_9 (by decide) (by decide) ?_
  refine wa_iconst (nI 0) dL_raised_14 (by decide) ?_
  refine wa_istore dL_raised_15 (by decide) ?_
  exact loop n 0 (by omega) ν hs_ hk_ (fun j hj => absurd hj (by omega))
