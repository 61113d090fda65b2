/-! THE MODEL: waves, divisors, packs, counts -/
theorem sI_comm (ν : Mem) {t i u j : Nat} (x y : Int32) (h : t ≠ u) : sI (sI ν t i x) u j y = sI (sI ν u j y) t i x := by
  unfold sI
  congr 1
  funext a b
  by_cases h1 : a = t
  · subst h1
    simp [h]
  · simp [h1]
theorem sI_sI (ν : Mem) (t i : Nat) (x y : Int32) : sI (sI ν t i x) t i y = sI ν t i y := by
  unfold sI
  congr 1
  funext a b
  by_cases h1 : a = t ∧ b = i <;> simp [h1]
theorem wp_X6_findTurns {d r n : Nat} {μ : Mem} {Q : QM} (hr : r < 6) (hn : μ.1 79 r = nI n) (hn64 : n ≤ 64) (hQ : Q none (sI (bI μ 85 (upsF (mN μ r) (μ.1 85) n)) 73 31 (nI (upN (mN μ r) n)))) : MW kX6_findTurns d [.ref 73, .int (nI r)] μ Q := by
  refine MW_of (by decide) [some (.ref 73), some (.int (nI r)), none, none, none, none, none] rfl (Nat.le_of_ble_eq_true rfl) ?_
  generalize hv : mN μ r = v at hQ
  generalize ho : μ.1 85 = old at hQ
  have ev : ∀ i, μ.2 80 (64 * r + i) = v i := fun i => by rw [← hv]; rfl
  have loop : ∀ m i, i + m = n → ∀ z1 z2, WA kX6_findTurns d Q 9 [some (.ref 73), some (.int (nI r)), some (.int (sideV v i)), some (.int (nI i)), z1, none, z2] [] (sI (bI μ 85 (upsF v old i)) 73 31 (nI (upN v i))) := by
    intro m
    induction m with
    | zero =>
      intro i hi z1 z2
      obtain rfl : i = n := by omega
      refine wa_iload_n dX6_findTurns_9 rfl ?_
      refine wa_aload_n dX6_findTurns_10 rfl ?_
      refine wa_getR dX6_findTurns_11 fgX6_26 (by first | assumption | rfl) (by rfl) ?_
      refine wa_iload_n dX6_findTurns_14 rfl ?_
      refine wa_iald _ dX6_findTurns_15 (by first | assumption | rfl) (by first | with_reducible rfl | with_reducible assumption | with_reducible exact ix_ma _ _ _ | with_reducible exact ix_maa _ _ _ _ | with_reducible exact ix_a _ _ | with_reducible exact ix_mama _ _ _ _ _) (by omega) ?_
      refine wa_ic_geT 97 dX6_findTurns_16 (by decide) (by rw [sI_off (by omega), bI_off (by omega), hn]; exact le_nI (by omega) (by omega)) ?_
      refine wa_vret dX6_findTurns_97 rfl ?_
      exact hQ
    | succ m ih =>
      intro i hi z1 z2
      have e_ := ih (i + 1) (by omega) (some (.long (v i)))
      have hle := upN_le v i
      have K : ∀ nw, nw = sideV v (i + 1) → WA kX6_findTurns d Q 57 [some (.ref 73), some (.int (nI r)), some (.int (sideV v i)), some (.int (nI i)), some (.long (v i)), none, some (.int nw)] [] (sI (bI μ 85 (upsF v old i)) 73 31 (nI (upN v i))) := by
        intro nw hnw
        have K0 : upB v i = false → WA kX6_findTurns d Q 88 [some (.ref 73), some (.int (nI r)), some (.int (sideV v i)), some (.int (nI i)), some (.long (v i)), none, some (.int nw)] [] (sI (bI μ 85 (upsF v old i)) 73 31 (nI (upN v i))) := by
          intro hu
          rw [upN, upsF, hu] at e_
          simp only [Bool.false_eq_true, if_false] at e_
          rw [hnw]
          refine wa_iload dX6_findTurns_88 rfl ?_
          refine wa_istore_n dX6_findTurns_90 (by decide) ?_
          refine wa_iinc (nI 1) dX6_findTurns_91 rfl (by decide) (by decide) ?_
          refine wa_goto 9 dX6_findTurns_94 (by decide) ?_
          simp only [nI_add]; exact e_ _
        have K1 : upB v i = true → WA kX6_findTurns d Q 68 [some (.ref 73), some (.int (nI r)), some (.int (sideV v i)), some (.int (nI i)), some (.long (v i)), none, some (.int nw)] [] (sI (bI μ 85 (upsF v old i)) 73 31 (nI (upN v i))) := by
          intro hu
          rw [upN, upsF, if_pos hu, if_pos hu] at e_
          rw [hnw]
          refine wa_aload_n dX6_findTurns_68 rfl ?_
          refine wa_getR dX6_findTurns_69 fgX6_55 (by first | assumption | rfl) (by rfl) ?_
          refine wa_aload_n dX6_findTurns_72 rfl ?_
          refine wa_getI dX6_findTurns_73 fgX6_143 (by first | assumption | rfl) (by rfl) ?_
          refine wa_iload_n dX6_findTurns_76 rfl ?_
          refine wa_iast _ dX6_findTurns_77 (by first | assumption | rfl) (by exact r1e) (by omega) ?_
          refine wa_aload_n dX6_findTurns_78 rfl ?_
          first | refine wa_dupr dX6_findTurns_79 ?_ | refine wa_dupi dX6_findTurns_79 ?_
          refine wa_getI dX6_findTurns_80 fgX6_143 (by first | assumption | rfl) (by rfl) ?_
          refine wa_iconst (nI 1) dX6_findTurns_83 (by decide) ?_
          refine wa_iadd dX6_findTurns_84 ?_
          refine wa_putI dX6_findTurns_85 fgX6_143 fw6_31 (by first | assumption | rfl) (by rfl) ?_
          refine wa_iload dX6_findTurns_88 rfl ?_
          refine wa_istore_n dX6_findTurns_90 (by decide) ?_
          refine wa_iinc (nI 1) dX6_findTurns_91 rfl (by decide) (by decide) ?_
          refine wa_goto 9 dX6_findTurns_94 (by decide) ?_
          rw [r1n (by omega), r1e, sI_comm _ _ _ (by omega), sI_sI, sI_comm _ _ _ (by omega), sIb]
          simp only [nI_add]
          exact e_ _
        refine wa_iload dX6_findTurns_57 rfl ?_
        refine wa_iconst (nI 1) dX6_findTurns_59 (by decide) ?_
        refine wa_ic_ne 88 dX6_findTurns_60 (by decide) (fun c60_1 => ?_) (fun c60_1 => ?_)
        · try simp (disch := omega) only [nI_toInt, Int32.toInt_toInt64, m1z] at c60_1
          exact K0 (decide_eq_false (fun q => by rw [← hnw] at q; omega))
        · try simp (disch := omega) only [nI_toInt, Int32.toInt_toInt64, m1z] at c60_1
          refine wa_iload_n dX6_findTurns_63 rfl ?_
          refine wa_iconst (-1) dX6_findTurns_64 (by decide) ?_
          refine wa_ic_ne 88 dX6_findTurns_65 (by decide) (fun c65_2 => ?_) (fun c65_2 => ?_)
          · try simp (disch := omega) only [nI_toInt, Int32.toInt_toInt64, m1z] at c65_2
            exact K0 (decide_eq_false (fun q => by rw [← hnw] at q; omega))
          · try simp (disch := omega) only [nI_toInt, Int32.toInt_toInt64, m1z] at c65_2
            exact K1 (decide_eq_true (by rw [← hnw]; omega))
      refine wa_iload_n dX6_findTurns_9 rfl ?_
      refine wa_aload_n dX6_findTurns_10 rfl ?_
      refine wa_getR dX6_findTurns_11 fgX6_26 (by first | assumption | rfl) (by rfl) ?_
      refine wa_iload_n dX6_findTurns_14 rfl ?_
      refine wa_iald _ dX6_findTurns_15 (by first | assumption | rfl) (by first | with_reducible rfl | with_reducible assumption | with_reducible exact ix_ma _ _ _ | with_reducible exact ix_maa _ _ _ _ | with_reducible exact ix_a _ _ | with_reducible exact ix_mama _ _ _ _ _) (by omega) ?_
      refine wa_ic_geF 97 dX6_findTurns_16 (by decide) (by rw [sI_off (by omega), bI_off (by omega), hn]; exact nle_nI (by omega) (by omega)) ?_
      refine wa_aload_n dX6_findTurns_19 rfl ?_
      refine wa_getR dX6_findTurns_20 fgX6_29 (by first | assumption | rfl) (by rfl) ?_
      refine wa_bipush (nI 64) dX6_findTurns_23 (by decide) ?_
      refine wa_iload_n dX6_findTurns_25 rfl ?_
      refine wa_imul dX6_findTurns_26 ?_
      refine wa_iload_n dX6_findTurns_27 rfl ?_
      refine wa_iadd dX6_findTurns_28 ?_
      refine wa_lald _ dX6_findTurns_29 (by first | assumption | rfl) (by first | with_reducible rfl | with_reducible assumption | with_reducible exact ix_ma _ _ _ | with_reducible exact ix_maa _ _ _ _ | with_reducible exact ix_a _ _ | with_reducible exact ix_mama _ _ _ _ _) (by omega) ?_
      rw [r1l, rb1l, ev i]
      refine wa_lstore dX6_findTurns_30 (by decide) ?_
      refine wa_lload dX6_findTurns_32 rfl ?_
      refine wa_lconst (0) dX6_findTurns_34 (by decide) ?_
      refine wa_lc_le 43 dX6_findTurns_35 dX6_findTurns_36 (by decide) (fun c35_1 => ?_) (fun c35_1 => ?_)
      · try simp (disch := omega) only [nI_toInt, Int32.toInt_toInt64, z64] at c35_1
        refine wa_lload dX6_findTurns_43 rfl ?_
        refine wa_lconst (0) dX6_findTurns_45 (by decide) ?_
        refine wa_lc_ge 54 dX6_findTurns_46 dX6_findTurns_47 (by decide) (fun c46_2 => ?_) (fun c46_2 => ?_)
        · try simp (disch := omega) only [nI_toInt, Int32.toInt_toInt64, z64] at c46_2
          refine wa_iload_n dX6_findTurns_54 rfl ?_
          refine wa_istore dX6_findTurns_55 (by decide) ?_
          exact K _ (by rw [sideV, if_pos (by omega)])
        · try simp (disch := omega) only [nI_toInt, Int32.toInt_toInt64, z64] at c46_2
          refine wa_iconst (-1) dX6_findTurns_50 (by decide) ?_
          refine wa_goto 55 dX6_findTurns_51 (by decide) ?_
          refine wa_istore dX6_findTurns_55 (by decide) ?_
          exact K _ (by rw [sideV, if_neg (by omega), if_neg (by omega)])
      · try simp (disch := omega) only [nI_toInt, Int32.toInt_toInt64, z64] at c35_1
        refine wa_iconst (nI 1) dX6_findTurns_39 (by decide) ?_
        refine wa_goto 55 dX6_findTurns_40 (by decide) ?_
        refine wa_istore dX6_findTurns_55 (by decide) ?_
        exact K _ (by rw [sideV, if_neg (by omega), if_pos (by omega)])
  refine wa_aload_n dX6_findTurns_0 rfl ?_
  refine wa_iconst (nI 0) dX6_findTurns_1 (by decide) ?_
  refine wa_putI dX6_findTurns_2 fgX6_143 fw6_31 (by first | assumption | rfl) (by rfl) ?_
  refine wa_iconst (nI 0) dX6_findTurns_5 (by decide) ?_
  refine wa_istore_n dX6_findTurns_6 (by decide) ?_
  refine wa_iconst (nI 0) dX6_findTurns_7 (by decide) ?_
  refine wa_istore_n dX6_findTurns_8 (by decide) ?_
  have e_ := loop n 0 (by omega) none none
  rw [upsF, ← ho, bI_self] at e_
  exact e_
/-- the model's memory with its TURNS UP told -/
def mUps (μ : Mem) (r n : Nat) : Mem := sI (bI μ 85 (upsF (mN μ r) (μ.1 85) n)) 73 31 (nI (upN (mN μ r) n))
theorem wp_X6_waveMany {d r n : Nat} {μ : Mem} {Q : QM} (hd : 1 ≤ d) (hr : r < 6) (hn : μ.1 79 r = nI n) (hn64 : n ≤ 64) (hQ : Q (some (.int (nI (wvN (mN μ r) n)))) (mUps μ r n)) : MW kX6_waveMany d [.ref 73, .int (nI r)] μ Q := by
  refine MW_of (by decide) [some (.ref 73), some (.int (nI r))] rfl (Nat.le_of_ble_eq_true rfl) ?_
  have hle := upN_le (mN μ r) n
  unfold wvN mUps at hQ
  refine wa_aload_n dX6_waveMany_0 rfl ?_
  refine wa_iload_n dX6_waveMany_1 rfl ?_
  refine wa_callV1 (k' := kX6_findTurns) (d' := 0) dX6_waveMany_2 lmX6_146 kvX6_findTurns (by first | assumption | rfl) (by rfl) (by decide) (by omega) (Nat.le_of_ble_eq_true rfl) ?_
  refine wp_X6_findTurns (by assumption) (by assumption) (by assumption) ?_
  refine wa_aload_n dX6_waveMany_5 rfl ?_
  refine wa_getI dX6_waveMany_6 fgX6_143 (by first | assumption | rfl) (by rfl) ?_
  refine wa_if_le 21 dX6_waveMany_9 (by decide) (fun c9_2 => ?_) (fun c9_2 => ?_)
  · try simp (disch := omega) only [nI_toInt, Int32.toInt_toInt64, r1e] at c9_2
    refine wa_iconst (nI 0) dX6_waveMany_21 (by decide) ?_
    refine wa_iret dX6_waveMany_22 rfl ?_
    rw [show upN (mN μ r) n - 1 = 0 by omega] at hQ; exact hQ
  · try simp (disch := omega) only [nI_toInt, Int32.toInt_toInt64, r1e] at c9_2
    refine wa_aload_n dX6_waveMany_12 rfl ?_
    refine wa_getI dX6_waveMany_13 fgX6_143 (by first | assumption | rfl) (by rfl) ?_
    refine wa_iconst (nI 1) dX6_waveMany_16 (by decide) ?_
    refine wa_isub dX6_waveMany_17 ?_
    refine wa_goto 22 dX6_waveMany_18 (by decide) ?_
    refine wa_iret dX6_waveMany_22 rfl ?_
    rw [r1e, pk_sub (by omega)]; exact hQ
theorem wp_X6_end {d r w a b : Nat} {g : Int32} {v : Nat → Int64} {μ : Mem} {Q : QM} (hr : r < 6) (hw : w < 63) (hv : ∀ i, μ.2 80 (64 * r + i) = v i) (hua : μ.1 85 w = nI a) (hub : μ.1 85 (w + 1) = nI b) (hab : a < b) (hb : b < 64) (h0 : g.toInt = 0 → Q (some (.long (gmn v a (b - a)))) μ) (h1 : ¬ g.toInt = 0 → Q (some (.long (gmx v a (b - a)))) μ) : MW kX6_end d [.ref 73, .int (nI r), .int (nI w), .int g] μ Q := by
  refine MW_of (by decide) [some (.ref 73), some (.int (nI r)), some (.int (nI w)), some (.int g), none, none, none, none, none] rfl (Nat.le_of_ble_eq_true rfl) ?_
  have ia : nI 64 * nI r + μ.1 85 w = nI (64 * r + a) := by rw [hua, pk_mul, nI_add]
  have bst : ∀ (f : Nat → Int64), (g.toInt = 0 ∧ f = gmn v a) ∨ (¬ g.toInt = 0 ∧ f = gmx v a) → ∀ m i, i + m = b - a → ∀ z, WA kX6_end d Q 26 [some (.ref 73), some (.int (nI r)), some (.int (nI w)), some (.int g), some (.long (f i)), none, some (.int (nI (a + i))), z, none] [] μ := by
    intro f hf m
    induction m with
    | zero =>
      intro i hi z
      obtain rfl : i = b - a := by omega
      refine wa_iload dX6_end_26 rfl ?_
      refine wa_aload_n dX6_end_28 rfl ?_
      refine wa_getR dX6_end_29 fgX6_55 (by first | assumption | rfl) (by rfl) ?_
      refine wa_iload_n dX6_end_32 rfl ?_
      refine wa_iconst (nI 1) dX6_end_33 (by decide) ?_
      refine wa_iadd dX6_end_34 ?_
      refine wa_iald _ dX6_end_35 (by first | assumption | rfl) (by first | with_reducible rfl | with_reducible assumption | with_reducible exact ix_ma _ _ _ | with_reducible exact ix_maa _ _ _ _ | with_reducible exact ix_a _ _ | with_reducible exact ix_mama _ _ _ _ _) (by omega) ?_
      refine wa_ic_geT 91 dX6_end_36 (by decide) (by rw [hub]; exact le_nI (by omega) (by omega)) ?_
      refine wa_lload dX6_end_91 rfl ?_
      refine wa_lret dX6_end_93 rfl ?_
      rcases hf with ⟨hg, rfl⟩ | ⟨hg, rfl⟩
      · exact h0 hg
      · exact h1 hg
    | succ m ih =>
      intro i hi z
      have e_ := ih (i + 1) (by omega) (some (.long (v (a + i))))
      have K : ∀ nb, nb = f (i + 1) → WA kX6_end d Q 83 [some (.ref 73), some (.int (nI r)), some (.int (nI w)), some (.int g), some (.long (f i)), none, some (.int (nI (a + i))), some (.long (v (a + i))), none] [.long nb] μ := by
        intro nb hnb
        rw [hnb]
        refine wa_lstore dX6_end_83 (by decide) ?_
        refine wa_iinc (nI 1) dX6_end_85 rfl (by decide) (by decide) ?_
        refine wa_goto 26 dX6_end_88 (by decide) ?_
        simp only [nI_add]; exact e_
      rcases hf with ⟨hg, rfl⟩ | ⟨hg, rfl⟩
      · refine wa_iload dX6_end_26 rfl ?_
        refine wa_aload_n dX6_end_28 rfl ?_
        refine wa_getR dX6_end_29 fgX6_55 (by first | assumption | rfl) (by rfl) ?_
        refine wa_iload_n dX6_end_32 rfl ?_
        refine wa_iconst (nI 1) dX6_end_33 (by decide) ?_
        refine wa_iadd dX6_end_34 ?_
        refine wa_iald _ dX6_end_35 (by first | assumption | rfl) (by first | with_reducible rfl | with_reducible assumption | with_reducible exact ix_ma _ _ _ | with_reducible exact ix_maa _ _ _ _ | with_reducible exact ix_a _ _ | with_reducible exact ix_mama _ _ _ _ _) (by omega) ?_
        refine wa_ic_geF 91 dX6_end_36 (by decide) (by rw [hub]; exact nle_nI (by omega) (by omega)) ?_
        refine wa_aload_n dX6_end_39 rfl ?_
        refine wa_getR dX6_end_40 fgX6_29 (by first | assumption | rfl) (by rfl) ?_
        refine wa_bipush (nI 64) dX6_end_43 (by decide) ?_
        refine wa_iload_n dX6_end_45 rfl ?_
        refine wa_imul dX6_end_46 ?_
        refine wa_iload dX6_end_47 rfl ?_
        refine wa_iadd dX6_end_49 ?_
        refine wa_lald _ dX6_end_50 (by first | assumption | rfl) (by first | with_reducible rfl | with_reducible assumption | with_reducible exact ix_ma _ _ _ | with_reducible exact ix_maa _ _ _ _ | with_reducible exact ix_a _ _ | with_reducible exact ix_mama _ _ _ _ _) (by omega) ?_
        rw [hv (a + i)]
        refine wa_lstore dX6_end_51 (by decide) ?_
        refine wa_iload_n dX6_end_53 rfl ?_
        refine wa_if_eqT 68 dX6_end_54 (by decide) (hg) ?_
        refine wa_lload dX6_end_68 rfl ?_
        refine wa_lload dX6_end_70 rfl ?_
        refine wa_lc_ge 81 dX6_end_72 dX6_end_73 (by decide) (fun c72_1 => ?_) (fun c72_1 => ?_)
        · try simp (disch := omega) only [nI_toInt, Int32.toInt_toInt64] at c72_1
          refine wa_lload dX6_end_81 rfl ?_
          exact K _ (by rw [gmn, mnL, if_neg (by omega)])
        · try simp (disch := omega) only [nI_toInt, Int32.toInt_toInt64] at c72_1
          refine wa_lload dX6_end_76 rfl ?_
          refine wa_goto 83 dX6_end_78 (by decide) ?_
          exact K _ (by rw [gmn, mnL, if_pos (by omega)])
      · refine wa_iload dX6_end_26 rfl ?_
        refine wa_aload_n dX6_end_28 rfl ?_
        refine wa_getR dX6_end_29 fgX6_55 (by first | assumption | rfl) (by rfl) ?_
        refine wa_iload_n dX6_end_32 rfl ?_
        refine wa_iconst (nI 1) dX6_end_33 (by decide) ?_
        refine wa_iadd dX6_end_34 ?_
        refine wa_iald _ dX6_end_35 (by first | assumption | rfl) (by first | with_reducible rfl | with_reducible assumption | with_reducible exact ix_ma _ _ _ | with_reducible exact ix_maa _ _ _ _ | with_reducible exact ix_a _ _ | with_reducible exact ix_mama _ _ _ _ _) (by omega) ?_
        refine wa_ic_geF 91 dX6_end_36 (by decide) (by rw [hub]; exact nle_nI (by omega) (by omega)) ?_
        refine wa_aload_n dX6_end_39 rfl ?_
        refine wa_getR dX6_end_40 fgX6_29 (by first | assumption | rfl) (by rfl) ?_
        refine wa_bipush (nI 64) dX6_end_43 (by decide) ?_
        refine wa_iload_n dX6_end_45 rfl ?_
        refine wa_imul dX6_end_46 ?_
        refine wa_iload dX6_end_47 rfl ?_
        refine wa_iadd dX6_end_49 ?_
        refine wa_lald _ dX6_end_50 (by first | assumption | rfl) (by first | with_reducible rfl | with_reducible assumption | with_reducible exact ix_ma _ _ _ | with_reducible exact ix_maa _ _ _ _ | with_reducible exact ix_a _ _ | with_reducible exact ix_mama _ _ _ _ _) (by omega) ?_
        rw [hv (a + i)]
        refine wa_lstore dX6_end_51 (by decide) ?_
        refine wa_iload_n dX6_end_53 rfl ?_
        refine wa_if_eqF 68 dX6_end_54 (by decide) (hg) ?_
        refine wa_lload dX6_end_57 rfl ?_
        refine wa_lload dX6_end_59 rfl ?_
        refine wa_lc_le 81 dX6_end_61 dX6_end_62 (by decide) (fun c61_1 => ?_) (fun c61_1 => ?_)
        · try simp (disch := omega) only [nI_toInt, Int32.toInt_toInt64] at c61_1
          refine wa_lload dX6_end_81 rfl ?_
          exact K _ (by rw [gmx, mxL, if_neg (by omega)])
        · try simp (disch := omega) only [nI_toInt, Int32.toInt_toInt64] at c61_1
          refine wa_goto 76 dX6_end_65 (by decide) ?_
          refine wa_lload dX6_end_76 rfl ?_
          refine wa_goto 83 dX6_end_78 (by decide) ?_
          exact K _ (by rw [gmx, mxL, if_pos (by omega)])
  refine wa_aload_n dX6_end_0 rfl ?_
  refine wa_getR dX6_end_1 fgX6_29 (by first | assumption | rfl) (by rfl) ?_
  refine wa_bipush (nI 64) dX6_end_4 (by decide) ?_
  refine wa_iload_n dX6_end_6 rfl ?_
  refine wa_imul dX6_end_7 ?_
  refine wa_aload_n dX6_end_8 rfl ?_
  refine wa_getR dX6_end_9 fgX6_55 (by first | assumption | rfl) (by rfl) ?_
  refine wa_iload_n dX6_end_12 rfl ?_
  refine wa_iald _ dX6_end_13 (by first | assumption | rfl) (by first | with_reducible rfl | with_reducible assumption | with_reducible exact ix_ma _ _ _ | with_reducible exact ix_maa _ _ _ _ | with_reducible exact ix_a _ _ | with_reducible exact ix_mama _ _ _ _ _) (by omega) ?_
  refine wa_iadd dX6_end_14 ?_
  refine wa_lald _ dX6_end_15 (by first | assumption | rfl) (by exact ia) (by omega) ?_
  rw [hv a]
  refine wa_lstore dX6_end_16 (by decide) ?_
  refine wa_aload_n dX6_end_18 rfl ?_
  refine wa_getR dX6_end_19 fgX6_55 (by first | assumption | rfl) (by rfl) ?_
  refine wa_iload_n dX6_end_22 rfl ?_
  refine wa_iald _ dX6_end_23 (by first | assumption | rfl) (by first | with_reducible rfl | with_reducible assumption | with_reducible exact ix_ma _ _ _ | with_reducible exact ix_maa _ _ _ _ | with_reducible exact ix_a _ _ | with_reducible exact ix_mama _ _ _ _ _) (by omega) ?_
  refine wa_istore dX6_end_24 (by decide) ?_
  rw [hua]
  by_cases hg : g.toInt = 0
  · exact bst (gmn v a) (Or.inl ⟨hg, rfl⟩) (b - a) 0 (by omega) none
  · exact bst (gmx v a) (Or.inr ⟨hg, rfl⟩) (b - a) 0 (by omega) none
theorem wp_X6_height {d r w a b : Nat} {v : Nat → Int64} {μ : Mem} {Q : QM} (hd : 1 ≤ d) (hr : r < 6) (hw : w < 63) (hv : ∀ i, μ.2 80 (64 * r + i) = v i) (hua : μ.1 85 w = nI a) (hub : μ.1 85 (w + 1) = nI b) (hab : a < b) (hb : b < 64) (hQ : Q (some (.long (wfL v a b 4))) μ) : MW kX6_height d [.ref 73, .int (nI r), .int (nI w)] μ Q := by
  refine MW_of (by decide) [some (.ref 73), some (.int (nI r)), some (.int (nI w))] rfl (Nat.le_of_ble_eq_true rfl) ?_
  refine wa_aload_n dX6_height_0 rfl ?_
  refine wa_iload_n dX6_height_1 rfl ?_
  refine wa_iload_n dX6_height_2 rfl ?_
  refine wa_iconst (nI 1) dX6_height_3 (by decide) ?_
  refine wa_callV3 (k' := kX6_end) (d' := 0) dX6_height_4 lmX6_150 kvX6_end (by first | assumption | rfl) (by rfl) (by decide) (by omega) (Nat.le_of_ble_eq_true rfl) ?_
  refine wp_X6_end hr hw hv hua hub hab hb (fun q => absurd q (by decide)) (fun _ => ?_)
  refine wa_aload_n dX6_height_7 rfl ?_
  refine wa_iload_n dX6_height_8 rfl ?_
  refine wa_iload_n dX6_height_9 rfl ?_
  refine wa_iconst (nI 0) dX6_height_10 (by decide) ?_
  refine wa_callV3 (k' := kX6_end) (d' := 0) dX6_height_11 lmX6_150 kvX6_end (by first | assumption | rfl) (by rfl) (by decide) (by omega) (Nat.le_of_ble_eq_true rfl) ?_
  refine wp_X6_end hr hw hv hua hub hab hb (fun _ => ?_) (fun q => absurd nI_0z q)
  refine wa_lsub dX6_height_14 ?_
  refine wa_lret dX6_height_15 rfl ?_
  exact hQ
theorem wp_X6_isNear {d r n : Nat} {μ : Mem} {Q : QM} (hd : 1 ≤ d) (hr : r < 6) (hn : μ.1 79 r = nI n) (hn64 : n ≤ 64) (h1 : inB (mN μ r) n 1000 → Q (some (.int (nI 1))) μ) (h0 : ¬ inB (mN μ r) n 1000 → Q (some (.int (nI 0))) μ) : MW kX6_isNear d [.ref 73, .int (nI r)] μ Q := by
  refine MW_of (by decide) [some (.ref 73), some (.int (nI r)), none, none] rfl (Nat.le_of_ble_eq_true rfl) ?_
  have ka := k1e3.1
  have kb : (-1000 : Int64).toInt = -1000 := by decide
  have bad : ¬ inB (mN μ r) n 1000 → ∀ m i, i + m = n → WA kX6_isNear d Q 4 [some (.ref 73), some (.int (nI r)), some (.int (nI 0)), some (.int (nI i))] [] μ := by
    intro hb m
    induction m with
    | zero =>
      intro i hi
      obtain rfl : i = n := by omega
      refine wa_iload_n dX6_isNear_4 rfl ?_
      refine wa_aload_n dX6_isNear_5 rfl ?_
      refine wa_getR dX6_isNear_6 fgX6_26 (by first | assumption | rfl) (by rfl) ?_
      refine wa_iload_n dX6_isNear_9 rfl ?_
      refine wa_iald _ dX6_isNear_10 (by first | assumption | rfl) (by first | with_reducible rfl | with_reducible assumption | with_reducible exact ix_ma _ _ _ | with_reducible exact ix_maa _ _ _ _ | with_reducible exact ix_a _ _ | with_reducible exact ix_mama _ _ _ _ _) (by omega) ?_
      refine wa_ic_geT 53 dX6_isNear_11 (by decide) (by rw [hn]; exact le_nI (by omega) (by omega)) ?_
      refine wa_iload_n dX6_isNear_53 rfl ?_
      refine wa_zret dX6_isNear_54 rfl (by decide) ?_
      exact h0 hb
    | succ m ih =>
      intro i hi
      refine wa_iload_n dX6_isNear_4 rfl ?_
      refine wa_aload_n dX6_isNear_5 rfl ?_
      refine wa_getR dX6_isNear_6 fgX6_26 (by first | assumption | rfl) (by rfl) ?_
      refine wa_iload_n dX6_isNear_9 rfl ?_
      refine wa_iald _ dX6_isNear_10 (by first | assumption | rfl) (by first | with_reducible rfl | with_reducible assumption | with_reducible exact ix_ma _ _ _ | with_reducible exact ix_maa _ _ _ _ | with_reducible exact ix_a _ _ | with_reducible exact ix_mama _ _ _ _ _) (by omega) ?_
      refine wa_ic_geF 53 dX6_isNear_11 (by decide) (by rw [hn]; exact nle_nI (by omega) (by omega)) ?_
      refine wa_iload_n dX6_isNear_14 rfl ?_
      refine wa_if_eqT 45 dX6_isNear_15 (by decide) (by decide) ?_
      refine wa_iconst (nI 0) dX6_isNear_45 (by decide) ?_
      refine wa_istore_n dX6_isNear_46 (by decide) ?_
      refine wa_iinc (nI 1) dX6_isNear_47 rfl (by decide) (by decide) ?_
      refine wa_goto 4 dX6_isNear_50 (by decide) ?_
      simp only [nI_add]; exact ih (i + 1) (by omega)
  have loop : ∀ m i, i + m = n → inB (mN μ r) i 1000 → WA kX6_isNear d Q 4 [some (.ref 73), some (.int (nI r)), some (.int (nI 1)), some (.int (nI i))] [] μ := by
    intro m
    induction m with
    | zero =>
      intro i hi hb
      obtain rfl : i = n := by omega
      refine wa_iload_n dX6_isNear_4 rfl ?_
      refine wa_aload_n dX6_isNear_5 rfl ?_
      refine wa_getR dX6_isNear_6 fgX6_26 (by first | assumption | rfl) (by rfl) ?_
      refine wa_iload_n dX6_isNear_9 rfl ?_
      refine wa_iald _ dX6_isNear_10 (by first | assumption | rfl) (by first | with_reducible rfl | with_reducible assumption | with_reducible exact ix_ma _ _ _ | with_reducible exact ix_maa _ _ _ _ | with_reducible exact ix_a _ _ | with_reducible exact ix_mama _ _ _ _ _) (by omega) ?_
      refine wa_ic_geT 53 dX6_isNear_11 (by decide) (by rw [hn]; exact le_nI (by omega) (by omega)) ?_
      refine wa_iload_n dX6_isNear_53 rfl ?_
      refine wa_zret dX6_isNear_54 rfl (by decide) ?_
      exact h1 hb
    | succ m ih =>
      intro i hi hb
      refine wa_iload_n dX6_isNear_4 rfl ?_
      refine wa_aload_n dX6_isNear_5 rfl ?_
      refine wa_getR dX6_isNear_6 fgX6_26 (by first | assumption | rfl) (by rfl) ?_
      refine wa_iload_n dX6_isNear_9 rfl ?_
      refine wa_iald _ dX6_isNear_10 (by first | assumption | rfl) (by first | with_reducible rfl | with_reducible assumption | with_reducible exact ix_ma _ _ _ | with_reducible exact ix_maa _ _ _ _ | with_reducible exact ix_a _ _ | with_reducible exact ix_mama _ _ _ _ _) (by omega) ?_
      refine wa_ic_geF 53 dX6_isNear_11 (by decide) (by rw [hn]; exact nle_nI (by omega) (by omega)) ?_
      refine wa_iload_n dX6_isNear_14 rfl ?_
      refine wa_if_eqF 45 dX6_isNear_15 (by decide) (by decide) ?_
      refine wa_aload_n dX6_isNear_18 rfl ?_
      refine wa_getR dX6_isNear_19 fgX6_29 (by first | assumption | rfl) (by rfl) ?_
      refine wa_bipush (nI 64) dX6_isNear_22 (by decide) ?_
      refine wa_iload_n dX6_isNear_24 rfl ?_
      refine wa_imul dX6_isNear_25 ?_
      refine wa_iload_n dX6_isNear_26 rfl ?_
      refine wa_iadd dX6_isNear_27 ?_
      refine wa_lald _ dX6_isNear_28 (by first | assumption | rfl) (by first | with_reducible rfl | with_reducible assumption | with_reducible exact ix_ma _ _ _ | with_reducible exact ix_maa _ _ _ _ | with_reducible exact ix_a _ _ | with_reducible exact ix_mama _ _ _ _ _) (by omega) ?_
      refine wa_ldc2 (-1000) dX6_isNear_29 lcX6_131 ?_
      refine wa_ldc2 (1000) dX6_isNear_32 lcX6_133 ?_
      refine wa_callS3 (k' := kX6_in) (d' := 0) dX6_isNear_35 lmX6_60 ksX6_in (by decide) (by omega) (Nat.le_of_ble_eq_true rfl) ?_
      refine wp_X6_in (fun hw_ => ?_) (fun hw_ => ?_)
      · skip
        rw [ka, kb] at hw_
        refine wa_if_eqF 45 dX6_isNear_38 (by decide) (by decide) ?_
        refine wa_iconst (nI 1) dX6_isNear_41 (by decide) ?_
        refine wa_goto 46 dX6_isNear_42 (by decide) ?_
        refine wa_istore_n dX6_isNear_46 (by decide) ?_
        refine wa_iinc (nI 1) dX6_isNear_47 rfl (by decide) (by decide) ?_
        refine wa_goto 4 dX6_isNear_50 (by decide) ?_
        simp only [nI_add]
        refine ih (i + 1) (by omega) (fun q hq => ?_)
        by_cases hqi : q = i
        · rw [hqi]; exact hw_
        · exact hb q (by omega)
      · skip
        rw [ka, kb] at hw_
        refine wa_if_eqT 45 dX6_isNear_38 (by decide) (by decide) ?_
        refine wa_iconst (nI 0) dX6_isNear_45 (by decide) ?_
        refine wa_istore_n dX6_isNear_46 (by decide) ?_
        refine wa_iinc (nI 1) dX6_isNear_47 rfl (by decide) (by decide) ?_
        refine wa_goto 4 dX6_isNear_50 (by decide) ?_
        simp only [nI_add]
        refine bad (fun q => ?_) m (i + 1) (by omega)
        have hq_ := q i (by omega)
        unfold mN at hq_
        omega
  refine wa_iconst (nI 1) dX6_isNear_0 (by decide) ?_
  refine wa_istore_n dX6_isNear_1 (by decide) ?_
  refine wa_iconst (nI 0) dX6_isNear_2 (by decide) ?_
  refine wa_istore_n dX6_isNear_3 (by decide) ?_
  exact loop n 0 (by omega) (fun q hq => by omega)
theorem lN_toInt63 {n : Nat} (h : n < 2 ^ 63) : (lN n).toInt = n := pk_lT h
theorem wp_X6_divisor {d A B : Nat} {μ : Mem} {Q : QM} (hA : A < 2 ^ 63) (hB : B < 2 ^ 63) (hQ : Q (some (.long (lN (Nat.gcd A B)))) μ) : MW kX6_divisor d [.long (lN A), .long (lN B)] μ Q := by
  refine MW_of (by decide) [some (.long (lN A)), none, some (.long (lN B)), none, none, none, none, none, none, none] rfl (Nat.le_of_ble_eq_true rfl) ?_
  have loop : ∀ (m x y : Nat), y ≤ m → x < 2 ^ 63 → y < 2 ^ 63 → Nat.gcd x y = Nat.gcd A B → ∀ z, WA kX6_divisor d Q 6 [some (.long (lN A)), none, some (.long (lN B)), none, some (.long (lN x)), none, some (.long (lN y)), none, z, none] [] μ := by
    intro m
    induction m with
    | zero =>
      intro x y hm hx hy hg z
      obtain rfl : y = 0 := by omega
      rw [Nat.gcd_zero_right] at hg
      subst hg
      refine wa_lload dX6_divisor_6 rfl ?_
      refine wa_lconst (0) dX6_divisor_8 (by decide) ?_
      refine wa_lc_eqT 31 dX6_divisor_9 dX6_divisor_10 (by decide) (by decide) ?_
      refine wa_lload dX6_divisor_31 rfl ?_
      refine wa_lret dX6_divisor_33 rfl ?_
      exact hQ
    | succ m ih =>
      intro x y hm hx hy hg z
      by_cases h0 : y = 0
      · subst h0
        rw [Nat.gcd_zero_right] at hg
        subst hg
        refine wa_lload dX6_divisor_6 rfl ?_
        refine wa_lconst (0) dX6_divisor_8 (by decide) ?_
        refine wa_lc_eqT 31 dX6_divisor_9 dX6_divisor_10 (by decide) (by rw [lN_toInt63 hy, z64]; rfl) ?_
        refine wa_lload dX6_divisor_31 rfl ?_
        refine wa_lret dX6_divisor_33 rfl ?_
        exact hQ
      · have hlt := Nat.mod_lt x (show y > 0 by omega)
        refine wa_lload dX6_divisor_6 rfl ?_
        refine wa_lconst (0) dX6_divisor_8 (by decide) ?_
        refine wa_lc_eqF 31 dX6_divisor_9 dX6_divisor_10 (by decide) (by rw [lN_toInt63 hy, z64]; omega) ?_
        refine wa_lload dX6_divisor_13 rfl ?_
        refine wa_lload dX6_divisor_15 rfl ?_
        refine wa_lrem dX6_divisor_17 (fun q_ => h0 (by have := congrArg Int64.toInt q_; rw [lN_toInt63 hy, z64] at this; omega)) ?_
        refine wa_lstore dX6_divisor_18 (by decide) ?_
        refine wa_lload dX6_divisor_20 rfl ?_
        refine wa_lstore dX6_divisor_22 (by decide) ?_
        refine wa_lload dX6_divisor_24 rfl ?_
        refine wa_lstore dX6_divisor_26 (by decide) ?_
        refine wa_goto 6 dX6_divisor_28 (by decide) ?_
        rw [pk_lRem hx (by omega) hy]
        exact ih y (x % y) (by omega) hy (by omega) (by rw [← hg, Nat.gcd_comm x y, Nat.gcd_rec y x, Nat.gcd_comm]) _
  refine wa_lload_n dX6_divisor_0 rfl ?_
  refine wa_lstore dX6_divisor_1 (by decide) ?_
  refine wa_lload_n dX6_divisor_3 rfl ?_
  refine wa_lstore dX6_divisor_4 (by decide) ?_
  exact loop B A B (Nat.le_refl B) hA hB rfl none
theorem wp_X6_comes {d n j : Nat} {p : Int32} {μ : Mem} {Q : QM} (hp : p = nI j) (hn : μ.1 76 8 = nI n) (hn64 : n ≤ 64) (hj : j < spN n) (h1 : comP (μ.1 82) n j = true → Q (some (.int (nI 1))) μ) (h0 : comP (μ.1 82) n j = false → Q (some (.int (nI 0))) μ) : MW kX6_comes d [.ref 73, .int p] μ Q := by
  subst hp
  refine MW_of (by decide) [some (.ref 73), some (.int (nI j)), none, none, none] rfl (Nat.le_of_ble_eq_true rfl) ?_
  have hs := spN_le hn64
  have hlb := lbF_le (μ.1 82) (spN n) (j / 4 * 4) 4
  have e48 : nI j / nI 4 * nI 4 = nI (j / 4 * 4) := by rw [pk_div (by omega) (by omega) (by omega), pk_mul]
  have ed : nI (spN n) + nI j / nI 4 = nI (spN n + j / 4) := by rw [pk_div (by omega) (by omega) (by omega), nI_add]
  have eparts : (μ.1 76 8 + nI 7) / nI 8 = nI (spN n) := by
    rw [hn, nI_add, pk_div (by omega) (by omega) (by omega)]
    rfl
  by_cases hz : (μ.1 82 j).toInt = 0
  · have hc := h1 (decide_eq_true (Or.inl hz))
    refine wa_aload_n dX6_comes_0 rfl ?_
    refine wa_getR dX6_comes_1 fgX6_36 (by first | assumption | rfl) (by rfl) ?_
    refine wa_iload_n dX6_comes_4 rfl ?_
    refine wa_zald _ dX6_comes_5 (by first | assumption | rfl) (by first | with_reducible rfl | with_reducible assumption | with_reducible exact ix_ma _ _ _ | with_reducible exact ix_maa _ _ _ _ | with_reducible exact ix_a _ _ | with_reducible exact ix_mama _ _ _ _ _) (by omega) ?_
    refine wa_if_neF 11 dX6_comes_6 (by decide) (by omega) ?_
    refine wa_iconst (nI 1) dX6_comes_9 (by decide) ?_
    refine wa_zret dX6_comes_10 rfl (by decide) ?_
    exact hc
  · have fin : ∀ z, WA kX6_comes d Q 76 [some (.ref 73), some (.int (nI j)), some (.int (nI (spN n))), some (.int (nI (lbF (μ.1 82) (spN n) (j / 4 * 4) 4))), z] [] μ := by
      intro z
      refine wa_iload_n dX6_comes_76 rfl ?_
      refine wa_iconst (nI 1) dX6_comes_77 (by decide) ?_
      refine wa_ic_ne 98 dX6_comes_78 (by decide) (fun c78_1 => ?_) (fun c78_1 => ?_)
      · try simp (disch := omega) only [nI_toInt, Int32.toInt_toInt64] at c78_1
        refine wa_iconst (nI 0) dX6_comes_98 (by decide) ?_
        refine wa_zret dX6_comes_99 rfl (by decide) ?_
        exact h0 (decide_eq_false (by omega))
      · try simp (disch := omega) only [nI_toInt, Int32.toInt_toInt64] at c78_1
        refine wa_aload_n dX6_comes_81 rfl ?_
        refine wa_getR dX6_comes_82 fgX6_36 (by first | assumption | rfl) (by rfl) ?_
        refine wa_iload_n dX6_comes_85 rfl ?_
        refine wa_iload_n dX6_comes_86 rfl ?_
        refine wa_iconst (nI 4) dX6_comes_87 (by decide) ?_
        refine wa_idiv dX6_comes_88 (by decide) ?_
        refine wa_iadd dX6_comes_89 ?_
        refine wa_zald _ dX6_comes_90 (by first | assumption | rfl) (by exact ed) (by omega) ?_
        refine wa_if_ne 98 dX6_comes_91 (by decide) (fun c91_2 => ?_) (fun c91_2 => ?_)
        · try simp (disch := omega) only [nI_toInt, Int32.toInt_toInt64] at c91_2
          refine wa_iconst (nI 0) dX6_comes_98 (by decide) ?_
          refine wa_zret dX6_comes_99 rfl (by decide) ?_
          exact h0 (decide_eq_false (by omega))
        · try simp (disch := omega) only [nI_toInt, Int32.toInt_toInt64] at c91_2
          refine wa_iconst (nI 1) dX6_comes_94 (by decide) ?_
          refine wa_goto 99 dX6_comes_95 (by decide) ?_
          refine wa_zret dX6_comes_99 rfl (by decide) ?_
          exact h1 (decide_eq_true (by omega))
    have loop : ∀ m i, i + m = 4 → WA kX6_comes d Q 34 [some (.ref 73), some (.int (nI j)), some (.int (nI (spN n))), some (.int (nI (lbF (μ.1 82) (spN n) (j / 4 * 4) i))), some (.int (nI (j / 4 * 4 + i)))] [] μ := by
      intro m
      induction m with
      | zero =>
        intro i hi
        obtain rfl : i = 4 := by omega
        refine wa_iload dX6_comes_34 rfl ?_
        refine wa_iload_n dX6_comes_36 rfl ?_
        refine wa_iconst (nI 4) dX6_comes_37 (by decide) ?_
        refine wa_idiv dX6_comes_38 (by decide) ?_
        refine wa_iconst (nI 4) dX6_comes_39 (by decide) ?_
        refine wa_imul dX6_comes_40 ?_
        refine wa_iconst (nI 4) dX6_comes_41 (by decide) ?_
        refine wa_iadd dX6_comes_42 ?_
        refine wa_ic_geT 76 dX6_comes_43 (by decide) (by rw [e48, nI_add]; exact le_nI (by omega) (by omega)) ?_
        exact fin _
      | succ m ih =>
        intro i hi
        have e_ := ih (i + 1) (by omega)
        have e1_ : j / 4 * 4 + i + 1 = j / 4 * 4 + (i + 1) := by omega
        by_cases hh : j / 4 * 4 + i < spN n
        · refine wa_iload dX6_comes_34 rfl ?_
          refine wa_iload_n dX6_comes_36 rfl ?_
          refine wa_iconst (nI 4) dX6_comes_37 (by decide) ?_
          refine wa_idiv dX6_comes_38 (by decide) ?_
          refine wa_iconst (nI 4) dX6_comes_39 (by decide) ?_
          refine wa_imul dX6_comes_40 ?_
          refine wa_iconst (nI 4) dX6_comes_41 (by decide) ?_
          refine wa_iadd dX6_comes_42 ?_
          refine wa_ic_geF 76 dX6_comes_43 (by decide) (by rw [e48, nI_add]; exact nle_nI (by omega) (by omega)) ?_
          refine wa_iload dX6_comes_46 rfl ?_
          refine wa_iload_n dX6_comes_48 rfl ?_
          refine wa_ic_geF 76 dX6_comes_49 (by decide) (nle_nI (by omega) (by omega)) ?_
          refine wa_iload_n dX6_comes_52 rfl ?_
          refine wa_aload_n dX6_comes_53 rfl ?_
          refine wa_getR dX6_comes_54 fgX6_36 (by first | assumption | rfl) (by rfl) ?_
          refine wa_iload dX6_comes_57 rfl ?_
          refine wa_zald _ dX6_comes_59 (by first | assumption | rfl) (by first | with_reducible rfl | with_reducible assumption | with_reducible exact ix_ma _ _ _ | with_reducible exact ix_maa _ _ _ _ | with_reducible exact ix_a _ _ | with_reducible exact ix_mama _ _ _ _ _) (by omega) ?_
          refine wa_if_eq 67 dX6_comes_60 (by decide) (fun c60_1 => ?_) (fun c60_1 => ?_)
          · try simp (disch := omega) only [nI_toInt, Int32.toInt_toInt64] at c60_1
            refine wa_iconst (nI 0) dX6_comes_67 (by decide) ?_
            refine wa_iadd dX6_comes_68 ?_
            refine wa_istore_n dX6_comes_69 (by decide) ?_
            refine wa_iinc (nI 1) dX6_comes_70 rfl (by decide) (by decide) ?_
            refine wa_goto 34 dX6_comes_73 (by decide) ?_
            rw [lbF, if_neg (fun q => q.2 (by assumption))] at e_; simp only [nI_add, e1_]; exact e_
          · try simp (disch := omega) only [nI_toInt, Int32.toInt_toInt64] at c60_1
            refine wa_iconst (nI 1) dX6_comes_63 (by decide) ?_
            refine wa_goto 68 dX6_comes_64 (by decide) ?_
            refine wa_iadd dX6_comes_68 ?_
            refine wa_istore_n dX6_comes_69 (by decide) ?_
            refine wa_iinc (nI 1) dX6_comes_70 rfl (by decide) (by decide) ?_
            refine wa_goto 34 dX6_comes_73 (by decide) ?_
            rw [lbF, if_pos ⟨hh, by assumption⟩] at e_; simp only [nI_add, e1_]; exact e_
        · refine wa_iload dX6_comes_34 rfl ?_
          refine wa_iload_n dX6_comes_36 rfl ?_
          refine wa_iconst (nI 4) dX6_comes_37 (by decide) ?_
          refine wa_idiv dX6_comes_38 (by decide) ?_
          refine wa_iconst (nI 4) dX6_comes_39 (by decide) ?_
          refine wa_imul dX6_comes_40 ?_
          refine wa_iconst (nI 4) dX6_comes_41 (by decide) ?_
          refine wa_iadd dX6_comes_42 ?_
          refine wa_ic_geF 76 dX6_comes_43 (by decide) (by rw [e48, nI_add]; exact nle_nI (by omega) (by omega)) ?_
          refine wa_iload dX6_comes_46 rfl ?_
          refine wa_iload_n dX6_comes_48 rfl ?_
          refine wa_ic_geT 76 dX6_comes_49 (by decide) (le_nI (by omega) (by omega)) ?_
          have a1_ := lbF_end (μ.1 82) (spN n) (j / 4 * 4) (4 - i) i (by omega)
          rw [show i + (4 - i) = 4 by omega] at a1_
          rw [← a1_]
          exact fin _
    refine wa_aload_n dX6_comes_0 rfl ?_
    refine wa_getR dX6_comes_1 fgX6_36 (by first | assumption | rfl) (by rfl) ?_
    refine wa_iload_n dX6_comes_4 rfl ?_
    refine wa_zald _ dX6_comes_5 (by first | assumption | rfl) (by first | with_reducible rfl | with_reducible assumption | with_reducible exact ix_ma _ _ _ | with_reducible exact ix_maa _ _ _ _ | with_reducible exact ix_a _ _ | with_reducible exact ix_mama _ _ _ _ _) (by omega) ?_
    refine wa_if_neT 11 dX6_comes_6 (by decide) (hz) ?_
    refine wa_aload_n dX6_comes_11 rfl ?_
    refine wa_getR dX6_comes_12 fgX6_17 (by first | assumption | rfl) (by rfl) ?_
    refine wa_bipush (nI 8) dX6_comes_15 (by decide) ?_
    refine wa_iald _ dX6_comes_17 (by first | assumption | rfl) (by first | with_reducible rfl | with_reducible assumption | with_reducible exact ix_ma _ _ _ | with_reducible exact ix_maa _ _ _ _ | with_reducible exact ix_a _ _ | with_reducible exact ix_mama _ _ _ _ _) (by omega) ?_
    refine wa_bipush (nI 7) dX6_comes_18 (by decide) ?_
    refine wa_iadd dX6_comes_20 ?_
    refine wa_bipush (nI 8) dX6_comes_21 (by decide) ?_
    refine wa_idiv dX6_comes_23 (by decide) ?_
    refine wa_istore_n dX6_comes_24 (by decide) ?_
    refine wa_iconst (nI 0) dX6_comes_25 (by decide) ?_
    refine wa_istore_n dX6_comes_26 (by decide) ?_
    refine wa_iload_n dX6_comes_27 rfl ?_
    refine wa_iconst (nI 4) dX6_comes_28 (by decide) ?_
    refine wa_idiv dX6_comes_29 (by decide) ?_
    refine wa_iconst (nI 4) dX6_comes_30 (by decide) ?_
    refine wa_imul dX6_comes_31 ?_
    refine wa_istore dX6_comes_32 (by decide) ?_
    rw [eparts, e48]; exact loop 4 0 (by omega)
