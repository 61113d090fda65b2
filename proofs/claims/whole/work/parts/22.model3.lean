/-! THE MODEL: sums and counts -/
theorem kN2e8 : (-200000000 : Int64).toInt = -200000000 := by decide
theorem wp_X6_force {d r a n : Nat} {to : Int32} {μ : Mem} {Q : QM} (hd : 2 ≤ d) (hr : r < 6) (hn : μ.1 79 r = nI n) (hn64 : n ≤ 64) (ha : a < 2 ^ 31) (hat : (a : Int) ≤ to.toInt) (hF : ¬ excB (mN μ r) a n to.toInt 200000000 → Q (some (.long (-5000000000000000016))) μ) (hQ : excB (mN μ r) a n to.toInt 200000000 → Q (some (.long (sqF (mN μ r) to.toInt n 64 a 0))) μ) : MW kX6_force d [.ref 73, .int (nI r), .int (nI a), .int to] μ Q := by
  refine MW_of (by decide) [some (.ref 73), some (.int (nI r)), some (.int (nI a)), some (.int to), none, none, none, none, none] rfl (Nat.le_of_ble_eq_true rfl) ?_
  have ka := k2e8.1
  have kb := kN2e8
  have er : (nI r).toInt = r := nI_toInt (by omega)
  have ea : (nI a).toInt = a := nI_toInt (by omega)
  have loop : ∀ m i acc, n ≤ i + m → a ≤ i → i < 2 ^ 31 → excB (mN μ r) a i to.toInt 200000000 → (excB (mN μ r) a n to.toInt 200000000 → Q (some (.long (sqF (mN μ r) to.toInt n m i acc))) μ) → ∀ z, WA kX6_force d Q 26 [some (.ref 73), some (.int (nI r)), some (.int (nI a)), some (.int to), some (.long acc), none, some (.int (nI i)), z, none] [] μ := by
    intro m
    induction m with
    | zero =>
      intro i acc hi hai h31 hb hq_ z
      refine wa_iload dX6_force_26 rfl ?_
      refine wa_aload_n dX6_force_28 rfl ?_
      refine wa_getR dX6_force_29 fgX6_26 (by first | assumption | rfl) (by rfl) ?_
      refine wa_iload_n dX6_force_32 rfl ?_
      refine wa_iald _ dX6_force_33 (by first | assumption | rfl) (by first | with_reducible rfl | with_reducible assumption | with_reducible exact ix_ma _ _ _ | with_reducible exact ix_maa _ _ _ _ | with_reducible exact ix_a _ _ | with_reducible exact ix_mama _ _ _ _ _) (by omega) ?_
      refine wa_ic_geT 91 dX6_force_34 (by decide) (by rw [hn]; exact le_nI (by omega) (by omega)) ?_
      refine wa_lload dX6_force_91 rfl ?_
      refine wa_lret dX6_force_93 rfl ?_
      exact hq_ (fun q q1 q2 q3 => hb q q1 (by omega) q3)
    | succ m ih =>
      intro i acc hi hai h31 hb hq_ z
      by_cases hin : i < n
      · refine wa_iload dX6_force_26 rfl ?_
        refine wa_aload_n dX6_force_28 rfl ?_
        refine wa_getR dX6_force_29 fgX6_26 (by first | assumption | rfl) (by rfl) ?_
        refine wa_iload_n dX6_force_32 rfl ?_
        refine wa_iald _ dX6_force_33 (by first | assumption | rfl) (by first | with_reducible rfl | with_reducible assumption | with_reducible exact ix_ma _ _ _ | with_reducible exact ix_maa _ _ _ _ | with_reducible exact ix_a _ _ | with_reducible exact ix_mama _ _ _ _ _) (by omega) ?_
        refine wa_ic_geF 91 dX6_force_34 (by decide) (by rw [hn]; exact nle_nI (by omega) (by omega)) ?_
        refine wa_iload dX6_force_37 rfl ?_
        refine wa_iload_n dX6_force_39 rfl ?_
        refine wa_ic_gt 91 dX6_force_40 (by decide) (fun c40_1 => ?_) (fun c40_1 => ?_)
        · try simp (disch := omega) only [nI_toInt, Int32.toInt_toInt64] at c40_1
          refine wa_lload dX6_force_91 rfl ?_
          refine wa_lret dX6_force_93 rfl ?_
          rw [sqF, if_neg (by omega)] at hq_; exact hq_ (fun q q1 q2 q3 => hb q q1 (by omega) q3)
        · try simp (disch := omega) only [nI_toInt, Int32.toInt_toInt64] at c40_1
          refine wa_aload_n dX6_force_43 rfl ?_
          refine wa_getR dX6_force_44 fgX6_29 (by first | assumption | rfl) (by rfl) ?_
          refine wa_bipush (nI 64) dX6_force_47 (by decide) ?_
          refine wa_iload_n dX6_force_49 rfl ?_
          refine wa_imul dX6_force_50 ?_
          refine wa_iload dX6_force_51 rfl ?_
          refine wa_iadd dX6_force_53 ?_
          refine wa_lald _ dX6_force_54 (by first | assumption | rfl) (by first | with_reducible rfl | with_reducible assumption | with_reducible exact ix_ma _ _ _ | with_reducible exact ix_maa _ _ _ _ | with_reducible exact ix_a _ _ | with_reducible exact ix_mama _ _ _ _ _) (by omega) ?_
          refine wa_lstore dX6_force_55 (by decide) ?_
          refine wa_lload dX6_force_57 rfl ?_
          refine wa_ldc2 (-200000000) dX6_force_59 lcX6_135 ?_
          refine wa_ldc2 (200000000) dX6_force_62 lcX6_137 ?_
          refine wa_callS3 (k' := kX6_in) (d' := 0) dX6_force_65 lmX6_60 ksX6_in (by decide) (by omega) (Nat.le_of_ble_eq_true rfl) ?_
          refine wp_X6_in (fun hw_ => ?_) (fun hw_ => ?_)
          · skip
            rw [ka, kb] at hw_
            refine wa_if_neT 75 dX6_force_68 (by decide) (by decide) ?_
            refine wa_lload dX6_force_75 rfl ?_
            refine wa_lload dX6_force_77 rfl ?_
            refine wa_lload dX6_force_79 rfl ?_
            refine wa_lmul dX6_force_81 ?_
            refine wa_ladd dX6_force_82 ?_
            refine wa_lstore dX6_force_83 (by decide) ?_
            refine wa_iinc (nI 1) dX6_force_85 rfl (by decide) (by decide) ?_
            refine wa_goto 26 dX6_force_88 (by decide) ?_
            rw [sqF, if_pos (by omega)] at hq_
            simp only [nI_add]
            refine ih (i + 1) _ (by omega) (by omega) (by omega) (fun q q1 q2 q3 => ?_) hq_ _
            by_cases hqi : q = i
            · rw [hqi]; exact hw_
            · exact hb q q1 (by omega) q3
          · skip
            rw [ka, kb] at hw_
            refine wa_if_neF 75 dX6_force_68 (by decide) (by decide) ?_
            refine wa_ldc2 (-5000000000000000016) dX6_force_71 lcX6_139 ?_
            refine wa_lret dX6_force_74 rfl ?_
            exact hF (fun q => by
              have hq2_ := q i hai hin (by omega)
              unfold mN at hq2_
              omega)
      · refine wa_iload dX6_force_26 rfl ?_
        refine wa_aload_n dX6_force_28 rfl ?_
        refine wa_getR dX6_force_29 fgX6_26 (by first | assumption | rfl) (by rfl) ?_
        refine wa_iload_n dX6_force_32 rfl ?_
        refine wa_iald _ dX6_force_33 (by first | assumption | rfl) (by first | with_reducible rfl | with_reducible assumption | with_reducible exact ix_ma _ _ _ | with_reducible exact ix_maa _ _ _ _ | with_reducible exact ix_a _ _ | with_reducible exact ix_mama _ _ _ _ _) (by omega) ?_
        refine wa_ic_geT 91 dX6_force_34 (by decide) (by rw [hn]; exact le_nI (by omega) (by omega)) ?_
        refine wa_lload dX6_force_91 rfl ?_
        refine wa_lret dX6_force_93 rfl ?_
        rw [sqF, if_neg (by omega)] at hq_; exact hq_ (fun q q1 q2 q3 => hb q q1 (by omega) q3)
  refine wa_iload_n dX6_force_0 rfl ?_
  refine wa_callS1 (k' := kX6_isRow) (d' := 1) dX6_force_1 lmX6_100 ksX6_isRow (by decide) (by omega) (Nat.le_of_ble_eq_true rfl) ?_
  refine wp_X6_isRow (by omega) (fun _ _ _ => ?_) (fun hoob_ => absurd hoob_ (by unfold oob; omega))
  refine wa_if_eqF 16 dX6_force_4 (by decide) (by decide) ?_
  refine wa_iload_n dX6_force_7 rfl ?_
  refine wa_if_ltF 16 dX6_force_8 (by decide) (by omega) ?_
  refine wa_iload_n dX6_force_11 rfl ?_
  refine wa_iload_n dX6_force_12 rfl ?_
  refine wa_ic_geT 20 dX6_force_13 (by decide) (by omega) ?_
  refine wa_lconst (0) dX6_force_20 (by decide) ?_
  refine wa_lstore dX6_force_21 (by decide) ?_
  refine wa_iload_n dX6_force_23 rfl ?_
  refine wa_istore dX6_force_24 (by decide) ?_
  exact loop 64 a 0 (by omega) (by omega) ha (fun q q1 q2 _ => by omega) hQ none
theorem wp_X6_cross {d r u n : Nat} {μ : Mem} {Q : QM} (hd : 2 ≤ d) (hr : r < 6) (hu : u < 6) (hn : μ.1 79 r = nI n) (hnu : μ.1 79 u = nI n) (hn64 : n ≤ 64) (hF : ¬ (inB (mN μ r) n 200000000 ∧ inB (mN μ u) n 200000000) → Q (some (.long (-5000000000000000016))) μ) (hQ : inB (mN μ r) n 200000000 → inB (mN μ u) n 200000000 → Q (some (.long (prS (mN μ r) (mN μ u) n))) μ) : MW kX6_cross d [.ref 73, .int (nI r), .int (nI u)] μ Q := by
  refine MW_of (by decide) [some (.ref 73), some (.int (nI r)), some (.int (nI u)), none, none, none, none, none, none, none] rfl (Nat.le_of_ble_eq_true rfl) ?_
  have ka := k2e8.1
  have kb := kN2e8
  have er : (nI r).toInt = r := nI_toInt (by omega)
  have eu : (nI u).toInt = u := nI_toInt (by omega)
  have loop : ∀ m i, i + m = n → inB (mN μ r) i 200000000 → inB (mN μ u) i 200000000 → ∀ z1 z2, WA kX6_cross d Q 42 [some (.ref 73), some (.int (nI r)), some (.int (nI u)), some (.long (prS (mN μ r) (mN μ u) i)), none, some (.int (nI i)), z1, none, z2, none] [] μ := by
    intro m
    induction m with
    | zero =>
      intro i hi h1_ h2_ z1 z2
      obtain rfl : i = n := by omega
      refine wa_iload dX6_cross_42 rfl ?_
      refine wa_aload_n dX6_cross_44 rfl ?_
      refine wa_getR dX6_cross_45 fgX6_26 (by first | assumption | rfl) (by rfl) ?_
      refine wa_iload_n dX6_cross_48 rfl ?_
      refine wa_iald _ dX6_cross_49 (by first | assumption | rfl) (by first | with_reducible rfl | with_reducible assumption | with_reducible exact ix_ma _ _ _ | with_reducible exact ix_maa _ _ _ _ | with_reducible exact ix_a _ _ | with_reducible exact ix_mama _ _ _ _ _) (by omega) ?_
      refine wa_ic_geT 127 dX6_cross_50 (by decide) (by rw [hn]; exact le_nI (by omega) (by omega)) ?_
      refine wa_lload_n dX6_cross_127 rfl ?_
      refine wa_lret dX6_cross_128 rfl ?_
      exact hQ h1_ h2_
    | succ m ih =>
      intro i hi h1_ h2_ z1 z2
      have e_ := ih (i + 1) (by omega)
      refine wa_iload dX6_cross_42 rfl ?_
      refine wa_aload_n dX6_cross_44 rfl ?_
      refine wa_getR dX6_cross_45 fgX6_26 (by first | assumption | rfl) (by rfl) ?_
      refine wa_iload_n dX6_cross_48 rfl ?_
      refine wa_iald _ dX6_cross_49 (by first | assumption | rfl) (by first | with_reducible rfl | with_reducible assumption | with_reducible exact ix_ma _ _ _ | with_reducible exact ix_maa _ _ _ _ | with_reducible exact ix_a _ _ | with_reducible exact ix_mama _ _ _ _ _) (by omega) ?_
      refine wa_ic_geF 127 dX6_cross_50 (by decide) (by rw [hn]; exact nle_nI (by omega) (by omega)) ?_
      refine wa_aload_n dX6_cross_53 rfl ?_
      refine wa_getR dX6_cross_54 fgX6_29 (by first | assumption | rfl) (by rfl) ?_
      refine wa_bipush (nI 64) dX6_cross_57 (by decide) ?_
      refine wa_iload_n dX6_cross_59 rfl ?_
      refine wa_imul dX6_cross_60 ?_
      refine wa_iload dX6_cross_61 rfl ?_
      refine wa_iadd dX6_cross_63 ?_
      refine wa_lald _ dX6_cross_64 (by first | assumption | rfl) (by first | with_reducible rfl | with_reducible assumption | with_reducible exact ix_ma _ _ _ | with_reducible exact ix_maa _ _ _ _ | with_reducible exact ix_a _ _ | with_reducible exact ix_mama _ _ _ _ _) (by omega) ?_
      refine wa_lstore dX6_cross_65 (by decide) ?_
      refine wa_aload_n dX6_cross_67 rfl ?_
      refine wa_getR dX6_cross_68 fgX6_29 (by first | assumption | rfl) (by rfl) ?_
      refine wa_bipush (nI 64) dX6_cross_71 (by decide) ?_
      refine wa_iload_n dX6_cross_73 rfl ?_
      refine wa_imul dX6_cross_74 ?_
      refine wa_iload dX6_cross_75 rfl ?_
      refine wa_iadd dX6_cross_77 ?_
      refine wa_lald _ dX6_cross_78 (by first | assumption | rfl) (by first | with_reducible rfl | with_reducible assumption | with_reducible exact ix_ma _ _ _ | with_reducible exact ix_maa _ _ _ _ | with_reducible exact ix_a _ _ | with_reducible exact ix_mama _ _ _ _ _) (by omega) ?_
      refine wa_lstore dX6_cross_79 (by decide) ?_
      refine wa_lload dX6_cross_81 rfl ?_
      refine wa_ldc2 (-200000000) dX6_cross_83 lcX6_135 ?_
      refine wa_ldc2 (200000000) dX6_cross_86 lcX6_137 ?_
      refine wa_callS3 (k' := kX6_in) (d' := 0) dX6_cross_89 lmX6_60 ksX6_in (by decide) (by omega) (Nat.le_of_ble_eq_true rfl) ?_
      refine wp_X6_in (fun hw_ => ?_) (fun hw_ => ?_)
      · skip
        rw [ka, kb] at hw_
        refine wa_if_eqF 109 dX6_cross_92 (by decide) (by decide) ?_
        refine wa_lload dX6_cross_95 rfl ?_
        refine wa_ldc2 (-200000000) dX6_cross_97 lcX6_135 ?_
        refine wa_ldc2 (200000000) dX6_cross_100 lcX6_137 ?_
        refine wa_callS3 (k' := kX6_in) (d' := 0) dX6_cross_103 lmX6_60 ksX6_in (by decide) (by omega) (Nat.le_of_ble_eq_true rfl) ?_
        refine wp_X6_in (fun hv_ => ?_) (fun hv_ => ?_)
        · skip
          rw [ka, kb] at hv_
          refine wa_if_neT 113 dX6_cross_106 (by decide) (by decide) ?_
          refine wa_lload_n dX6_cross_113 rfl ?_
          refine wa_lload dX6_cross_114 rfl ?_
          refine wa_lload dX6_cross_116 rfl ?_
          refine wa_lmul dX6_cross_118 ?_
          refine wa_ladd dX6_cross_119 ?_
          refine wa_lstore_n dX6_cross_120 (by decide) ?_
          refine wa_iinc (nI 1) dX6_cross_121 rfl (by decide) (by decide) ?_
          refine wa_goto 42 dX6_cross_124 (by decide) ?_
          simp only [nI_add]
          refine e_ (fun q hq => ?_) (fun q hq => ?_) _ _
          · by_cases hqi : q = i
            · rw [hqi]; exact hw_
            · exact h1_ q (by omega)
          · by_cases hqi : q = i
            · rw [hqi]; exact hv_
            · exact h2_ q (by omega)
        · skip
          rw [ka, kb] at hv_
          refine wa_if_neF 113 dX6_cross_106 (by decide) (by decide) ?_
          refine wa_ldc2 (-5000000000000000016) dX6_cross_109 lcX6_139 ?_
          refine wa_lret dX6_cross_112 rfl ?_
          refine hF (fun q => ?_)
          have hq_ := q.2 i (by omega)
          unfold mN at hq_
          omega
      · skip
        rw [ka, kb] at hw_
        refine wa_if_eqT 109 dX6_cross_92 (by decide) (by decide) ?_
        refine wa_ldc2 (-5000000000000000016) dX6_cross_109 lcX6_139 ?_
        refine wa_lret dX6_cross_112 rfl ?_
        refine hF (fun q => ?_)
        have hq_ := q.1 i (by omega)
        unfold mN at hq_
        omega
  refine wa_iload_n dX6_cross_0 rfl ?_
  refine wa_callS1 (k' := kX6_isRow) (d' := 1) dX6_cross_1 lmX6_100 ksX6_isRow (by decide) (by omega) (Nat.le_of_ble_eq_true rfl) ?_
  refine wp_X6_isRow (by omega) (fun _ _ _ => ?_) (fun hoob_ => absurd hoob_ (by unfold oob; omega))
  refine wa_if_eqF 14 dX6_cross_4 (by decide) (by decide) ?_
  refine wa_iload_n dX6_cross_7 rfl ?_
  refine wa_callS1 (k' := kX6_isRow) (d' := 1) dX6_cross_8 lmX6_100 ksX6_isRow (by decide) (by omega) (Nat.le_of_ble_eq_true rfl) ?_
  refine wp_X6_isRow (by omega) (fun _ _ _ => ?_) (fun hoob_ => absurd hoob_ (by unfold oob; omega))
  refine wa_if_neT 18 dX6_cross_11 (by decide) (by decide) ?_
  refine wa_aload_n dX6_cross_18 rfl ?_
  refine wa_getR dX6_cross_19 fgX6_26 (by first | assumption | rfl) (by rfl) ?_
  refine wa_iload_n dX6_cross_22 rfl ?_
  refine wa_iald _ dX6_cross_23 (by first | assumption | rfl) (by first | with_reducible rfl | with_reducible assumption | with_reducible exact ix_ma _ _ _ | with_reducible exact ix_maa _ _ _ _ | with_reducible exact ix_a _ _ | with_reducible exact ix_mama _ _ _ _ _) (by omega) ?_
  refine wa_aload_n dX6_cross_24 rfl ?_
  refine wa_getR dX6_cross_25 fgX6_26 (by first | assumption | rfl) (by rfl) ?_
  refine wa_iload_n dX6_cross_28 rfl ?_
  refine wa_iald _ dX6_cross_29 (by first | assumption | rfl) (by first | with_reducible rfl | with_reducible assumption | with_reducible exact ix_ma _ _ _ | with_reducible exact ix_maa _ _ _ _ | with_reducible exact ix_a _ _ | with_reducible exact ix_mama _ _ _ _ _) (by omega) ?_
  refine wa_ic_eqT 37 dX6_cross_30 (by decide) (by rw [hn, hnu]) ?_
  refine wa_lconst (0) dX6_cross_37 (by decide) ?_
  refine wa_lstore_n dX6_cross_38 (by decide) ?_
  refine wa_iconst (nI 0) dX6_cross_39 (by decide) ?_
  refine wa_istore dX6_cross_40 (by decide) ?_
  exact loop n 0 (by omega) (fun q hq => by omega) (fun q hq => by omega) none none
/-- what count() tells -/
def cVm (μ : Mem) (pk w : Nat) : Int32 := match w with
  | 0 => nI (thN (μ.1 74) 8)
  | 1 => nI pk
  | 2 => nI (nzN (μ.1 82) pk)
  | 3 => μ.1 73 14
  | 4 => μ.1 73 15
  | 5 => μ.1 73 17
  | 6 => μ.1 73 22
  | 7 => μ.1 73 23
  | 8 => if (μ.1 73 22).toInt = 0 then nI 0 else μ.1 73 25 - μ.1 73 24
  | _ => if (μ.1 73 22).toInt = 0 then nI 0 else μ.1 73 27 - μ.1 73 26
theorem wp_X6_count {d pk w : Nat} {μ : Mem} {Q : QM} (hpk : μ.1 73 9 = nI pk) (hpk10 : pk ≤ 10) (hw : w < 10) (hQ : Q (some (.int (cVm μ pk w))) μ) : MW kX6_count d [.ref 73, .int (nI w)] μ Q := by
  refine MW_of (by decide) [some (.ref 73), some (.int (nI w)), none, none] rfl (Nat.le_of_ble_eq_true rfl) ?_
  have : w = 0 ∨ w = 1 ∨ w = 2 ∨ w = 3 ∨ w = 4 ∨ w = 5 ∨ w = 6 ∨ w = 7 ∨ w = 8 ∨ w = 9 := by omega
  rcases this with rfl | rfl | rfl | rfl | rfl | rfl | rfl | rfl | rfl | rfl
  · have loop : ∀ m i, i + m = 8 → WA kX6_count d Q 58 [some (.ref 73), some (.int (nI 0)), some (.int (nI (thN (μ.1 74) i))), some (.int (nI i))] [] μ := by
      intro m
      induction m with
      | zero =>
        intro i hi
        obtain rfl : i = 8 := by omega
        refine wa_iload_n dX6_count_58 rfl ?_
        refine wa_bipush (nI 8) dX6_count_59 (by decide) ?_
        refine wa_ic_geT 87 dX6_count_61 (by decide) (le_nI (by omega) (by omega)) ?_
        refine wa_iload_n dX6_count_87 rfl ?_
        refine wa_iret dX6_count_88 rfl ?_
        exact hQ
      | succ m ih =>
        intro i hi
        have e_ := ih (i + 1) (by omega)
        refine wa_iload_n dX6_count_58 rfl ?_
        refine wa_bipush (nI 8) dX6_count_59 (by decide) ?_
        refine wa_ic_geF 87 dX6_count_61 (by decide) (nle_nI (by omega) (by omega)) ?_
        refine wa_iload_n dX6_count_64 rfl ?_
        refine wa_aload_n dX6_count_65 rfl ?_
        refine wa_getR dX6_count_66 fgX6_7 (by first | assumption | rfl) (by rfl) ?_
        refine wa_iload_n dX6_count_69 rfl ?_
        refine wa_zald _ dX6_count_70 (by first | assumption | rfl) (by first | with_reducible rfl | with_reducible assumption | with_reducible exact ix_ma _ _ _ | with_reducible exact ix_maa _ _ _ _ | with_reducible exact ix_a _ _ | with_reducible exact ix_mama _ _ _ _ _) (by omega) ?_
        refine wa_if_eq 78 dX6_count_71 (by decide) (fun c71_1 => ?_) (fun c71_1 => ?_)
        · try simp (disch := omega) only [nI_toInt, Int32.toInt_toInt64] at c71_1
          refine wa_iconst (nI 0) dX6_count_78 (by decide) ?_
          refine wa_iadd dX6_count_79 ?_
          refine wa_istore_n dX6_count_80 (by decide) ?_
          refine wa_iinc (nI 1) dX6_count_81 rfl (by decide) (by decide) ?_
          refine wa_goto 58 dX6_count_84 (by decide) ?_
          rw [thN, if_pos (by assumption)] at e_; simp only [nI_add]; exact e_
        · try simp (disch := omega) only [nI_toInt, Int32.toInt_toInt64] at c71_1
          refine wa_iconst (nI 1) dX6_count_74 (by decide) ?_
          refine wa_goto 79 dX6_count_75 (by decide) ?_
          refine wa_iadd dX6_count_79 ?_
          refine wa_istore_n dX6_count_80 (by decide) ?_
          refine wa_iinc (nI 1) dX6_count_81 rfl (by decide) (by decide) ?_
          refine wa_goto 58 dX6_count_84 (by decide) ?_
          rw [thN, if_neg (by assumption)] at e_; simp only [nI_add]; exact e_
    refine wa_iconst (nI 0) dX6_count_0 (by decide) ?_
    refine wa_istore_n dX6_count_1 (by decide) ?_
    refine wa_iload_n dX6_count_2 rfl ?_
    refine wa_tsI 56 0 dX6_count_3 (by decide) (by decide) (by decide) rfl (by decide) ?_
    refine wa_iconst (nI 0) dX6_count_56 (by decide) ?_
    refine wa_istore_n dX6_count_57 (by decide) ?_
    exact loop 8 0 (by omega)
  · refine wa_iconst (nI 0) dX6_count_0 (by decide) ?_
    refine wa_istore_n dX6_count_1 (by decide) ?_
    refine wa_iload_n dX6_count_2 rfl ?_
    refine wa_tsI 89 1 dX6_count_3 (by decide) (by decide) (by decide) rfl (by decide) ?_
    refine wa_aload_n dX6_count_89 rfl ?_
    refine wa_getI dX6_count_90 fgX6_183 (by first | assumption | rfl) (by rfl) ?_
    refine wa_iret dX6_count_93 rfl ?_
    rw [hpk]; exact hQ
  · have loop : ∀ m i, i + m = pk → WA kX6_count d Q 96 [some (.ref 73), some (.int (nI 2)), some (.int (nI (nzN (μ.1 82) i))), some (.int (nI i))] [] μ := by
      intro m
      induction m with
      | zero =>
        intro i hi
        obtain rfl : i = pk := by omega
        refine wa_iload_n dX6_count_96 rfl ?_
        refine wa_aload_n dX6_count_97 rfl ?_
        refine wa_getI dX6_count_98 fgX6_183 (by first | assumption | rfl) (by rfl) ?_
        refine wa_ic_geT 127 dX6_count_101 (by decide) (by rw [hpk]; exact le_nI (by omega) (by omega)) ?_
        refine wa_iload_n dX6_count_127 rfl ?_
        refine wa_iret dX6_count_128 rfl ?_
        exact hQ
      | succ m ih =>
        intro i hi
        have e_ := ih (i + 1) (by omega)
        refine wa_iload_n dX6_count_96 rfl ?_
        refine wa_aload_n dX6_count_97 rfl ?_
        refine wa_getI dX6_count_98 fgX6_183 (by first | assumption | rfl) (by rfl) ?_
        refine wa_ic_geF 127 dX6_count_101 (by decide) (by rw [hpk]; exact nle_nI (by omega) (by omega)) ?_
        refine wa_iload_n dX6_count_104 rfl ?_
        refine wa_aload_n dX6_count_105 rfl ?_
        refine wa_getR dX6_count_106 fgX6_36 (by first | assumption | rfl) (by rfl) ?_
        refine wa_iload_n dX6_count_109 rfl ?_
        refine wa_zald _ dX6_count_110 (by first | assumption | rfl) (by first | with_reducible rfl | with_reducible assumption | with_reducible exact ix_ma _ _ _ | with_reducible exact ix_maa _ _ _ _ | with_reducible exact ix_a _ _ | with_reducible exact ix_mama _ _ _ _ _) (by omega) ?_
        refine wa_if_eq 118 dX6_count_111 (by decide) (fun c111_1 => ?_) (fun c111_1 => ?_)
        · try simp (disch := omega) only [nI_toInt, Int32.toInt_toInt64] at c111_1
          refine wa_iconst (nI 0) dX6_count_118 (by decide) ?_
          refine wa_iadd dX6_count_119 ?_
          refine wa_istore_n dX6_count_120 (by decide) ?_
          refine wa_iinc (nI 1) dX6_count_121 rfl (by decide) (by decide) ?_
          refine wa_goto 96 dX6_count_124 (by decide) ?_
          rw [nzN, if_pos (by assumption)] at e_; simp only [nI_add]; exact e_
        · try simp (disch := omega) only [nI_toInt, Int32.toInt_toInt64] at c111_1
          refine wa_iconst (nI 1) dX6_count_114 (by decide) ?_
          refine wa_goto 119 dX6_count_115 (by decide) ?_
          refine wa_iadd dX6_count_119 ?_
          refine wa_istore_n dX6_count_120 (by decide) ?_
          refine wa_iinc (nI 1) dX6_count_121 rfl (by decide) (by decide) ?_
          refine wa_goto 96 dX6_count_124 (by decide) ?_
          rw [nzN, if_neg (by assumption)] at e_; simp only [nI_add]; exact e_
    refine wa_iconst (nI 0) dX6_count_0 (by decide) ?_
    refine wa_istore_n dX6_count_1 (by decide) ?_
    refine wa_iload_n dX6_count_2 rfl ?_
    refine wa_tsI 94 2 dX6_count_3 (by decide) (by decide) (by decide) rfl (by decide) ?_
    refine wa_iconst (nI 0) dX6_count_94 (by decide) ?_
    refine wa_istore_n dX6_count_95 (by decide) ?_
    exact loop pk 0 (by omega)
  · refine wa_iconst (nI 0) dX6_count_0 (by decide) ?_
    refine wa_istore_n dX6_count_1 (by decide) ?_
    refine wa_iload_n dX6_count_2 rfl ?_
    refine wa_tsI 129 3 dX6_count_3 (by decide) (by decide) (by decide) rfl (by decide) ?_
    refine wa_aload_n dX6_count_129 rfl ?_
    refine wa_getI dX6_count_130 fgX6_192 (by first | assumption | rfl) (by rfl) ?_
    refine wa_iret dX6_count_133 rfl ?_
    exact hQ
  · refine wa_iconst (nI 0) dX6_count_0 (by decide) ?_
    refine wa_istore_n dX6_count_1 (by decide) ?_
    refine wa_iload_n dX6_count_2 rfl ?_
    refine wa_tsI 134 4 dX6_count_3 (by decide) (by decide) (by decide) rfl (by decide) ?_
    refine wa_aload_n dX6_count_134 rfl ?_
    refine wa_getI dX6_count_135 fgX6_195 (by first | assumption | rfl) (by rfl) ?_
    refine wa_iret dX6_count_138 rfl ?_
    exact hQ
  · refine wa_iconst (nI 0) dX6_count_0 (by decide) ?_
    refine wa_istore_n dX6_count_1 (by decide) ?_
    refine wa_iload_n dX6_count_2 rfl ?_
    refine wa_tsI 139 5 dX6_count_3 (by decide) (by decide) (by decide) rfl (by decide) ?_
    refine wa_aload_n dX6_count_139 rfl ?_
    refine wa_getI dX6_count_140 fgX6_201 (by first | assumption | rfl) (by rfl) ?_
    refine wa_iret dX6_count_143 rfl ?_
    exact hQ
  · refine wa_iconst (nI 0) dX6_count_0 (by decide) ?_
    refine wa_istore_n dX6_count_1 (by decide) ?_
    refine wa_iload_n dX6_count_2 rfl ?_
    refine wa_tsI 144 6 dX6_count_3 (by decide) (by decide) (by decide) rfl (by decide) ?_
    refine wa_aload_n dX6_count_144 rfl ?_
    refine wa_getI dX6_count_145 fgX6_216 (by first | assumption | rfl) (by rfl) ?_
    refine wa_iret dX6_count_148 rfl ?_
    exact hQ
  · refine wa_iconst (nI 0) dX6_count_0 (by decide) ?_
    refine wa_istore_n dX6_count_1 (by decide) ?_
    refine wa_iload_n dX6_count_2 rfl ?_
    refine wa_tsI 149 7 dX6_count_3 (by decide) (by decide) (by decide) rfl (by decide) ?_
    refine wa_aload_n dX6_count_149 rfl ?_
    refine wa_getI dX6_count_150 fgX6_219 (by first | assumption | rfl) (by rfl) ?_
    refine wa_iret dX6_count_153 rfl ?_
    exact hQ
  · simp only [cVm] at hQ
    refine wa_iconst (nI 0) dX6_count_0 (by decide) ?_
    refine wa_istore_n dX6_count_1 (by decide) ?_
    refine wa_iload_n dX6_count_2 rfl ?_
    refine wa_tsI 154 8 dX6_count_3 (by decide) (by decide) (by decide) rfl (by decide) ?_
    refine wa_aload_n dX6_count_154 rfl ?_
    refine wa_getI dX6_count_155 fgX6_216 (by first | assumption | rfl) (by rfl) ?_
    refine wa_if_ne 165 dX6_count_158 (by decide) (fun c158_1 => ?_) (fun c158_1 => ?_)
    · try simp (disch := omega) only [nI_toInt, Int32.toInt_toInt64] at c158_1
      refine wa_aload_n dX6_count_165 rfl ?_
      refine wa_getI dX6_count_166 fgX6_225 (by first | assumption | rfl) (by rfl) ?_
      refine wa_aload_n dX6_count_169 rfl ?_
      refine wa_getI dX6_count_170 fgX6_222 (by first | assumption | rfl) (by rfl) ?_
      refine wa_isub dX6_count_173 ?_
      refine wa_iret dX6_count_174 rfl ?_
      rw [if_neg (by assumption)] at hQ; exact hQ
    · try simp (disch := omega) only [nI_toInt, Int32.toInt_toInt64] at c158_1
      refine wa_iconst (nI 0) dX6_count_161 (by decide) ?_
      refine wa_goto 174 dX6_count_162 (by decide) ?_
      refine wa_iret dX6_count_174 rfl ?_
      rw [if_pos (by omega)] at hQ; exact hQ
  · simp only [cVm] at hQ
    refine wa_iconst (nI 0) dX6_count_0 (by decide) ?_
    refine wa_istore_n dX6_count_1 (by decide) ?_
    refine wa_iload_n dX6_count_2 rfl ?_
    refine wa_tsI 175 9 dX6_count_3 (by decide) (by decide) (by decide) rfl (by decide) ?_
    refine wa_aload_n dX6_count_175 rfl ?_
    refine wa_getI dX6_count_176 fgX6_216 (by first | assumption | rfl) (by rfl) ?_
    refine wa_if_ne 186 dX6_count_179 (by decide) (fun c179_1 => ?_) (fun c179_1 => ?_)
    · try simp (disch := omega) only [nI_toInt, Int32.toInt_toInt64] at c179_1
      refine wa_aload_n dX6_count_186 rfl ?_
      refine wa_getI dX6_count_187 fgX6_231 (by first | assumption | rfl) (by rfl) ?_
      refine wa_aload_n dX6_count_190 rfl ?_
      refine wa_getI dX6_count_191 fgX6_228 (by first | assumption | rfl) (by rfl) ?_
      refine wa_isub dX6_count_194 ?_
      refine wa_iret dX6_count_195 rfl ?_
      rw [if_neg (by assumption)] at hQ; exact hQ
    · try simp (disch := omega) only [nI_toInt, Int32.toInt_toInt64] at c179_1
      refine wa_iconst (nI 0) dX6_count_182 (by decide) ?_
      refine wa_goto 195 dX6_count_183 (by decide) ?_
      refine wa_iret dX6_count_195 rfl ?_
      rw [if_pos (by omega)] at hQ; exact hQ
