/-! PAIRS: sheet, and rows of ints -/
def rwI (g old : Nat → Int32) (j n : Nat) : Nat → Int32 := fun q => if 64 * j ≤ q ∧ q < 64 * j + n then g (q - 64 * j) else old q
theorem rwI_0 (g old : Nat → Int32) (j : Nat) : rwI g old j 0 = old := by
  funext q
  simp only [rwI]
  rw [if_neg (by omega)]
theorem rwI_s (g old : Nat → Int32) (j i : Nat) : upd (rwI g old j i) (64 * j + i) (g i) = rwI g old j (i + 1) := by
  funext q
  by_cases hq : q = 64 * j + i
  · subst hq
    simp only [upd, rwI, if_true]
    rw [if_pos (by omega), show 64 * j + i - 64 * j = i by omega]
  · simp only [upd, rwI, hq, if_false]
    congr 1
    exact propext ⟨fun q => by omega, fun q => by omega⟩
theorem rwI_at {g old : Nat → Int32} {j n i : Nat} (h : i < n) : rwI g old j n (64 * j + i) = g i := by
  rw [rwI, if_pos (by omega)]
  congr 1
  omega
theorem rwI_no {g old : Nat → Int32} {j n q : Nat} (h : ¬ (64 * j ≤ q ∧ q < 64 * j + n)) : rwI g old j n q = old q := by
  rw [rwI, if_neg h]
theorem rwI_2 (ν : Mem) (g h o1 o2 : Nat → Int32) (j i : Nat) : sI (sI (bI (bI ν 77 (rwI g o1 j i)) 78 (rwI h o2 j i)) 77 (64 * j + i) (g i)) 78 (64 * j + i) (h i) = bI (bI ν 77 (rwI g o1 j (i + 1))) 78 (rwI h o2 j (i + 1)) := by
  rw [sIb2 _ _ _ _ _ (by omega), sIb, rwI_s, rwI_s]
theorem rwI_00 (ν : Mem) (g h : Nat → Int32) (j : Nat) : bI (bI ν 77 (rwI g (ν.1 77) j 0)) 78 (rwI h (ν.1 78) j 0) = ν := by
  rw [rwI_0, rwI_0, bI_self, bI_self]
def shMem (μ : Mem) (j n : Nat) (so : Int32) : Mem := sI (sI (sI μ 74 j (nI 1)) 75 j so) 76 j (nI n)
theorem wa_sheet {d j n : Nat} {so : Int32} {μ : Mem} {Q : QM} (hj : j < 8) (hn64 : n ≤ 64) (hQ : Q (some (.int (nI 1))) (bI (bI (shMem μ j n so) 77 (rwI (fun _ => nI 1) (μ.1 77) j n)) 78 (rwI (fun _ => nI 0) (μ.1 78) j n))) : WA kX6_sheet d Q 40 [some (.ref 73), some (.int (nI j)), some (.int so), some (.int (nI n)), none] [] μ := by
  have loop : ∀ m i, i + m = n → WA kX6_sheet d Q 64 [some (.ref 73), some (.int (nI j)), some (.int so), some (.int (nI n)), some (.int (nI i))] [] (bI (bI (shMem μ j n so) 77 (rwI (fun _ => nI 1) (μ.1 77) j i)) 78 (rwI (fun _ => nI 0) (μ.1 78) j i)) := by
    intro m
    induction m with
    | zero =>
      intro i hi
      obtain rfl : i = n := by omega
      refine wa_iload dX6_sheet_64 rfl ?_
      refine wa_iload_n dX6_sheet_66 rfl ?_
      refine wa_ic_geT 102 dX6_sheet_67 (by decide) (le_nI (by omega) (by omega)) ?_
      refine wa_iconst (nI 1) dX6_sheet_102 (by decide) ?_
      refine wa_iret dX6_sheet_103 rfl ?_
      exact hQ
    | succ m ih =>
      intro i hi
      have e_ := ih (i + 1) (by omega)
      refine wa_iload dX6_sheet_64 rfl ?_
      refine wa_iload_n dX6_sheet_66 rfl ?_
      refine wa_ic_geF 102 dX6_sheet_67 (by decide) (nle_nI (by omega) (by omega)) ?_
      refine wa_aload_n dX6_sheet_70 rfl ?_
      refine wa_getR dX6_sheet_71 fgX6_20 (by first | assumption | rfl) (by rfl) ?_
      refine wa_bipush (nI 64) dX6_sheet_74 (by decide) ?_
      refine wa_iload_n dX6_sheet_76 rfl ?_
      refine wa_imul dX6_sheet_77 ?_
      refine wa_iload dX6_sheet_78 rfl ?_
      refine wa_iadd dX6_sheet_80 ?_
      refine wa_iconst (nI 1) dX6_sheet_81 (by decide) ?_
      refine wa_iast _ dX6_sheet_82 (by first | assumption | rfl) (by first | with_reducible rfl | with_reducible assumption | with_reducible exact ix_ma _ _ _ | with_reducible exact ix_maa _ _ _ _ | with_reducible exact ix_a _ _ | with_reducible exact ix_mama _ _ _ _ _) (by omega) ?_
      refine wa_aload_n dX6_sheet_83 rfl ?_
      refine wa_getR dX6_sheet_84 fgX6_23 (by first | assumption | rfl) (by rfl) ?_
      refine wa_bipush (nI 64) dX6_sheet_87 (by decide) ?_
      refine wa_iload_n dX6_sheet_89 rfl ?_
      refine wa_imul dX6_sheet_90 ?_
      refine wa_iload dX6_sheet_91 rfl ?_
      refine wa_iadd dX6_sheet_93 ?_
      refine wa_iconst (nI 0) dX6_sheet_94 (by decide) ?_
      refine wa_iast _ dX6_sheet_95 (by first | assumption | rfl) (by first | with_reducible rfl | with_reducible assumption | with_reducible exact ix_ma _ _ _ | with_reducible exact ix_maa _ _ _ _ | with_reducible exact ix_a _ _ | with_reducible exact ix_mama _ _ _ _ _) (by omega) ?_
      refine wa_iinc (nI 1) dX6_sheet_96 rfl (by decide) (by decide) ?_
      refine wa_goto 64 dX6_sheet_99 (by decide) ?_
      rw [rwI_2 _ (fun _ => nI 1) (fun _ => nI 0)]
      simp only [nI_add]
      exact e_
  have e0 := loop n 0 (by omega)
  have e1 := rwI_00 (shMem μ j n so) (fun _ => nI 1) (fun _ => nI 0) j
  have e2 : (shMem μ j n so).1 77 = μ.1 77 := by unfold shMem; simp (disch := omega) only [sI_off, bI_off, sL_off, bL_off, r1l, r2l, rb1l, rb2l, r1m, r2m, rb1e, rb2e, r1e, r2e]
  have e3 : (shMem μ j n so).1 78 = μ.1 78 := by unfold shMem; simp (disch := omega) only [sI_off, bI_off, sL_off, bL_off, r1l, r2l, rb1l, rb2l, r1m, r2m, rb1e, rb2e, r1e, r2e]
  rw [e2, e3] at e1
  rw [e1] at e0
  refine wa_aload_n dX6_sheet_40 rfl ?_
  refine wa_getR dX6_sheet_41 fgX6_7 (by first | assumption | rfl) (by rfl) ?_
  refine wa_iload_n dX6_sheet_44 rfl ?_
  refine wa_iconst (nI 1) dX6_sheet_45 (by decide) ?_
  refine wa_zast _ dX6_sheet_46 (by first | assumption | rfl) (by first | with_reducible rfl | with_reducible assumption | with_reducible exact ix_ma _ _ _ | with_reducible exact ix_maa _ _ _ _ | with_reducible exact ix_a _ _ | with_reducible exact ix_mama _ _ _ _ _) (by omega) (Or.inr rfl) ?_
  refine wa_aload_n dX6_sheet_47 rfl ?_
  refine wa_getR dX6_sheet_48 fgX6_13 (by first | assumption | rfl) (by rfl) ?_
  refine wa_iload_n dX6_sheet_51 rfl ?_
  refine wa_iload_n dX6_sheet_52 rfl ?_
  refine wa_iast _ dX6_sheet_53 (by first | assumption | rfl) (by first | with_reducible rfl | with_reducible assumption | with_reducible exact ix_ma _ _ _ | with_reducible exact ix_maa _ _ _ _ | with_reducible exact ix_a _ _ | with_reducible exact ix_mama _ _ _ _ _) (by omega) ?_
  refine wa_aload_n dX6_sheet_54 rfl ?_
  refine wa_getR dX6_sheet_55 fgX6_17 (by first | assumption | rfl) (by rfl) ?_
  refine wa_iload_n dX6_sheet_58 rfl ?_
  refine wa_iload_n dX6_sheet_59 rfl ?_
  refine wa_iast _ dX6_sheet_60 (by first | assumption | rfl) (by first | with_reducible rfl | with_reducible assumption | with_reducible exact ix_ma _ _ _ | with_reducible exact ix_maa _ _ _ _ | with_reducible exact ix_a _ _ | with_reducible exact ix_mama _ _ _ _ _) (by omega) ?_
  refine wa_iconst (nI 0) dX6_sheet_61 (by decide) ?_
  refine wa_istore dX6_sheet_62 (by decide) ?_
  exact e0
theorem nI64 : (nI 64).toInt = 64 := by decide
theorem k2_L : (2 : Int64).toInt = 2 := by decide
theorem st3_n : ∀ s, s < 3 → st3 (nI s) := by
  intro s hs
  have : s = 0 ∨ s = 1 ∨ s = 2 := by omega
  rcases this with rfl | rfl | rfl
  · exact Or.inl rfl
  · exact Or.inr (Or.inl rfl)
  · exact Or.inr (Or.inr rfl)
theorem pr_sheet (k so n : Int32) : PR kX5_sheet kX6_sheet [.int k, .int so, .int n] := by
  intro N μ d c hd hc hN hrel
  have e64_ := nI64
  refine MW_of (by decide) [some (.ref 0), some (.int k), some (.int so), some (.int n)] rfl (Nat.le_of_ble_eq_true rfl) ?_
  refine wa_iload_n dX5_sheet_0 rfl ?_
  refine wa_callS1 (k' := kX5_isSheet) (d' := 0) dX5_sheet_1 lmX5_44 ksX5_isSheet (by decide) (by omega) (Nat.le_of_ble_eq_true rfl) ?_
  refine wp_X5_isSheet (fun j_ hj_ hk_ => ?_) (fun hoob => ?_)
  · skip
    obtain ⟨m_, s1_, s2_, s3_, s4_, s5_, s6_, s7_, s8_, s9_, s10_⟩ := hrel.1 j_ (by omega); have s5_ := s5_ (by omega); have hS_ := isS_k (show j_ < 9 by omega); have hsh_ := (isS_sh hS_).1
    refine wa_if_eqF 22 dX5_sheet_4 (by decide) (by decide) ?_
    refine wa_iload_n dX5_sheet_7 rfl ?_
    refine wa_if_lt 22 dX5_sheet_8 (by decide) (fun c8_2 => ?_) (fun c8_2 => ?_)
    · try simp (disch := omega) only [nI_toInt, Int32.toInt_toInt64, e64_] at c8_2
      refine wa_bipush (-2) dX5_sheet_22 (by decide) ?_
      refine wa_iret dX5_sheet_24 rfl ?_
      skip
      try unfold oob at hoob
      try rw [hk_]
      try (have ej_ : (nI j_).toInt = j_ := nI_toInt (by omega))
      refine MW_of (by decide) [some (.ref 73), some (.int _), some (.int so), some (.int n), none] rfl (Nat.le_of_ble_eq_true rfl) ?_
      refine wa_iload_n dX6_sheet_0 rfl ?_
      refine wa_i2l dX6_sheet_1 ?_
      refine wa_lconst (0) dX6_sheet_2 (by decide) ?_
      refine wa_ldc2 (7) dX6_sheet_3 lcX6_58 ?_
      refine wa_callS3 (k' := kX6_in) (d' := 0) dX6_sheet_6 lmX6_60 ksX6_in (by decide) (by omega) (Nat.le_of_ble_eq_true rfl) ?_
      refine wp_X6_in (fun hi_ => ?_) (fun hi_ => ?_)
      · skip
        rw [Int32.toInt_toInt64, z64, k7_L] at hi_
        try (exfalso; omega)
        all_goals
          skip
          refine wa_if_eqF 30 dX6_sheet_9 (by decide) (by decide) ?_
          refine wa_iload_n dX6_sheet_12 rfl ?_
          refine wa_i2l dX6_sheet_13 ?_
          refine wa_lconst (0) dX6_sheet_14 (by decide) ?_
          refine wa_ldc2 (2) dX6_sheet_15 lcX6_64 ?_
          refine wa_callS3 (k' := kX6_in) (d' := 0) dX6_sheet_18 lmX6_60 ksX6_in (by decide) (by omega) (Nat.le_of_ble_eq_true rfl) ?_
          refine wp_X6_in (fun hy_ => ?_) (fun hy_ => ?_)
          · skip
            rw [Int32.toInt_toInt64, z64, k2_L] at hy_
            try (exfalso; omega)
            all_goals
              skip
              refine wa_if_eqF 30 dX6_sheet_21 (by decide) (by decide) ?_
              refine wa_iload_n dX6_sheet_24 rfl ?_
              refine wa_bipush (nI 64) dX6_sheet_25 (by decide) ?_
              refine wa_ic_le 33 dX6_sheet_27 (by decide) (fun c27_3 => ?_) (fun c27_3 => ?_)
              · try simp (disch := omega) only [nI_toInt, Int32.toInt_toInt64, not_true_eq_false, e64_] at c27_3
                try (exfalso; omega)
                all_goals
                  skip
                  refine wa_iload_n dX6_sheet_33 rfl ?_
                  refine wa_if_ge 40 dX6_sheet_34 (by decide) (fun c34_4 => ?_) (fun c34_4 => ?_)
                  · try simp (disch := omega) only [nI_toInt, Int32.toInt_toInt64, not_true_eq_false, e64_] at c34_4
                    try (exfalso; omega)
                    all_goals
                      skip
                      skip
                  · try simp (disch := omega) only [nI_toInt, Int32.toInt_toInt64, not_true_eq_false, e64_] at c34_4
                    try (exfalso; omega)
                    all_goals
                      skip
                      refine wa_bipush (-12) dX6_sheet_37 (by decide) ?_
                      refine wa_iret dX6_sheet_39 rfl ?_
                      exact ⟨rfl, hrel.up⟩
              · try simp (disch := omega) only [nI_toInt, Int32.toInt_toInt64, not_true_eq_false, e64_] at c27_3
                try (exfalso; omega)
                all_goals
                  skip
                  refine wa_bipush (-2) dX6_sheet_30 (by decide) ?_
                  refine wa_iret dX6_sheet_32 rfl ?_
                  exact ⟨rfl, hrel.up⟩
          · skip
            rw [Int32.toInt_toInt64, z64, k2_L] at hy_
            try (exfalso; omega)
            all_goals
              skip
              refine wa_if_eqT 30 dX6_sheet_21 (by decide) (by decide) ?_
              refine wa_bipush (-2) dX6_sheet_30 (by decide) ?_
              refine wa_iret dX6_sheet_32 rfl ?_
              exact ⟨rfl, hrel.up⟩
      · skip
        rw [Int32.toInt_toInt64, z64, k7_L] at hi_
        try (exfalso; omega)
        all_goals
          skip
          refine wa_if_eqT 30 dX6_sheet_9 (by decide) (by decide) ?_
          refine wa_bipush (-2) dX6_sheet_30 (by decide) ?_
          refine wa_iret dX6_sheet_32 rfl ?_
          exact ⟨rfl, hrel.up⟩
    · try simp (disch := omega) only [nI_toInt, Int32.toInt_toInt64, e64_] at c8_2
      refine wa_iload_n dX5_sheet_11 rfl ?_
      refine wa_iconst (nI 2) dX5_sheet_12 (by decide) ?_
      refine wa_ic_gt 22 dX5_sheet_13 (by decide) (fun c13_3 => ?_) (fun c13_3 => ?_)
      · try simp (disch := omega) only [nI_toInt, Int32.toInt_toInt64, e64_] at c13_3
        refine wa_bipush (-2) dX5_sheet_22 (by decide) ?_
        refine wa_iret dX5_sheet_24 rfl ?_
        skip
        try unfold oob at hoob
        try rw [hk_]
        try (have ej_ : (nI j_).toInt = j_ := nI_toInt (by omega))
        refine MW_of (by decide) [some (.ref 73), some (.int _), some (.int so), some (.int n), none] rfl (Nat.le_of_ble_eq_true rfl) ?_
        refine wa_iload_n dX6_sheet_0 rfl ?_
        refine wa_i2l dX6_sheet_1 ?_
        refine wa_lconst (0) dX6_sheet_2 (by decide) ?_
        refine wa_ldc2 (7) dX6_sheet_3 lcX6_58 ?_
        refine wa_callS3 (k' := kX6_in) (d' := 0) dX6_sheet_6 lmX6_60 ksX6_in (by decide) (by omega) (Nat.le_of_ble_eq_true rfl) ?_
        refine wp_X6_in (fun hi_ => ?_) (fun hi_ => ?_)
        · skip
          rw [Int32.toInt_toInt64, z64, k7_L] at hi_
          try (exfalso; omega)
          all_goals
            skip
            refine wa_if_eqF 30 dX6_sheet_9 (by decide) (by decide) ?_
            refine wa_iload_n dX6_sheet_12 rfl ?_
            refine wa_i2l dX6_sheet_13 ?_
            refine wa_lconst (0) dX6_sheet_14 (by decide) ?_
            refine wa_ldc2 (2) dX6_sheet_15 lcX6_64 ?_
            refine wa_callS3 (k' := kX6_in) (d' := 0) dX6_sheet_18 lmX6_60 ksX6_in (by decide) (by omega) (Nat.le_of_ble_eq_true rfl) ?_
            refine wp_X6_in (fun hy_ => ?_) (fun hy_ => ?_)
            · skip
              rw [Int32.toInt_toInt64, z64, k2_L] at hy_
              try (exfalso; omega)
              all_goals
                skip
                refine wa_if_eqF 30 dX6_sheet_21 (by decide) (by decide) ?_
                refine wa_iload_n dX6_sheet_24 rfl ?_
                refine wa_bipush (nI 64) dX6_sheet_25 (by decide) ?_
                refine wa_ic_le 33 dX6_sheet_27 (by decide) (fun c27_3 => ?_) (fun c27_3 => ?_)
                · try simp (disch := omega) only [nI_toInt, Int32.toInt_toInt64, not_true_eq_false, e64_] at c27_3
                  try (exfalso; omega)
                  all_goals
                    skip
                    refine wa_iload_n dX6_sheet_33 rfl ?_
                    refine wa_if_ge 40 dX6_sheet_34 (by decide) (fun c34_4 => ?_) (fun c34_4 => ?_)
                    · try simp (disch := omega) only [nI_toInt, Int32.toInt_toInt64, not_true_eq_false, e64_] at c34_4
                      try (exfalso; omega)
                      all_goals
                        skip
                        skip
                    · try simp (disch := omega) only [nI_toInt, Int32.toInt_toInt64, not_true_eq_false, e64_] at c34_4
                      try (exfalso; omega)
                      all_goals
                        skip
                        refine wa_bipush (-12) dX6_sheet_37 (by decide) ?_
                        refine wa_iret dX6_sheet_39 rfl ?_
                        exact ⟨rfl, hrel.up⟩
                · try simp (disch := omega) only [nI_toInt, Int32.toInt_toInt64, not_true_eq_false, e64_] at c27_3
                  try (exfalso; omega)
                  all_goals
                    skip
                    refine wa_bipush (-2) dX6_sheet_30 (by decide) ?_
                    refine wa_iret dX6_sheet_32 rfl ?_
                    exact ⟨rfl, hrel.up⟩
            · skip
              rw [Int32.toInt_toInt64, z64, k2_L] at hy_
              try (exfalso; omega)
              all_goals
                skip
                refine wa_if_eqT 30 dX6_sheet_21 (by decide) (by decide) ?_
                refine wa_bipush (-2) dX6_sheet_30 (by decide) ?_
                refine wa_iret dX6_sheet_32 rfl ?_
                exact ⟨rfl, hrel.up⟩
        · skip
          rw [Int32.toInt_toInt64, z64, k7_L] at hi_
          try (exfalso; omega)
          all_goals
            skip
            refine wa_if_eqT 30 dX6_sheet_9 (by decide) (by decide) ?_
            refine wa_bipush (-2) dX6_sheet_30 (by decide) ?_
            refine wa_iret dX6_sheet_32 rfl ?_
            exact ⟨rfl, hrel.up⟩
      · try simp (disch := omega) only [nI_toInt, Int32.toInt_toInt64, e64_] at c13_3
        refine wa_iload_n dX5_sheet_16 rfl ?_
        refine wa_bipush (nI 64) dX5_sheet_17 (by decide) ?_
        refine wa_ic_le 25 dX5_sheet_19 (by decide) (fun c19_4 => ?_) (fun c19_4 => ?_)
        · try simp (disch := omega) only [nI_toInt, Int32.toInt_toInt64, e64_] at c19_4
          refine wa_iload_n dX5_sheet_25 rfl ?_
          refine wa_if_ge 32 dX5_sheet_26 (by decide) (fun c26_5 => ?_) (fun c26_5 => ?_)
          · try simp (disch := omega) only [nI_toInt, Int32.toInt_toInt64, e64_] at c26_5
            refine wa_aload_n dX5_sheet_32 rfl ?_
            refine wa_getR dX5_sheet_33 fgX5_11 (by first | assumption | rfl) (by rfl) ?_
            refine wa_iload_n dX5_sheet_36 rfl ?_
            refine wa_aalS _ dX5_sheet_37 (by first | assumption | rfl) (by exact hk_) (by omega) ?_
            rw [show arf 1 j_ = 7 + 4 * j_ from rfl]
            refine wa_iload_n dX5_sheet_38 rfl ?_
            refine wa_iload_n dX5_sheet_39 rfl ?_
            refine wa_callV2 (k' := kX3_begin) (d' := 1) dX5_sheet_40 lmX5_48 kvX3_begin (by first | assumption | rfl) (by rfl) (by decide) (by omega) (Nat.le_of_ble_eq_true rfl) ?_
            refine wp_X3_begin hS_ (by omega) ?_
            refine wa_iconst (nI 1) dX5_sheet_43 (by decide) ?_
            refine wa_iret dX5_sheet_44 rfl ?_
            obtain ⟨n_, hn_, hpn_⟩ := nI_ex (x := n) (n := 65) (by omega) (by omega) (by omega)
            obtain ⟨q_, hq_, hpq_⟩ := nI_ex (x := so) (n := 3) (by omega) (by omega) (by omega)
            have hso_ := st3_n q_ hq_
            rw [← hpq_] at hso_
            have hs2_ : 0 ≤ so.toInt ∧ so.toInt ≤ 2 := by omega
            have e65_ : (nI n_).toInt = n_ := nI_toInt (by omega)
            rw [hk_, hpn_]
            refine MW_of (by decide) [some (.ref 73), some (.int (nI j_)), some (.int so), some (.int (nI n_)), none] rfl (Nat.le_of_ble_eq_true rfl) ?_
            refine wa_iload_n dX6_sheet_0 rfl ?_
            refine wa_i2l dX6_sheet_1 ?_
            refine wa_lconst (0) dX6_sheet_2 (by decide) ?_
            refine wa_ldc2 (7) dX6_sheet_3 lcX6_58 ?_
            refine wa_callS3 (k' := kX6_in) (d' := 0) dX6_sheet_6 lmX6_60 ksX6_in (by decide) (by omega) (Nat.le_of_ble_eq_true rfl) ?_
            refine in8_1 hj_ ?_
            refine wa_if_eqF 30 dX6_sheet_9 (by decide) (by decide) ?_
            refine wa_iload_n dX6_sheet_12 rfl ?_
            refine wa_i2l dX6_sheet_13 ?_
            refine wa_lconst (0) dX6_sheet_14 (by decide) ?_
            refine wa_ldc2 (2) dX6_sheet_15 lcX6_64 ?_
            refine wa_callS3 (k' := kX6_in) (d' := 0) dX6_sheet_18 lmX6_60 ksX6_in (by decide) (by omega) (Nat.le_of_ble_eq_true rfl) ?_
            refine in_1 (by rw [Int32.toInt_toInt64, z64, k2_L]; exact hs2_) ?_
            refine wa_if_eqF 30 dX6_sheet_21 (by decide) (by decide) ?_
            refine wa_iload_n dX6_sheet_24 rfl ?_
            refine wa_bipush (nI 64) dX6_sheet_25 (by decide) ?_
            refine wa_ic_leT 33 dX6_sheet_27 (by decide) (by rw [e64_, e65_]; omega) ?_
            refine wa_iload_n dX6_sheet_33 rfl ?_
            refine wa_if_geT 40 dX6_sheet_34 (by decide) (by rw [e65_]; omega) ?_
            refine wa_sheet (n := n_) hj_ (by omega) ⟨rfl, ?_⟩
            unfold shMem
            refine Rel_S (k := j_) (n := n_) hrel ?rels ?fs ?fr ?fp ?fw ?fm
            case fs =>
              intro j_ hj_ hjk_
              refine ⟨?_, ?_, ?_, ?_, ?_, ?_, fun i_ hi_ => ?_, fun i_ hi_ => ?_⟩
              all_goals
                simp (disch := omega) only [sI_off, bI_off, sL_off, bL_off, r1l, r2l, rb1l, rb2l, r1m, r2m, rb1e, rb2e,rwI_no]
            case fr =>
              intro r_ hr_
              refine ⟨?_, ?_, ?_, fun i_ hi_ => ?_⟩
              all_goals
                simp (disch := omega) only [sI_off, bI_off, sL_off, bL_off, r1l, r2l, rb1l, rb2l, r1m, r2m, rb1e, rb2e,rwI_no]
            case fp =>
              refine ⟨?_, ?_, ?_, ?_, ?_⟩
              all_goals
                simp (disch := omega) only [sI_off, bI_off, sL_off, bL_off, r1l, r2l, rb1l, rb2l, r1m, r2m, rb1e, rb2e,rwI_no]
            case fw =>
              refine ⟨?_, fun q_ ha_ hb_ => ?_⟩
              all_goals
                simp (disch := omega) only [sI_off, bI_off, sL_off, bL_off, r1l, r2l, rb1l, rb2l, r1m, r2m, rb1e, rb2e,rwI_no]
            case fm =>
              refine ⟨?_, ?_, fun q_ ha_ hb_ => ?_⟩
              all_goals
                simp (disch := omega) only [sI_off, bI_off, sL_off, bL_off, r1l, r2l, rb1l, rb2l, r1m, r2m, rb1e, rb2e,rwI_no]
            case rels =>
              refine ⟨by simp (disch := omega) only [sI_off, bI_off, sL_off, bL_off, r1l, r2l, rb1l, rb2l, r1m, r2m, rb1e, rb2e, r1e, r2e]; exact Or.inr trivial, by simp (disch := omega) only [sI_off, bI_off, sL_off, bL_off, r1l, r2l, rb1l, rb2l, r1m, r2m, rb1e, rb2e, r1e, r2e]; exact hso_, by simp (disch := omega) only [sI_off, bI_off, sL_off, bL_off, r1l, r2l, rb1l, rb2l, r1m, r2m, rb1e, rb2e, r1e, r2e], by omega, fun _ => by simp (disch := omega) only [sI_off, bI_off, sL_off, bL_off, r1l, r2l, rb1l, rb2l, r1m, r2m, rb1e, rb2e, r1e, r2e], by simp (disch := omega) only [sI_off, bI_off, sL_off, bL_off, r1l, r2l, rb1l, rb2l, r1m, r2m, rb1e, rb2e, r1e, r2e], by simp (disch := omega) only [sI_off, bI_off, sL_off, bL_off, r1l, r2l, rb1l, rb2l, r1m, r2m, rb1e, rb2e, r1e, r2e], fun i_ hb_ hz_ => ?_, fun i_ hb_ => ?_, fun i_ hb_ => ?_⟩
              · simp (disch := omega) only [sI_off, bI_off, sL_off, bL_off, r1l, r2l, rb1l, rb2l, r1m, r2m, rb1e, rb2e, r1e, r2e]
                rw [rwI_at hb_, fillF, if_pos (by omega)]
              · simp (disch := omega) only [sI_off, bI_off, sL_off, bL_off, r1l, r2l, rb1l, rb2l, r1m, r2m, rb1e, rb2e, r1e, r2e]
                rw [rwI_at hb_, fillF, if_pos (by omega)]
              · simp (disch := omega) only [sI_off, bI_off, sL_off, bL_off, r1l, r2l, rb1l, rb2l, r1m, r2m, rb1e, rb2e, r1e, r2e]
                rw [fillF, if_pos (by omega)]
                exact Or.inr (Or.inl rfl)
          · try simp (disch := omega) only [nI_toInt, Int32.toInt_toInt64, e64_] at c26_5
            refine wa_bipush (-12) dX5_sheet_29 (by decide) ?_
            refine wa_iret dX5_sheet_31 rfl ?_
            skip
            try unfold oob at hoob
            try rw [hk_]
            try (have ej_ : (nI j_).toInt = j_ := nI_toInt (by omega))
            refine MW_of (by decide) [some (.ref 73), some (.int _), some (.int so), some (.int n), none] rfl (Nat.le_of_ble_eq_true rfl) ?_
            refine wa_iload_n dX6_sheet_0 rfl ?_
            refine wa_i2l dX6_sheet_1 ?_
            refine wa_lconst (0) dX6_sheet_2 (by decide) ?_
            refine wa_ldc2 (7) dX6_sheet_3 lcX6_58 ?_
            refine wa_callS3 (k' := kX6_in) (d' := 0) dX6_sheet_6 lmX6_60 ksX6_in (by decide) (by omega) (Nat.le_of_ble_eq_true rfl) ?_
            refine wp_X6_in (fun hi_ => ?_) (fun hi_ => ?_)
            · skip
              rw [Int32.toInt_toInt64, z64, k7_L] at hi_
              try (exfalso; omega)
              all_goals
                skip
                refine wa_if_eqF 30 dX6_sheet_9 (by decide) (by decide) ?_
                refine wa_iload_n dX6_sheet_12 rfl ?_
                refine wa_i2l dX6_sheet_13 ?_
                refine wa_lconst (0) dX6_sheet_14 (by decide) ?_
                refine wa_ldc2 (2) dX6_sheet_15 lcX6_64 ?_
                refine wa_callS3 (k' := kX6_in) (d' := 0) dX6_sheet_18 lmX6_60 ksX6_in (by decide) (by omega) (Nat.le_of_ble_eq_true rfl) ?_
                refine wp_X6_in (fun hy_ => ?_) (fun hy_ => ?_)
                · skip
                  rw [Int32.toInt_toInt64, z64, k2_L] at hy_
                  try (exfalso; omega)
                  all_goals
                    skip
                    refine wa_if_eqF 30 dX6_sheet_21 (by decide) (by decide) ?_
                    refine wa_iload_n dX6_sheet_24 rfl ?_
                    refine wa_bipush (nI 64) dX6_sheet_25 (by decide) ?_
                    refine wa_ic_le 33 dX6_sheet_27 (by decide) (fun c27_3 => ?_) (fun c27_3 => ?_)
                    · try simp (disch := omega) only [nI_toInt, Int32.toInt_toInt64, not_true_eq_false, e64_] at c27_3
                      try (exfalso; omega)
                      all_goals
                        skip
                        refine wa_iload_n dX6_sheet_33 rfl ?_
                        refine wa_if_ge 40 dX6_sheet_34 (by decide) (fun c34_4 => ?_) (fun c34_4 => ?_)
                        · try simp (disch := omega) only [nI_toInt, Int32.toInt_toInt64, not_true_eq_false, e64_] at c34_4
                          try (exfalso; omega)
                          all_goals
                            skip
                            skip
                        · try simp (disch := omega) only [nI_toInt, Int32.toInt_toInt64, not_true_eq_false, e64_] at c34_4
                          try (exfalso; omega)
                          all_goals
                            skip
                            refine wa_bipush (-12) dX6_sheet_37 (by decide) ?_
                            refine wa_iret dX6_sheet_39 rfl ?_
                            exact ⟨rfl, hrel.up⟩
                    · try simp (disch := omega) only [nI_toInt, Int32.toInt_toInt64, not_true_eq_false, e64_] at c27_3
                      try (exfalso; omega)
                      all_goals
                        skip
                        refine wa_bipush (-2) dX6_sheet_30 (by decide) ?_
                        refine wa_iret dX6_sheet_32 rfl ?_
                        exact ⟨rfl, hrel.up⟩
                · skip
                  rw [Int32.toInt_toInt64, z64, k2_L] at hy_
                  try (exfalso; omega)
                  all_goals
                    skip
                    refine wa_if_eqT 30 dX6_sheet_21 (by decide) (by decide) ?_
                    refine wa_bipush (-2) dX6_sheet_30 (by decide) ?_
                    refine wa_iret dX6_sheet_32 rfl ?_
                    exact ⟨rfl, hrel.up⟩
            · skip
              rw [Int32.toInt_toInt64, z64, k7_L] at hi_
              try (exfalso; omega)
              all_goals
                skip
                refine wa_if_eqT 30 dX6_sheet_9 (by decide) (by decide) ?_
                refine wa_bipush (-2) dX6_sheet_30 (by decide) ?_
                refine wa_iret dX6_sheet_32 rfl ?_
                exact ⟨rfl, hrel.up⟩
        · try simp (disch := omega) only [nI_toInt, Int32.toInt_toInt64, e64_] at c19_4
          refine wa_bipush (-2) dX5_sheet_22 (by decide) ?_
          refine wa_iret dX5_sheet_24 rfl ?_
          skip
          try unfold oob at hoob
          try rw [hk_]
          try (have ej_ : (nI j_).toInt = j_ := nI_toInt (by omega))
          refine MW_of (by decide) [some (.ref 73), some (.int _), some (.int so), some (.int n), none] rfl (Nat.le_of_ble_eq_true rfl) ?_
          refine wa_iload_n dX6_sheet_0 rfl ?_
          refine wa_i2l dX6_sheet_1 ?_
          refine wa_lconst (0) dX6_sheet_2 (by decide) ?_
          refine wa_ldc2 (7) dX6_sheet_3 lcX6_58 ?_
          refine wa_callS3 (k' := kX6_in) (d' := 0) dX6_sheet_6 lmX6_60 ksX6_in (by decide) (by omega) (Nat.le_of_ble_eq_true rfl) ?_
          refine wp_X6_in (fun hi_ => ?_) (fun hi_ => ?_)
          · skip
            rw [Int32.toInt_toInt64, z64, k7_L] at hi_
            try (exfalso; omega)
            all_goals
              skip
              refine wa_if_eqF 30 dX6_sheet_9 (by decide) (by decide) ?_
              refine wa_iload_n dX6_sheet_12 rfl ?_
              refine wa_i2l dX6_sheet_13 ?_
              refine wa_lconst (0) dX6_sheet_14 (by decide) ?_
              refine wa_ldc2 (2) dX6_sheet_15 lcX6_64 ?_
              refine wa_callS3 (k' := kX6_in) (d' := 0) dX6_sheet_18 lmX6_60 ksX6_in (by decide) (by omega) (Nat.le_of_ble_eq_true rfl) ?_
              refine wp_X6_in (fun hy_ => ?_) (fun hy_ => ?_)
              · skip
                rw [Int32.toInt_toInt64, z64, k2_L] at hy_
                try (exfalso; omega)
                all_goals
                  skip
                  refine wa_if_eqF 30 dX6_sheet_21 (by decide) (by decide) ?_
                  refine wa_iload_n dX6_sheet_24 rfl ?_
                  refine wa_bipush (nI 64) dX6_sheet_25 (by decide) ?_
                  refine wa_ic_le 33 dX6_sheet_27 (by decide) (fun c27_3 => ?_) (fun c27_3 => ?_)
                  · try simp (disch := omega) only [nI_toInt, Int32.toInt_toInt64, not_true_eq_false, e64_] at c27_3
                    try (exfalso; omega)
                    all_goals
                      skip
                      refine wa_iload_n dX6_sheet_33 rfl ?_
                      refine wa_if_ge 40 dX6_sheet_34 (by decide) (fun c34_4 => ?_) (fun c34_4 => ?_)
                      · try simp (disch := omega) only [nI_toInt, Int32.toInt_toInt64, not_true_eq_false, e64_] at c34_4
                        try (exfalso; omega)
                        all_goals
                          skip
                          skip
                      · try simp (disch := omega) only [nI_toInt, Int32.toInt_toInt64, not_true_eq_false, e64_] at c34_4
                        try (exfalso; omega)
                        all_goals
                          skip
                          refine wa_bipush (-12) dX6_sheet_37 (by decide) ?_
                          refine wa_iret dX6_sheet_39 rfl ?_
                          exact ⟨rfl, hrel.up⟩
                  · try simp (disch := omega) only [nI_toInt, Int32.toInt_toInt64, not_true_eq_false, e64_] at c27_3
                    try (exfalso; omega)
                    all_goals
                      skip
                      refine wa_bipush (-2) dX6_sheet_30 (by decide) ?_
                      refine wa_iret dX6_sheet_32 rfl ?_
                      exact ⟨rfl, hrel.up⟩
              · skip
                rw [Int32.toInt_toInt64, z64, k2_L] at hy_
                try (exfalso; omega)
                all_goals
                  skip
                  refine wa_if_eqT 30 dX6_sheet_21 (by decide) (by decide) ?_
                  refine wa_bipush (-2) dX6_sheet_30 (by decide) ?_
                  refine wa_iret dX6_sheet_32 rfl ?_
                  exact ⟨rfl, hrel.up⟩
          · skip
            rw [Int32.toInt_toInt64, z64, k7_L] at hi_
            try (exfalso; omega)
            all_goals
              skip
              refine wa_if_eqT 30 dX6_sheet_9 (by decide) (by decide) ?_
              refine wa_bipush (-2) dX6_sheet_30 (by decide) ?_
              refine wa_iret dX6_sheet_32 rfl ?_
              exact ⟨rfl, hrel.up⟩
  · skip
    refine wa_if_eqT 22 dX5_sheet_4 (by decide) (by decide) ?_
    refine wa_bipush (-2) dX5_sheet_22 (by decide) ?_
    refine wa_iret dX5_sheet_24 rfl ?_
    skip
    try unfold oob at hoob
    try rw [hk_]
    try (have ej_ : (nI j_).toInt = j_ := nI_toInt (by omega))
    refine MW_of (by decide) [some (.ref 73), some (.int _), some (.int so), some (.int n), none] rfl (Nat.le_of_ble_eq_true rfl) ?_
    refine wa_iload_n dX6_sheet_0 rfl ?_
    refine wa_i2l dX6_sheet_1 ?_
    refine wa_lconst (0) dX6_sheet_2 (by decide) ?_
    refine wa_ldc2 (7) dX6_sheet_3 lcX6_58 ?_
    refine wa_callS3 (k' := kX6_in) (d' := 0) dX6_sheet_6 lmX6_60 ksX6_in (by decide) (by omega) (Nat.le_of_ble_eq_true rfl) ?_
    refine wp_X6_in (fun hi_ => ?_) (fun hi_ => ?_)
    · skip
      rw [Int32.toInt_toInt64, z64, k7_L] at hi_
      try (exfalso; omega)
      all_goals
        skip
        refine wa_if_eqF 30 dX6_sheet_9 (by decide) (by decide) ?_
        refine wa_iload_n dX6_sheet_12 rfl ?_
        refine wa_i2l dX6_sheet_13 ?_
        refine wa_lconst (0) dX6_sheet_14 (by decide) ?_
        refine wa_ldc2 (2) dX6_sheet_15 lcX6_64 ?_
        refine wa_callS3 (k' := kX6_in) (d' := 0) dX6_sheet_18 lmX6_60 ksX6_in (by decide) (by omega) (Nat.le_of_ble_eq_true rfl) ?_
        refine wp_X6_in (fun hy_ => ?_) (fun hy_ => ?_)
        · skip
          rw [Int32.toInt_toInt64, z64, k2_L] at hy_
          try (exfalso; omega)
          all_goals
            skip
            refine wa_if_eqF 30 dX6_sheet_21 (by decide) (by decide) ?_
            refine wa_iload_n dX6_sheet_24 rfl ?_
            refine wa_bipush (nI 64) dX6_sheet_25 (by decide) ?_
            refine wa_ic_le 33 dX6_sheet_27 (by decide) (fun c27_3 => ?_) (fun c27_3 => ?_)
            · try simp (disch := omega) only [nI_toInt, Int32.toInt_toInt64, not_true_eq_false, e64_] at c27_3
              try (exfalso; omega)
              all_goals
                skip
                refine wa_iload_n dX6_sheet_33 rfl ?_
                refine wa_if_ge 40 dX6_sheet_34 (by decide) (fun c34_4 => ?_) (fun c34_4 => ?_)
                · try simp (disch := omega) only [nI_toInt, Int32.toInt_toInt64, not_true_eq_false, e64_] at c34_4
                  try (exfalso; omega)
                  all_goals
                    skip
                    skip
                · try simp (disch := omega) only [nI_toInt, Int32.toInt_toInt64, not_true_eq_false, e64_] at c34_4
                  try (exfalso; omega)
                  all_goals
                    skip
                    refine wa_bipush (-12) dX6_sheet_37 (by decide) ?_
                    refine wa_iret dX6_sheet_39 rfl ?_
                    exact ⟨rfl, hrel.up⟩
            · try simp (disch := omega) only [nI_toInt, Int32.toInt_toInt64, not_true_eq_false, e64_] at c27_3
              try (exfalso; omega)
              all_goals
                skip
                refine wa_bipush (-2) dX6_sheet_30 (by decide) ?_
                refine wa_iret dX6_sheet_32 rfl ?_
                exact ⟨rfl, hrel.up⟩
        · skip
          rw [Int32.toInt_toInt64, z64, k2_L] at hy_
          try (exfalso; omega)
          all_goals
            skip
            refine wa_if_eqT 30 dX6_sheet_21 (by decide) (by decide) ?_
            refine wa_bipush (-2) dX6_sheet_30 (by decide) ?_
            refine wa_iret dX6_sheet_32 rfl ?_
            exact ⟨rfl, hrel.up⟩
    · skip
      rw [Int32.toInt_toInt64, z64, k7_L] at hi_
      try (exfalso; omega)
      all_goals
        skip
        refine wa_if_eqT 30 dX6_sheet_9 (by decide) (by decide) ?_
        refine wa_bipush (-2) dX6_sheet_30 (by decide) ?_
        refine wa_iret dX6_sheet_32 rfl ?_
        exact ⟨rfl, hrel.up⟩
