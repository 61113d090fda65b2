/-! PAIRS: warnings, the mooring, what is missed -/
theorem k1000 : (1000 : Int64).toInt = 1000 := by decide
theorem k100 : (100 : Int64).toInt = 100 := by decide
theorem k1L : (1 : Int64).toInt = 1 := by decide
theorem nI1000 : (nI 1000).toInt = 1000 := by decide
theorem pr_rule (a b e : Int32) : PR kX5_rule kX6_rule [.int a, .int b, .int e] := by
  intro N μ d c hd hc hN hrel
  refine MW_of (by decide) [some (.ref 0), some (.int a), some (.int b), some (.int e)] rfl (Nat.le_of_ble_eq_true rfl) ?_
  refine wa_iload_n dX5_rule_0 rfl ?_
  refine wa_iload_n dX5_rule_1 rfl ?_
  refine wa_ic_le 16 dX5_rule_2 (by decide) (fun c2_1 => ?_) (fun c2_1 => ?_)
  · try simp (disch := omega) only [nI_toInt, Int32.toInt_toInt64] at c2_1
    refine wa_bipush (-2) dX5_rule_16 (by decide) ?_
    refine wa_iret dX5_rule_18 rfl ?_
    skip
    refine MW_of (by decide) [some (.ref 73), some (.int a), some (.int b), some (.int e)] rfl (Nat.le_of_ble_eq_true rfl) ?_
    refine wa_iload_n dX6_rule_0 rfl ?_
    refine wa_iload_n dX6_rule_1 rfl ?_
    refine wa_ic_le 17 dX6_rule_2 (by decide) (fun c2_1 => ?_) (fun c2_1 => ?_)
    · try simp (disch := omega) only [nI_toInt, Int32.toInt_toInt64, not_true_eq_false] at c2_1
      try (exfalso; omega)
      all_goals
        skip
        refine wa_bipush (-2) dX6_rule_17 (by decide) ?_
        refine wa_iret dX6_rule_19 rfl ?_
        exact ⟨rfl, hrel.up⟩
    · try simp (disch := omega) only [nI_toInt, Int32.toInt_toInt64, not_true_eq_false] at c2_1
      try (exfalso; omega)
      all_goals
        skip
        refine wa_iload_n dX6_rule_5 rfl ?_
        refine wa_i2l dX6_rule_6 ?_
        refine wa_lconst (0) dX6_rule_7 (by decide) ?_
        refine wa_ldc2 (1000) dX6_rule_8 lcX6_133 ?_
        refine wa_callS3 (k' := kX6_in) (d' := 0) dX6_rule_11 lmX6_60 ksX6_in (by decide) (by omega) (Nat.le_of_ble_eq_true rfl) ?_
        refine wp_X6_in (fun hi_ => ?_) (fun hi_ => ?_)
        · skip
          rw [Int32.toInt_toInt64, z64, k1000] at hi_
          try (exfalso; omega)
          all_goals
            skip
            refine wa_if_neT 20 dX6_rule_14 (by decide) (by decide) ?_
            refine wa_aload_n dX6_rule_20 rfl ?_
            refine wa_iload_n dX6_rule_21 rfl ?_
            refine wa_putI dX6_rule_22 fgX6_39 fw6_11 (by first | assumption | rfl) (by rfl) ?_
            refine wa_aload_n dX6_rule_25 rfl ?_
            refine wa_iload_n dX6_rule_26 rfl ?_
            refine wa_putI dX6_rule_27 fgX6_43 fw6_12 (by first | assumption | rfl) (by rfl) ?_
            refine wa_aload_n dX6_rule_30 rfl ?_
            refine wa_iload_n dX6_rule_31 rfl ?_
            refine wa_putI dX6_rule_32 fgX6_189 fw6_13 (by first | assumption | rfl) (by rfl) ?_
            refine wa_aload_n dX6_rule_35 rfl ?_
            refine wa_iconst (nI 0) dX6_rule_36 (by decide) ?_
            refine wa_putI dX6_rule_37 fgX6_192 fw6_14 (by first | assumption | rfl) (by rfl) ?_
            refine wa_aload_n dX6_rule_40 rfl ?_
            refine wa_iconst (nI 0) dX6_rule_41 (by decide) ?_
            refine wa_putI dX6_rule_42 fgX6_195 fw6_15 (by first | assumption | rfl) (by rfl) ?_
            refine wa_aload_n dX6_rule_45 rfl ?_
            refine wa_iconst (nI 0) dX6_rule_46 (by decide) ?_
            refine wa_putI dX6_rule_47 fgX6_198 fw6_16 (by first | assumption | rfl) (by rfl) ?_
            refine wa_aload_n dX6_rule_50 rfl ?_
            refine wa_iconst (nI 0) dX6_rule_51 (by decide) ?_
            refine wa_putI dX6_rule_52 fgX6_201 fw6_17 (by first | assumption | rfl) (by rfl) ?_
            refine wa_iconst (nI 1) dX6_rule_55 (by decide) ?_
            refine wa_iret dX6_rule_56 rfl ?_
            exact hQ
        · skip
          rw [Int32.toInt_toInt64, z64, k1000] at hi_
          try (exfalso; omega)
          all_goals
            skip
            refine wa_if_neF 20 dX6_rule_14 (by decide) (by decide) ?_
            refine wa_bipush (-2) dX6_rule_17 (by decide) ?_
            refine wa_iret dX6_rule_19 rfl ?_
            exact ⟨rfl, hrel.up⟩
  · try simp (disch := omega) only [nI_toInt, Int32.toInt_toInt64] at c2_1
    refine wa_iload_n dX5_rule_5 rfl ?_
    refine wa_if_lt 16 dX5_rule_6 (by decide) (fun c6_2 => ?_) (fun c6_2 => ?_)
    · try simp (disch := omega) only [nI_toInt, Int32.toInt_toInt64] at c6_2
      refine wa_bipush (-2) dX5_rule_16 (by decide) ?_
      refine wa_iret dX5_rule_18 rfl ?_
      skip
      refine MW_of (by decide) [some (.ref 73), some (.int a), some (.int b), some (.int e)] rfl (Nat.le_of_ble_eq_true rfl) ?_
      refine wa_iload_n dX6_rule_0 rfl ?_
      refine wa_iload_n dX6_rule_1 rfl ?_
      refine wa_ic_le 17 dX6_rule_2 (by decide) (fun c2_1 => ?_) (fun c2_1 => ?_)
      · try simp (disch := omega) only [nI_toInt, Int32.toInt_toInt64, not_true_eq_false] at c2_1
        try (exfalso; omega)
        all_goals
          skip
          refine wa_bipush (-2) dX6_rule_17 (by decide) ?_
          refine wa_iret dX6_rule_19 rfl ?_
          exact ⟨rfl, hrel.up⟩
      · try simp (disch := omega) only [nI_toInt, Int32.toInt_toInt64, not_true_eq_false] at c2_1
        try (exfalso; omega)
        all_goals
          skip
          refine wa_iload_n dX6_rule_5 rfl ?_
          refine wa_i2l dX6_rule_6 ?_
          refine wa_lconst (0) dX6_rule_7 (by decide) ?_
          refine wa_ldc2 (1000) dX6_rule_8 lcX6_133 ?_
          refine wa_callS3 (k' := kX6_in) (d' := 0) dX6_rule_11 lmX6_60 ksX6_in (by decide) (by omega) (Nat.le_of_ble_eq_true rfl) ?_
          refine wp_X6_in (fun hi_ => ?_) (fun hi_ => ?_)
          · skip
            rw [Int32.toInt_toInt64, z64, k1000] at hi_
            try (exfalso; omega)
            all_goals
              skip
              refine wa_if_neT 20 dX6_rule_14 (by decide) (by decide) ?_
              refine wa_aload_n dX6_rule_20 rfl ?_
              refine wa_iload_n dX6_rule_21 rfl ?_
              refine wa_putI dX6_rule_22 fgX6_39 fw6_11 (by first | assumption | rfl) (by rfl) ?_
              refine wa_aload_n dX6_rule_25 rfl ?_
              refine wa_iload_n dX6_rule_26 rfl ?_
              refine wa_putI dX6_rule_27 fgX6_43 fw6_12 (by first | assumption | rfl) (by rfl) ?_
              refine wa_aload_n dX6_rule_30 rfl ?_
              refine wa_iload_n dX6_rule_31 rfl ?_
              refine wa_putI dX6_rule_32 fgX6_189 fw6_13 (by first | assumption | rfl) (by rfl) ?_
              refine wa_aload_n dX6_rule_35 rfl ?_
              refine wa_iconst (nI 0) dX6_rule_36 (by decide) ?_
              refine wa_putI dX6_rule_37 fgX6_192 fw6_14 (by first | assumption | rfl) (by rfl) ?_
              refine wa_aload_n dX6_rule_40 rfl ?_
              refine wa_iconst (nI 0) dX6_rule_41 (by decide) ?_
              refine wa_putI dX6_rule_42 fgX6_195 fw6_15 (by first | assumption | rfl) (by rfl) ?_
              refine wa_aload_n dX6_rule_45 rfl ?_
              refine wa_iconst (nI 0) dX6_rule_46 (by decide) ?_
              refine wa_putI dX6_rule_47 fgX6_198 fw6_16 (by first | assumption | rfl) (by rfl) ?_
              refine wa_aload_n dX6_rule_50 rfl ?_
              refine wa_iconst (nI 0) dX6_rule_51 (by decide) ?_
              refine wa_putI dX6_rule_52 fgX6_201 fw6_17 (by first | assumption | rfl) (by rfl) ?_
              refine wa_iconst (nI 1) dX6_rule_55 (by decide) ?_
              refine wa_iret dX6_rule_56 rfl ?_
              exact hQ
          · skip
            rw [Int32.toInt_toInt64, z64, k1000] at hi_
            try (exfalso; omega)
            all_goals
              skip
              refine wa_if_neF 20 dX6_rule_14 (by decide) (by decide) ?_
              refine wa_bipush (-2) dX6_rule_17 (by decide) ?_
              refine wa_iret dX6_rule_19 rfl ?_
              exact ⟨rfl, hrel.up⟩
    · try simp (disch := omega) only [nI_toInt, Int32.toInt_toInt64] at c6_2
      refine wa_iload_n dX5_rule_9 rfl ?_
      refine wa_sipush (nI 1000) dX5_rule_10 (by decide) ?_
      refine wa_ic_le 19 dX5_rule_13 (by decide) (fun c13_3 => ?_) (fun c13_3 => ?_)
      · try simp (disch := omega) only [nI_toInt, Int32.toInt_toInt64] at c13_3
        refine wa_aload_n dX5_rule_19 rfl ?_
        refine wa_getR dX5_rule_20 fgX5_33 (by first | assumption | rfl) (by rfl) ?_
        refine wa_iload_n dX5_rule_23 rfl ?_
        refine wa_iload_n dX5_rule_24 rfl ?_
        refine wa_iload_n dX5_rule_25 rfl ?_
        refine wa_callV3 (k' := kX4_begin) (d' := 0) dX5_rule_26 lmX5_215 kvX4_begin (by first | assumption | rfl) (by rfl) (by decide) (by omega) (Nat.le_of_ble_eq_true rfl) ?_
        refine wp_X4_begin ?_
        refine wa_iconst (nI 1) dX5_rule_29 (by decide) ?_
        refine wa_iret dX5_rule_30 rfl ?_
        skip
        refine MW_of (by decide) [some (.ref 73), some (.int a), some (.int b), some (.int e)] rfl (Nat.le_of_ble_eq_true rfl) ?_
        refine wa_iload_n dX6_rule_0 rfl ?_
        refine wa_iload_n dX6_rule_1 rfl ?_
        refine wa_ic_le 17 dX6_rule_2 (by decide) (fun c2_1 => ?_) (fun c2_1 => ?_)
        · try simp (disch := omega) only [nI_toInt, Int32.toInt_toInt64, not_true_eq_false] at c2_1
          try (exfalso; omega)
          all_goals
            skip
            refine wa_bipush (-2) dX6_rule_17 (by decide) ?_
            refine wa_iret dX6_rule_19 rfl ?_
            exact hQ
        · try simp (disch := omega) only [nI_toInt, Int32.toInt_toInt64, not_true_eq_false] at c2_1
          try (exfalso; omega)
          all_goals
            skip
            refine wa_iload_n dX6_rule_5 rfl ?_
            refine wa_i2l dX6_rule_6 ?_
            refine wa_lconst (0) dX6_rule_7 (by decide) ?_
            refine wa_ldc2 (1000) dX6_rule_8 lcX6_133 ?_
            refine wa_callS3 (k' := kX6_in) (d' := 0) dX6_rule_11 lmX6_60 ksX6_in (by decide) (by omega) (Nat.le_of_ble_eq_true rfl) ?_
            refine wp_X6_in (fun hi_ => ?_) (fun hi_ => ?_)
            · skip
              rw [Int32.toInt_toInt64, z64, k1000] at hi_
              try (exfalso; omega)
              all_goals
                skip
                refine wa_if_neT 20 dX6_rule_14 (by decide) (by decide) ?_
                refine wa_aload_n dX6_rule_20 rfl ?_
                refine wa_iload_n dX6_rule_21 rfl ?_
                refine wa_putI dX6_rule_22 fgX6_39 fw6_11 (by first | assumption | rfl) (by rfl) ?_
                refine wa_aload_n dX6_rule_25 rfl ?_
                refine wa_iload_n dX6_rule_26 rfl ?_
                refine wa_putI dX6_rule_27 fgX6_43 fw6_12 (by first | assumption | rfl) (by rfl) ?_
                refine wa_aload_n dX6_rule_30 rfl ?_
                refine wa_iload_n dX6_rule_31 rfl ?_
                refine wa_putI dX6_rule_32 fgX6_189 fw6_13 (by first | assumption | rfl) (by rfl) ?_
                refine wa_aload_n dX6_rule_35 rfl ?_
                refine wa_iconst (nI 0) dX6_rule_36 (by decide) ?_
                refine wa_putI dX6_rule_37 fgX6_192 fw6_14 (by first | assumption | rfl) (by rfl) ?_
                refine wa_aload_n dX6_rule_40 rfl ?_
                refine wa_iconst (nI 0) dX6_rule_41 (by decide) ?_
                refine wa_putI dX6_rule_42 fgX6_195 fw6_15 (by first | assumption | rfl) (by rfl) ?_
                refine wa_aload_n dX6_rule_45 rfl ?_
                refine wa_iconst (nI 0) dX6_rule_46 (by decide) ?_
                refine wa_putI dX6_rule_47 fgX6_198 fw6_16 (by first | assumption | rfl) (by rfl) ?_
                refine wa_aload_n dX6_rule_50 rfl ?_
                refine wa_iconst (nI 0) dX6_rule_51 (by decide) ?_
                refine wa_putI dX6_rule_52 fgX6_201 fw6_17 (by first | assumption | rfl) (by rfl) ?_
                refine wa_iconst (nI 1) dX6_rule_55 (by decide) ?_
                refine wa_iret dX6_rule_56 rfl ?_
                refine ⟨rfl, ?_⟩
                refine Rel_W hrel ?relw ?fs ?fr ?fp ?fm
                case fs =>
                  intro j_ hj_
                  refine ⟨?_, ?_, ?_, ?_, ?_, ?_, fun i_ hi_ => ?_, fun i_ hi_ => ?_⟩
                  all_goals
                    simp (disch := omega) only [sI_off, bI_off, sL_off, bL_off, r1l, r2l, rb1l, rb2l, r1m, r2m, rb1e, rb2e,r1e]
                case fr =>
                  intro r_ hr_
                  refine ⟨?_, ?_, ?_, fun i_ hi_ => ?_⟩
                  all_goals
                    simp (disch := omega) only [sI_off, bI_off, sL_off, bL_off, r1l, r2l, rb1l, rb2l, r1m, r2m, rb1e, rb2e,r1e]
                case fp =>
                  refine ⟨?_, ?_, ?_, ?_, ?_⟩
                  all_goals
                    simp (disch := omega) only [sI_off, bI_off, sL_off, bL_off, r1l, r2l, rb1l, rb2l, r1m, r2m, rb1e, rb2e,r1e]
                case fm =>
                  refine ⟨?_, ?_, fun q_ ha_ hb_ => ?_⟩
                  all_goals
                    simp (disch := omega) only [sI_off, bI_off, sL_off, bL_off, r1l, r2l, rb1l, rb2l, r1m, r2m, rb1e, rb2e,r1e]
                case relw =>
                  refine ⟨0, 0, 0, by omega, by omega, by omega, by omega, ?_, ?_, ?_, ?_, ?_, ?_, ?_, ?_, ?_, ?_⟩
                  all_goals simp (disch := omega) only [sI_off, bI_off, sL_off, bL_off, r1l, r2l, rb1l, rb2l, r1m, r2m, rb1e, rb2e, r1e, r2e]
            · skip
              rw [Int32.toInt_toInt64, z64, k1000] at hi_
              try (exfalso; omega)
              all_goals
                skip
                refine wa_if_neF 20 dX6_rule_14 (by decide) (by decide) ?_
                refine wa_bipush (-2) dX6_rule_17 (by decide) ?_
                refine wa_iret dX6_rule_19 rfl ?_
                exact hQ
      · try simp (disch := omega) only [nI_toInt, Int32.toInt_toInt64] at c13_3
        refine wa_bipush (-2) dX5_rule_16 (by decide) ?_
        refine wa_iret dX5_rule_18 rfl ?_
        skip
        refine MW_of (by decide) [some (.ref 73), some (.int a), some (.int b), some (.int e)] rfl (Nat.le_of_ble_eq_true rfl) ?_
        refine wa_iload_n dX6_rule_0 rfl ?_
        refine wa_iload_n dX6_rule_1 rfl ?_
        refine wa_ic_le 17 dX6_rule_2 (by decide) (fun c2_1 => ?_) (fun c2_1 => ?_)
        · try simp (disch := omega) only [nI_toInt, Int32.toInt_toInt64, not_true_eq_false] at c2_1
          try (exfalso; omega)
          all_goals
            skip
            refine wa_bipush (-2) dX6_rule_17 (by decide) ?_
            refine wa_iret dX6_rule_19 rfl ?_
            exact ⟨rfl, hrel.up⟩
        · try simp (disch := omega) only [nI_toInt, Int32.toInt_toInt64, not_true_eq_false] at c2_1
          try (exfalso; omega)
          all_goals
            skip
            refine wa_iload_n dX6_rule_5 rfl ?_
            refine wa_i2l dX6_rule_6 ?_
            refine wa_lconst (0) dX6_rule_7 (by decide) ?_
            refine wa_ldc2 (1000) dX6_rule_8 lcX6_133 ?_
            refine wa_callS3 (k' := kX6_in) (d' := 0) dX6_rule_11 lmX6_60 ksX6_in (by decide) (by omega) (Nat.le_of_ble_eq_true rfl) ?_
            refine wp_X6_in (fun hi_ => ?_) (fun hi_ => ?_)
            · skip
              rw [Int32.toInt_toInt64, z64, k1000] at hi_
              try (exfalso; omega)
              all_goals
                skip
                refine wa_if_neT 20 dX6_rule_14 (by decide) (by decide) ?_
                refine wa_aload_n dX6_rule_20 rfl ?_
                refine wa_iload_n dX6_rule_21 rfl ?_
                refine wa_putI dX6_rule_22 fgX6_39 fw6_11 (by first | assumption | rfl) (by rfl) ?_
                refine wa_aload_n dX6_rule_25 rfl ?_
                refine wa_iload_n dX6_rule_26 rfl ?_
                refine wa_putI dX6_rule_27 fgX6_43 fw6_12 (by first | assumption | rfl) (by rfl) ?_
                refine wa_aload_n dX6_rule_30 rfl ?_
                refine wa_iload_n dX6_rule_31 rfl ?_
                refine wa_putI dX6_rule_32 fgX6_189 fw6_13 (by first | assumption | rfl) (by rfl) ?_
                refine wa_aload_n dX6_rule_35 rfl ?_
                refine wa_iconst (nI 0) dX6_rule_36 (by decide) ?_
                refine wa_putI dX6_rule_37 fgX6_192 fw6_14 (by first | assumption | rfl) (by rfl) ?_
                refine wa_aload_n dX6_rule_40 rfl ?_
                refine wa_iconst (nI 0) dX6_rule_41 (by decide) ?_
                refine wa_putI dX6_rule_42 fgX6_195 fw6_15 (by first | assumption | rfl) (by rfl) ?_
                refine wa_aload_n dX6_rule_45 rfl ?_
                refine wa_iconst (nI 0) dX6_rule_46 (by decide) ?_
                refine wa_putI dX6_rule_47 fgX6_198 fw6_16 (by first | assumption | rfl) (by rfl) ?_
                refine wa_aload_n dX6_rule_50 rfl ?_
                refine wa_iconst (nI 0) dX6_rule_51 (by decide) ?_
                refine wa_putI dX6_rule_52 fgX6_201 fw6_17 (by first | assumption | rfl) (by rfl) ?_
                refine wa_iconst (nI 1) dX6_rule_55 (by decide) ?_
                refine wa_iret dX6_rule_56 rfl ?_
                exact hQ
            · skip
              rw [Int32.toInt_toInt64, z64, k1000] at hi_
              try (exfalso; omega)
              all_goals
                skip
                refine wa_if_neF 20 dX6_rule_14 (by decide) (by decide) ?_
                refine wa_bipush (-2) dX6_rule_17 (by decide) ?_
                refine wa_iret dX6_rule_19 rfl ?_
                exact ⟨rfl, hrel.up⟩
theorem pr_hear (v : Int32) : PR kX5_hear kX6_hear [.int v] := by
  intro N μ d c hd hc hN hrel
  obtain ⟨x_, c_, a_, q1_, q2_, q3_, q4_, w1_, w2_, w3_, w4_, w5_, w6_, w7_, w8_, w9_, w10_⟩ := hrel.2.2.2.1
  have hx_ : ∃ y, wNx v (μ.1 4 0) (μ.1 4 1) (μ.1 4 3) = y ∧ (((μ.1 4 0).toInt ≤ v.toInt ∧ y = nI 1) ∨ (¬ (μ.1 4 0).toInt ≤ v.toInt ∧ v.toInt ≤ (μ.1 4 1).toInt ∧ y = nI 0) ∨ (¬ (μ.1 4 0).toInt ≤ v.toInt ∧ ¬ v.toInt ≤ (μ.1 4 1).toInt ∧ y = μ.1 4 3)) := by
    refine ⟨_, rfl, ?_⟩
    unfold wNx
    by_cases h1_ : (μ.1 4 0).toInt ≤ v.toInt
    · rw [if_pos h1_]; exact Or.inl ⟨h1_, rfl⟩
    · by_cases h2_ : v.toInt ≤ (μ.1 4 1).toInt
      · rw [if_neg h1_, if_pos h2_]; exact Or.inr (Or.inl ⟨h1_, h2_, rfl⟩)
      · rw [if_neg h1_, if_neg h2_]; exact Or.inr (Or.inr ⟨h1_, h2_, rfl⟩)
  obtain ⟨y_, hy_, hx_⟩ := hx_
  refine MW_of (by decide) [some (.ref 0), some (.int v)] rfl (Nat.le_of_ble_eq_true rfl) ?_
  refine wa_aload_n dX5_hear_0 rfl ?_
  refine wa_getR dX5_hear_1 fgX5_33 (by first | assumption | rfl) (by rfl) ?_
  refine wa_iload_n dX5_hear_4 rfl ?_
  refine wa_callV1 (k' := kX4_take) (d' := 0) dX5_hear_5 lmX5_218 kvX4_take (by first | assumption | rfl) (by rfl) (by decide) (by omega) (Nat.le_of_ble_eq_true rfl) ?_
  refine wp_X4_take (fun ha_ hb_ => ?_) (fun ha_ => ?_)
  · skip
    rw [hy_] at ha_; rw [w5_, w7_, w9_] at hb_
    refine wa_aload_n dX5_hear_8 rfl ?_
    refine wa_getR dX5_hear_9 fgX5_33 (by first | assumption | rfl) (by rfl) ?_
    refine wa_callV0 (k' := kX4_state) (d' := 0) dX5_hear_12 lmX5_220 kvX4_state (by first | assumption | rfl) (by rfl) (by decide) (by omega) (Nat.le_of_ble_eq_true rfl) ?_
    refine wp_X4_state ?_
    refine wa_iret dX5_hear_15 rfl ?_
    rw [hy_]
    rcases hx_ with ⟨h1_, hy0_⟩ | ⟨h1_, h2_, hy0_⟩ | ⟨h1_, h2_, hy0_⟩ <;> subst hy0_
    · skip
      try simp (disch := omega) only [nI_toInt] at ha_
      try simp (disch := omega) only [nI_toInt] at hb_
      refine MW_of (by decide) [some (.ref 73), some (.int v), none, none] rfl (Nat.le_of_ble_eq_true rfl) ?_
      refine wa_aload_n dX6_hear_0 rfl ?_
      first | refine wa_dupr dX6_hear_1 ?_ | refine wa_dupi dX6_hear_1 ?_
      refine wa_getI dX6_hear_2 fgX6_192 (by first | assumption | rfl) (by rfl) ?_
      refine wa_iconst (nI 1) dX6_hear_5 (by decide) ?_
      refine wa_iadd dX6_hear_6 ?_
      refine wa_putI dX6_hear_7 fgX6_192 fw6_14 (by first | assumption | rfl) (by rfl) ?_
      refine wa_iload_n dX6_hear_10 rfl ?_
      refine wa_aload_n dX6_hear_11 rfl ?_
      refine wa_getI dX6_hear_12 fgX6_39 (by first | assumption | rfl) (by rfl) ?_
      refine wa_ic_lt 22 dX6_hear_15 (by decide) (fun c15_1 => ?_) (fun c15_1 => ?_)
      · try simp (disch := omega) only [nI_toInt, Int32.toInt_toInt64, not_true_eq_false, sI_off, r1e, r1m, w1_, w2_, w3_, w4_, w5_, w6_, w7_, w8_, w9_, w10_] at c15_1
        try (exfalso; omega)
        all_goals
          skip
          refine wa_iload_n dX6_hear_22 rfl ?_
          refine wa_aload_n dX6_hear_23 rfl ?_
          refine wa_getI dX6_hear_24 fgX6_43 (by first | assumption | rfl) (by rfl) ?_
          refine wa_ic_gt 34 dX6_hear_27 (by decide) (fun c27_2 => ?_) (fun c27_2 => ?_)
          · try simp (disch := omega) only [nI_toInt, Int32.toInt_toInt64, not_true_eq_false, sI_off, r1e, r1m, w1_, w2_, w3_, w4_, w5_, w6_, w7_, w8_, w9_, w10_] at c27_2
            try (exfalso; omega)
            all_goals
              skip
              refine wa_aload_n dX6_hear_34 rfl ?_
              refine wa_getI dX6_hear_35 fgX6_201 (by first | assumption | rfl) (by rfl) ?_
              refine wa_istore_n dX6_hear_38 (by decide) ?_
              refine wa_aload_n dX6_hear_39 rfl ?_
              refine wa_getI dX6_hear_40 fgX6_198 (by first | assumption | rfl) (by rfl) ?_
              refine wa_if_le 66 dX6_hear_43 (by decide) (fun c43_3 => ?_) (fun c43_3 => ?_)
              · try simp (disch := omega) only [nI_toInt, Int32.toInt_toInt64, not_true_eq_false, sI_off, r1e, r1m, w1_, w2_, w3_, w4_, w5_, w6_, w7_, w8_, w9_, w10_] at c43_3
                try (exfalso; omega)
                all_goals
                  skip
                  refine wa_iconst (nI 0) dX6_hear_66 (by decide) ?_
                  refine wa_istore_n dX6_hear_67 (by decide) ?_
                  refine wa_iload_n dX6_hear_68 rfl ?_
                  refine wa_aload_n dX6_hear_69 rfl ?_
                  refine wa_getI dX6_hear_70 fgX6_201 (by first | assumption | rfl) (by rfl) ?_
                  refine wa_ic_eq 103 dX6_hear_73 (by decide) (fun c73_4 => ?_) (fun c73_4 => ?_)
                  · try simp (disch := omega) only [nI_toInt, Int32.toInt_toInt64, not_true_eq_false, sI_off, r1e, r1m, w1_, w2_, w3_, w4_, w5_, w6_, w7_, w8_, w9_, w10_] at c73_4
                    try (exfalso; omega)
                    all_goals
                      skip
                      refine wa_aload_n dX6_hear_103 rfl ?_
                      refine wa_getI dX6_hear_104 fgX6_201 (by first | assumption | rfl) (by rfl) ?_
                      refine wa_iret dX6_hear_107 rfl ?_
                      refine ⟨?_, ?_⟩
                      · simp (disch := omega) only [sI_off, r1e, r1m, w4_]
                      · skip
                        refine Rel_W hrel ?relw ?fs ?fr ?fp ?fm
                        case fs =>
                          intro j_ hj_
                          refine ⟨?_, ?_, ?_, ?_, ?_, ?_, fun i_ hi_ => ?_, fun i_ hi_ => ?_⟩
                          all_goals
                            simp (disch := omega) only [sI_off, bI_off, sL_off, bL_off, r1l, r2l, rb1l, rb2l, r1m, r2m, rb1e, rb2e,r1e]
                        case fr =>
                          intro r_ hr_
                          refine ⟨?_, ?_, ?_, fun i_ hi_ => ?_⟩
                          all_goals
                            simp (disch := omega) only [sI_off, bI_off, sL_off, bL_off, r1l, r2l, rb1l, rb2l, r1m, r2m, rb1e, rb2e,r1e]
                        case fp =>
                          refine ⟨?_, ?_, ?_, ?_, ?_⟩
                          all_goals
                            simp (disch := omega) only [sI_off, bI_off, sL_off, bL_off, r1l, r2l, rb1l, rb2l, r1m, r2m, rb1e, rb2e,r1e]
                        case fm =>
                          refine ⟨?_, ?_, fun q_ ha_ hb_ => ?_⟩
                          all_goals
                            simp (disch := omega) only [sI_off, bI_off, sL_off, bL_off, r1l, r2l, rb1l, rb2l, r1m, r2m, rb1e, rb2e,r1e]
                        case relw =>
                          refine ⟨x_ + 1, (c_ + 1), (x_ + 1), by omega, by omega, by omega, by omega, ?_, ?_, ?_, ?_, ?_, ?_, ?_, ?_, ?_, ?_⟩
                          all_goals simp (disch := omega) only [sI_off, r1e, r1m, w1_, w2_, w3_, w4_, w5_, w6_, w7_, w8_, w9_, w10_, nI_add]
                  · try simp (disch := omega) only [nI_toInt, Int32.toInt_toInt64, not_true_eq_false, sI_off, r1e, r1m, w1_, w2_, w3_, w4_, w5_, w6_, w7_, w8_, w9_, w10_] at c73_4
                    try (exfalso; omega)
                    all_goals
                      skip
                      refine wa_iload_n dX6_hear_76 rfl ?_
                      refine wa_if_neF 103 dX6_hear_77 (by decide) (by decide) ?_
                      refine wa_aload_n dX6_hear_80 rfl ?_
                      refine wa_iload_n dX6_hear_81 rfl ?_
                      refine wa_putI dX6_hear_82 fgX6_201 fw6_17 (by first | assumption | rfl) (by rfl) ?_
                      refine wa_aload_n dX6_hear_85 rfl ?_
                      refine wa_aload_n dX6_hear_86 rfl ?_
                      refine wa_getI dX6_hear_87 fgX6_192 (by first | assumption | rfl) (by rfl) ?_
                      refine wa_putI dX6_hear_90 fgX6_198 fw6_16 (by first | assumption | rfl) (by rfl) ?_
                      refine wa_aload_n dX6_hear_93 rfl ?_
                      first | refine wa_dupr dX6_hear_94 ?_ | refine wa_dupi dX6_hear_94 ?_
                      refine wa_getI dX6_hear_95 fgX6_195 (by first | assumption | rfl) (by rfl) ?_
                      refine wa_iconst (nI 1) dX6_hear_98 (by decide) ?_
                      refine wa_iadd dX6_hear_99 ?_
                      refine wa_putI dX6_hear_100 fgX6_195 fw6_15 (by first | assumption | rfl) (by rfl) ?_
                      refine wa_aload_n dX6_hear_103 rfl ?_
                      refine wa_getI dX6_hear_104 fgX6_201 (by first | assumption | rfl) (by rfl) ?_
                      refine wa_iret dX6_hear_107 rfl ?_
                      refine ⟨?_, ?_⟩
                      · simp (disch := omega) only [sI_off, r1e, r1m, w4_]
                      · skip
                        refine Rel_W hrel ?relw ?fs ?fr ?fp ?fm
                        case fs =>
                          intro j_ hj_
                          refine ⟨?_, ?_, ?_, ?_, ?_, ?_, fun i_ hi_ => ?_, fun i_ hi_ => ?_⟩
                          all_goals
                            simp (disch := omega) only [sI_off, bI_off, sL_off, bL_off, r1l, r2l, rb1l, rb2l, r1m, r2m, rb1e, rb2e,r1e]
                        case fr =>
                          intro r_ hr_
                          refine ⟨?_, ?_, ?_, fun i_ hi_ => ?_⟩
                          all_goals
                            simp (disch := omega) only [sI_off, bI_off, sL_off, bL_off, r1l, r2l, rb1l, rb2l, r1m, r2m, rb1e, rb2e,r1e]
                        case fp =>
                          refine ⟨?_, ?_, ?_, ?_, ?_⟩
                          all_goals
                            simp (disch := omega) only [sI_off, bI_off, sL_off, bL_off, r1l, r2l, rb1l, rb2l, r1m, r2m, rb1e, rb2e,r1e]
                        case fm =>
                          refine ⟨?_, ?_, fun q_ ha_ hb_ => ?_⟩
                          all_goals
                            simp (disch := omega) only [sI_off, bI_off, sL_off, bL_off, r1l, r2l, rb1l, rb2l, r1m, r2m, rb1e, rb2e,r1e]
                        case relw =>
                          refine ⟨x_ + 1, (c_ + 1), (x_ + 1), by omega, by omega, by omega, by omega, ?_, ?_, ?_, ?_, ?_, ?_, ?_, ?_, ?_, ?_⟩
                          all_goals simp (disch := omega) only [sI_off, r1e, r1m, w1_, w2_, w3_, w4_, w5_, w6_, w7_, w8_, w9_, w10_, nI_add]
              · try simp (disch := omega) only [nI_toInt, Int32.toInt_toInt64, not_true_eq_false, sI_off, r1e, r1m, w1_, w2_, w3_, w4_, w5_, w6_, w7_, w8_, w9_, w10_] at c43_3
                try (exfalso; omega)
                all_goals
                  skip
                  refine wa_aload_n dX6_hear_46 rfl ?_
                  refine wa_getI dX6_hear_47 fgX6_192 (by first | assumption | rfl) (by rfl) ?_
                  refine wa_aload_n dX6_hear_50 rfl ?_
                  refine wa_getI dX6_hear_51 fgX6_198 (by first | assumption | rfl) (by rfl) ?_
                  refine wa_isub dX6_hear_54 ?_
                  refine wa_aload_n dX6_hear_55 rfl ?_
                  refine wa_getI dX6_hear_56 fgX6_189 (by first | assumption | rfl) (by rfl) ?_
                  refine wa_ic_gt 66 dX6_hear_59 (by decide) (fun c59_5 => ?_) (fun c59_5 => ?_)
                  · try simp (disch := omega) only [nI_toInt, Int32.toInt_toInt64, not_true_eq_false, sI_off, r1e, r1m, w1_, w2_, w3_, w4_, w5_, w6_, w7_, w8_, w9_, w10_] at c59_5
                    try (exfalso; omega)
                    all_goals
                      skip
                      refine wa_iconst (nI 0) dX6_hear_66 (by decide) ?_
                      refine wa_istore_n dX6_hear_67 (by decide) ?_
                      refine wa_iload_n dX6_hear_68 rfl ?_
                      refine wa_aload_n dX6_hear_69 rfl ?_
                      refine wa_getI dX6_hear_70 fgX6_201 (by first | assumption | rfl) (by rfl) ?_
                      refine wa_ic_eq 103 dX6_hear_73 (by decide) (fun c73_6 => ?_) (fun c73_6 => ?_)
                      · try simp (disch := omega) only [nI_toInt, Int32.toInt_toInt64, not_true_eq_false, sI_off, r1e, r1m, w1_, w2_, w3_, w4_, w5_, w6_, w7_, w8_, w9_, w10_] at c73_6
                        try (exfalso; omega)
                        all_goals
                          skip
                          refine wa_aload_n dX6_hear_103 rfl ?_
                          refine wa_getI dX6_hear_104 fgX6_201 (by first | assumption | rfl) (by rfl) ?_
                          refine wa_iret dX6_hear_107 rfl ?_
                          refine ⟨?_, ?_⟩
                          · simp (disch := omega) only [sI_off, r1e, r1m, w4_]
                          · skip
                            refine Rel_W hrel ?relw ?fs ?fr ?fp ?fm
                            case fs =>
                              intro j_ hj_
                              refine ⟨?_, ?_, ?_, ?_, ?_, ?_, fun i_ hi_ => ?_, fun i_ hi_ => ?_⟩
                              all_goals
                                simp (disch := omega) only [sI_off, bI_off, sL_off, bL_off, r1l, r2l, rb1l, rb2l, r1m, r2m, rb1e, rb2e,r1e]
                            case fr =>
                              intro r_ hr_
                              refine ⟨?_, ?_, ?_, fun i_ hi_ => ?_⟩
                              all_goals
                                simp (disch := omega) only [sI_off, bI_off, sL_off, bL_off, r1l, r2l, rb1l, rb2l, r1m, r2m, rb1e, rb2e,r1e]
                            case fp =>
                              refine ⟨?_, ?_, ?_, ?_, ?_⟩
                              all_goals
                                simp (disch := omega) only [sI_off, bI_off, sL_off, bL_off, r1l, r2l, rb1l, rb2l, r1m, r2m, rb1e, rb2e,r1e]
                            case fm =>
                              refine ⟨?_, ?_, fun q_ ha_ hb_ => ?_⟩
                              all_goals
                                simp (disch := omega) only [sI_off, bI_off, sL_off, bL_off, r1l, r2l, rb1l, rb2l, r1m, r2m, rb1e, rb2e,r1e]
                            case relw =>
                              refine ⟨x_ + 1, (c_ + 1), (x_ + 1), by omega, by omega, by omega, by omega, ?_, ?_, ?_, ?_, ?_, ?_, ?_, ?_, ?_, ?_⟩
                              all_goals simp (disch := omega) only [sI_off, r1e, r1m, w1_, w2_, w3_, w4_, w5_, w6_, w7_, w8_, w9_, w10_, nI_add]
                      · try simp (disch := omega) only [nI_toInt, Int32.toInt_toInt64, not_true_eq_false, sI_off, r1e, r1m, w1_, w2_, w3_, w4_, w5_, w6_, w7_, w8_, w9_, w10_] at c73_6
                        try (exfalso; omega)
                        all_goals
                          skip
                          refine wa_iload_n dX6_hear_76 rfl ?_
                          refine wa_if_neF 103 dX6_hear_77 (by decide) (by decide) ?_
                          refine wa_aload_n dX6_hear_80 rfl ?_
                          refine wa_iload_n dX6_hear_81 rfl ?_
                          refine wa_putI dX6_hear_82 fgX6_201 fw6_17 (by first | assumption | rfl) (by rfl) ?_
                          refine wa_aload_n dX6_hear_85 rfl ?_
                          refine wa_aload_n dX6_hear_86 rfl ?_
                          refine wa_getI dX6_hear_87 fgX6_192 (by first | assumption | rfl) (by rfl) ?_
                          refine wa_putI dX6_hear_90 fgX6_198 fw6_16 (by first | assumption | rfl) (by rfl) ?_
                          refine wa_aload_n dX6_hear_93 rfl ?_
                          first | refine wa_dupr dX6_hear_94 ?_ | refine wa_dupi dX6_hear_94 ?_
                          refine wa_getI dX6_hear_95 fgX6_195 (by first | assumption | rfl) (by rfl) ?_
                          refine wa_iconst (nI 1) dX6_hear_98 (by decide) ?_
                          refine wa_iadd dX6_hear_99 ?_
                          refine wa_putI dX6_hear_100 fgX6_195 fw6_15 (by first | assumption | rfl) (by rfl) ?_
                          refine wa_aload_n dX6_hear_103 rfl ?_
                          refine wa_getI dX6_hear_104 fgX6_201 (by first | assumption | rfl) (by rfl) ?_
                          refine wa_iret dX6_hear_107 rfl ?_
                          refine ⟨?_, ?_⟩
                          · simp (disch := omega) only [sI_off, r1e, r1m, w4_]
                          · skip
                            refine Rel_W hrel ?relw ?fs ?fr ?fp ?fm
                            case fs =>
                              intro j_ hj_
                              refine ⟨?_, ?_, ?_, ?_, ?_, ?_, fun i_ hi_ => ?_, fun i_ hi_ => ?_⟩
                              all_goals
                                simp (disch := omega) only [sI_off, bI_off, sL_off, bL_off, r1l, r2l, rb1l, rb2l, r1m, r2m, rb1e, rb2e,r1e]
                            case fr =>
                              intro r_ hr_
                              refine ⟨?_, ?_, ?_, fun i_ hi_ => ?_⟩
                              all_goals
                                simp (disch := omega) only [sI_off, bI_off, sL_off, bL_off, r1l, r2l, rb1l, rb2l, r1m, r2m, rb1e, rb2e,r1e]
                            case fp =>
                              refine ⟨?_, ?_, ?_, ?_, ?_⟩
                              all_goals
                                simp (disch := omega) only [sI_off, bI_off, sL_off, bL_off, r1l, r2l, rb1l, rb2l, r1m, r2m, rb1e, rb2e,r1e]
                            case fm =>
                              refine ⟨?_, ?_, fun q_ ha_ hb_ => ?_⟩
                              all_goals
                                simp (disch := omega) only [sI_off, bI_off, sL_off, bL_off, r1l, r2l, rb1l, rb2l, r1m, r2m, rb1e, rb2e,r1e]
                            case relw =>
                              refine ⟨x_ + 1, (c_ + 1), (x_ + 1), by omega, by omega, by omega, by omega, ?_, ?_, ?_, ?_, ?_, ?_, ?_, ?_, ?_, ?_⟩
                              all_goals simp (disch := omega) only [sI_off, r1e, r1m, w1_, w2_, w3_, w4_, w5_, w6_, w7_, w8_, w9_, w10_, nI_add]
                  · try simp (disch := omega) only [nI_toInt, Int32.toInt_toInt64, not_true_eq_false, sI_off, r1e, r1m, w1_, w2_, w3_, w4_, w5_, w6_, w7_, w8_, w9_, w10_] at c59_5
                    try (exfalso; omega)
                    all_goals
                      skip
                      refine wa_iconst (nI 1) dX6_hear_62 (by decide) ?_
                      refine wa_goto 67 dX6_hear_63 (by decide) ?_
                      refine wa_istore_n dX6_hear_67 (by decide) ?_
                      refine wa_iload_n dX6_hear_68 rfl ?_
                      refine wa_aload_n dX6_hear_69 rfl ?_
                      refine wa_getI dX6_hear_70 fgX6_201 (by first | assumption | rfl) (by rfl) ?_
                      refine wa_ic_eq 103 dX6_hear_73 (by decide) (fun c73_7 => ?_) (fun c73_7 => ?_)
                      · try simp (disch := omega) only [nI_toInt, Int32.toInt_toInt64, not_true_eq_false, sI_off, r1e, r1m, w1_, w2_, w3_, w4_, w5_, w6_, w7_, w8_, w9_, w10_] at c73_7
                        try (exfalso; omega)
                        all_goals
                          skip
                          refine wa_aload_n dX6_hear_103 rfl ?_
                          refine wa_getI dX6_hear_104 fgX6_201 (by first | assumption | rfl) (by rfl) ?_
                          refine wa_iret dX6_hear_107 rfl ?_
                          refine ⟨?_, ?_⟩
                          · simp (disch := omega) only [sI_off, r1e, r1m, w4_]
                          · skip
                            refine Rel_W hrel ?relw ?fs ?fr ?fp ?fm
                            case fs =>
                              intro j_ hj_
                              refine ⟨?_, ?_, ?_, ?_, ?_, ?_, fun i_ hi_ => ?_, fun i_ hi_ => ?_⟩
                              all_goals
                                simp (disch := omega) only [sI_off, bI_off, sL_off, bL_off, r1l, r2l, rb1l, rb2l, r1m, r2m, rb1e, rb2e,r1e]
                            case fr =>
                              intro r_ hr_
                              refine ⟨?_, ?_, ?_, fun i_ hi_ => ?_⟩
                              all_goals
                                simp (disch := omega) only [sI_off, bI_off, sL_off, bL_off, r1l, r2l, rb1l, rb2l, r1m, r2m, rb1e, rb2e,r1e]
                            case fp =>
                              refine ⟨?_, ?_, ?_, ?_, ?_⟩
                              all_goals
                                simp (disch := omega) only [sI_off, bI_off, sL_off, bL_off, r1l, r2l, rb1l, rb2l, r1m, r2m, rb1e, rb2e,r1e]
                            case fm =>
                              refine ⟨?_, ?_, fun q_ ha_ hb_ => ?_⟩
                              all_goals
                                simp (disch := omega) only [sI_off, bI_off, sL_off, bL_off, r1l, r2l, rb1l, rb2l, r1m, r2m, rb1e, rb2e,r1e]
                            case relw =>
                              refine ⟨x_ + 1, (c_ + 1), (x_ + 1), by omega, by omega, by omega, by omega, ?_, ?_, ?_, ?_, ?_, ?_, ?_, ?_, ?_, ?_⟩
                              all_goals simp (disch := omega) only [sI_off, r1e, r1m, w1_, w2_, w3_, w4_, w5_, w6_, w7_, w8_, w9_, w10_, nI_add]
                      · try simp (disch := omega) only [nI_toInt, Int32.toInt_toInt64, not_true_eq_false, sI_off, r1e, r1m, w1_, w2_, w3_, w4_, w5_, w6_, w7_, w8_, w9_, w10_] at c73_7
                        try (exfalso; omega)
                        all_goals
                          skip
                          refine wa_iload_n dX6_hear_76 rfl ?_
                          refine wa_if_neT 103 dX6_hear_77 (by decide) (by decide) ?_
                          refine wa_aload_n dX6_hear_103 rfl ?_
                          refine wa_getI dX6_hear_104 fgX6_201 (by first | assumption | rfl) (by rfl) ?_
                          refine wa_iret dX6_hear_107 rfl ?_
                          refine ⟨?_, ?_⟩
                          · simp (disch := omega) only [sI_off, r1e, r1m, w4_]
                          · skip
                            refine Rel_W hrel ?relw ?fs ?fr ?fp ?fm
                            case fs =>
                              intro j_ hj_
                              refine ⟨?_, ?_, ?_, ?_, ?_, ?_, fun i_ hi_ => ?_, fun i_ hi_ => ?_⟩
                              all_goals
                                simp (disch := omega) only [sI_off, bI_off, sL_off, bL_off, r1l, r2l, rb1l, rb2l, r1m, r2m, rb1e, rb2e,r1e]
                            case fr =>
                              intro r_ hr_
                              refine ⟨?_, ?_, ?_, fun i_ hi_ => ?_⟩
                              all_goals
                                simp (disch := omega) only [sI_off, bI_off, sL_off, bL_off, r1l, r2l, rb1l, rb2l, r1m, r2m, rb1e, rb2e,r1e]
                            case fp =>
                              refine ⟨?_, ?_, ?_, ?_, ?_⟩
                              all_goals
                                simp (disch := omega) only [sI_off, bI_off, sL_off, bL_off, r1l, r2l, rb1l, rb2l, r1m, r2m, rb1e, rb2e,r1e]
                            case fm =>
                              refine ⟨?_, ?_, fun q_ ha_ hb_ => ?_⟩
                              all_goals
                                simp (disch := omega) only [sI_off, bI_off, sL_off, bL_off, r1l, r2l, rb1l, rb2l, r1m, r2m, rb1e, rb2e,r1e]
                            case relw =>
                              refine ⟨x_ + 1, (c_ + 1), (x_ + 1), by omega, by omega, by omega, by omega, ?_, ?_, ?_, ?_, ?_, ?_, ?_, ?_, ?_, ?_⟩
                              all_goals simp (disch := omega) only [sI_off, r1e, r1m, w1_, w2_, w3_, w4_, w5_, w6_, w7_, w8_, w9_, w10_, nI_add]
          · try simp (disch := omega) only [nI_toInt, Int32.toInt_toInt64, not_true_eq_false, sI_off, r1e, r1m, w1_, w2_, w3_, w4_, w5_, w6_, w7_, w8_, w9_, w10_] at c27_2
            try (exfalso; omega)
            all_goals
              skip
              refine wa_iconst (nI 0) dX6_hear_30 (by decide) ?_
              refine wa_goto 38 dX6_hear_31 (by decide) ?_
              refine wa_istore_n dX6_hear_38 (by decide) ?_
              refine wa_aload_n dX6_hear_39 rfl ?_
              refine wa_getI dX6_hear_40 fgX6_198 (by first | assumption | rfl) (by rfl) ?_
              refine wa_if_le 66 dX6_hear_43 (by decide) (fun c43_8 => ?_) (fun c43_8 => ?_)
              · try simp (disch := omega) only [nI_toInt, Int32.toInt_toInt64, not_true_eq_false, sI_off, r1e, r1m, w1_, w2_, w3_, w4_, w5_, w6_, w7_, w8_, w9_, w10_] at c43_8
                try (exfalso; omega)
                all_goals
                  skip
                  refine wa_iconst (nI 0) dX6_hear_66 (by decide) ?_
                  refine wa_istore_n dX6_hear_67 (by decide) ?_
                  refine wa_iload_n dX6_hear_68 rfl ?_
                  refine wa_aload_n dX6_hear_69 rfl ?_
                  refine wa_getI dX6_hear_70 fgX6_201 (by first | assumption | rfl) (by rfl) ?_
                  refine wa_ic_eq 103 dX6_hear_73 (by decide) (fun c73_9 => ?_) (fun c73_9 => ?_)
                  · try simp (disch := omega) only [nI_toInt, Int32.toInt_toInt64, not_true_eq_false, sI_off, r1e, r1m, w1_, w2_, w3_, w4_, w5_, w6_, w7_, w8_, w9_, w10_] at c73_9
                    try (exfalso; omega)
                    all_goals
                      skip
                      refine wa_aload_n dX6_hear_103 rfl ?_
                      refine wa_getI dX6_hear_104 fgX6_201 (by first | assumption | rfl) (by rfl) ?_
                      refine wa_iret dX6_hear_107 rfl ?_
                      refine ⟨?_, ?_⟩
                      · simp (disch := omega) only [sI_off, r1e, r1m, w4_]
                      · skip
                        refine Rel_W hrel ?relw ?fs ?fr ?fp ?fm
                        case fs =>
                          intro j_ hj_
                          refine ⟨?_, ?_, ?_, ?_, ?_, ?_, fun i_ hi_ => ?_, fun i_ hi_ => ?_⟩
                          all_goals
                            simp (disch := omega) only [sI_off, bI_off, sL_off, bL_off, r1l, r2l, rb1l, rb2l, r1m, r2m, rb1e, rb2e,r1e]
                        case fr =>
                          intro r_ hr_
                          refine ⟨?_, ?_, ?_, fun i_ hi_ => ?_⟩
                          all_goals
                            simp (disch := omega) only [sI_off, bI_off, sL_off, bL_off, r1l, r2l, rb1l, rb2l, r1m, r2m, rb1e, rb2e,r1e]
                        case fp =>
                          refine ⟨?_, ?_, ?_, ?_, ?_⟩
                          all_goals
                            simp (disch := omega) only [sI_off, bI_off, sL_off, bL_off, r1l, r2l, rb1l, rb2l, r1m, r2m, rb1e, rb2e,r1e]
                        case fm =>
                          refine ⟨?_, ?_, fun q_ ha_ hb_ => ?_⟩
                          all_goals
                            simp (disch := omega) only [sI_off, bI_off, sL_off, bL_off, r1l, r2l, rb1l, rb2l, r1m, r2m, rb1e, rb2e,r1e]
                        case relw =>
                          refine ⟨x_ + 1, (c_ + 1), (x_ + 1), by omega, by omega, by omega, by omega, ?_, ?_, ?_, ?_, ?_, ?_, ?_, ?_, ?_, ?_⟩
                          all_goals simp (disch := omega) only [sI_off, r1e, r1m, w1_, w2_, w3_, w4_, w5_, w6_, w7_, w8_, w9_, w10_, nI_add]
                  · try simp (disch := omega) only [nI_toInt, Int32.toInt_toInt64, not_true_eq_false, sI_off, r1e, r1m, w1_, w2_, w3_, w4_, w5_, w6_, w7_, w8_, w9_, w10_] at c73_9
                    try (exfalso; omega)
                    all_goals
                      skip
                      refine wa_iload_n dX6_hear_76 rfl ?_
                      refine wa_if_neF 103 dX6_hear_77 (by decide) (by decide) ?_
                      refine wa_aload_n dX6_hear_80 rfl ?_
                      refine wa_iload_n dX6_hear_81 rfl ?_
                      refine wa_putI dX6_hear_82 fgX6_201 fw6_17 (by first | assumption | rfl) (by rfl) ?_
                      refine wa_aload_n dX6_hear_85 rfl ?_
                      refine wa_aload_n dX6_hear_86 rfl ?_
                      refine wa_getI dX6_hear_87 fgX6_192 (by first | assumption | rfl) (by rfl) ?_
                      refine wa_putI dX6_hear_90 fgX6_198 fw6_16 (by first | assumption | rfl) (by rfl) ?_
                      refine wa_aload_n dX6_hear_93 rfl ?_
                      first | refine wa_dupr dX6_hear_94 ?_ | refine wa_dupi dX6_hear_94 ?_
                      refine wa_getI dX6_hear_95 fgX6_195 (by first | assumption | rfl) (by rfl) ?_
                      refine wa_iconst (nI 1) dX6_hear_98 (by decide) ?_
                      refine wa_iadd dX6_hear_99 ?_
                      refine wa_putI dX6_hear_100 fgX6_195 fw6_15 (by first | assumption | rfl) (by rfl) ?_
                      refine wa_aload_n dX6_hear_103 rfl ?_
                      refine wa_getI dX6_hear_104 fgX6_201 (by first | assumption | rfl) (by rfl) ?_
                      refine wa_iret dX6_hear_107 rfl ?_
                      refine ⟨?_, ?_⟩
                      · simp (disch := omega) only [sI_off, r1e, r1m, w4_]
                      · skip
                        refine Rel_W hrel ?relw ?fs ?fr ?fp ?fm
                        case fs =>
                          intro j_ hj_
                          refine ⟨?_, ?_, ?_, ?_, ?_, ?_, fun i_ hi_ => ?_, fun i_ hi_ => ?_⟩
                          all_goals
                            simp (disch := omega) only [sI_off, bI_off, sL_off, bL_off, r1l, r2l, rb1l, rb2l, r1m, r2m, rb1e, rb2e,r1e]
                        case fr =>
                          intro r_ hr_
                          refine ⟨?_, ?_, ?_, fun i_ hi_ => ?_⟩
                          all_goals
                            simp (disch := omega) only [sI_off, bI_off, sL_off, bL_off, r1l, r2l, rb1l, rb2l, r1m, r2m, rb1e, rb2e,r1e]
                        case fp =>
                          refine ⟨?_, ?_, ?_, ?_, ?_⟩
                          all_goals
                            simp (disch := omega) only [sI_off, bI_off, sL_off, bL_off, r1l, r2l, rb1l, rb2l, r1m, r2m, rb1e, rb2e,r1e]
                        case fm =>
                          refine ⟨?_, ?_, fun q_ ha_ hb_ => ?_⟩
                          all_goals
                            simp (disch := omega) only [sI_off, bI_off, sL_off, bL_off, r1l, r2l, rb1l, rb2l, r1m, r2m, rb1e, rb2e,r1e]
                        case relw =>
                          refine ⟨x_ + 1, (c_ + 1), (x_ + 1), by omega, by omega, by omega, by omega, ?_, ?_, ?_, ?_, ?_, ?_, ?_, ?_, ?_, ?_⟩
                          all_goals simp (disch := omega) only [sI_off, r1e, r1m, w1_, w2_, w3_, w4_, w5_, w6_, w7_, w8_, w9_, w10_, nI_add]
              · try simp (disch := omega) only [nI_toInt, Int32.toInt_toInt64, not_true_eq_false, sI_off, r1e, r1m, w1_, w2_, w3_, w4_, w5_, w6_, w7_, w8_, w9_, w10_] at c43_8
                try (exfalso; omega)
                all_goals
                  skip
                  refine wa_aload_n dX6_hear_46 rfl ?_
                  refine wa_getI dX6_hear_47 fgX6_192 (by first | assumption | rfl) (by rfl) ?_
                  refine wa_aload_n dX6_hear_50 rfl ?_
                  refine wa_getI dX6_hear_51 fgX6_198 (by first | assumption | rfl) (by rfl) ?_
                  refine wa_isub dX6_hear_54 ?_
                  refine wa_aload_n dX6_hear_55 rfl ?_
                  refine wa_getI dX6_hear_56 fgX6_189 (by first | assumption | rfl) (by rfl) ?_
                  refine wa_ic_gt 66 dX6_hear_59 (by decide) (fun c59_10 => ?_) (fun c59_10 => ?_)
                  · try simp (disch := omega) only [nI_toInt, Int32.toInt_toInt64, not_true_eq_false, sI_off, r1e, r1m, w1_, w2_, w3_, w4_, w5_, w6_, w7_, w8_, w9_, w10_] at c59_10
                    try (exfalso; omega)
                    all_goals
                      skip
                      refine wa_iconst (nI 0) dX6_hear_66 (by decide) ?_
                      refine wa_istore_n dX6_hear_67 (by decide) ?_
                      refine wa_iload_n dX6_hear_68 rfl ?_
                      refine wa_aload_n dX6_hear_69 rfl ?_
                      refine wa_getI dX6_hear_70 fgX6_201 (by first | assumption | rfl) (by rfl) ?_
                      refine wa_ic_eq 103 dX6_hear_73 (by decide) (fun c73_11 => ?_) (fun c73_11 => ?_)
                      · try simp (disch := omega) only [nI_toInt, Int32.toInt_toInt64, not_true_eq_false, sI_off, r1e, r1m, w1_, w2_, w3_, w4_, w5_, w6_, w7_, w8_, w9_, w10_] at c73_11
                        try (exfalso; omega)
                        all_goals
                          skip
                          refine wa_aload_n dX6_hear_103 rfl ?_
                          refine wa_getI dX6_hear_104 fgX6_201 (by first | assumption | rfl) (by rfl) ?_
                          refine wa_iret dX6_hear_107 rfl ?_
                          refine ⟨?_, ?_⟩
                          · simp (disch := omega) only [sI_off, r1e, r1m, w4_]
                          · skip
                            refine Rel_W hrel ?relw ?fs ?fr ?fp ?fm
                            case fs =>
                              intro j_ hj_
                              refine ⟨?_, ?_, ?_, ?_, ?_, ?_, fun i_ hi_ => ?_, fun i_ hi_ => ?_⟩
                              all_goals
                                simp (disch := omega) only [sI_off, bI_off, sL_off, bL_off, r1l, r2l, rb1l, rb2l, r1m, r2m, rb1e, rb2e,r1e]
                            case fr =>
                              intro r_ hr_
                              refine ⟨?_, ?_, ?_, fun i_ hi_ => ?_⟩
                              all_goals
                                simp (disch := omega) only [sI_off, bI_off, sL_off, bL_off, r1l, r2l, rb1l, rb2l, r1m, r2m, rb1e, rb2e,r1e]
                            case fp =>
                              refine ⟨?_, ?_, ?_, ?_, ?_⟩
                              all_goals
                                simp (disch := omega) only [sI_off, bI_off, sL_off, bL_off, r1l, r2l, rb1l, rb2l, r1m, r2m, rb1e, rb2e,r1e]
                            case fm =>
                              refine ⟨?_, ?_, fun q_ ha_ hb_ => ?_⟩
                              all_goals
                                simp (disch := omega) only [sI_off, bI_off, sL_off, bL_off, r1l, r2l, rb1l, rb2l, r1m, r2m, rb1e, rb2e,r1e]
                            case relw =>
                              refine ⟨x_ + 1, (c_ + 1), (x_ + 1), by omega, by omega, by omega, by omega, ?_, ?_, ?_, ?_, ?_, ?_, ?_, ?_, ?_, ?_⟩
                              all_goals simp (disch := omega) only [sI_off, r1e, r1m, w1_, w2_, w3_, w4_, w5_, w6_, w7_, w8_, w9_, w10_, nI_add]
                      · try simp (disch := omega) only [nI_toInt, Int32.toInt_toInt64, not_true_eq_false, sI_off, r1e, r1m, w1_, w2_, w3_, w4_, w5_, w6_, w7_, w8_, w9_, w10_] at c73_11
                        try (exfalso; omega)
                        all_goals
                          skip
                          refine wa_iload_n dX6_hear_76 rfl ?_
                          refine wa_if_neF 103 dX6_hear_77 (by decide) (by decide) ?_
                          refine wa_aload_n dX6_hear_80 rfl ?_
                          refine wa_iload_n dX6_hear_81 rfl ?_
                          refine wa_putI dX6_hear_82 fgX6_201 fw6_17 (by first | assumption | rfl) (by rfl) ?_
                          refine wa_aload_n dX6_hear_85 rfl ?_
                          refine wa_aload_n dX6_hear_86 rfl ?_
                          refine wa_getI dX6_hear_87 fgX6_192 (by first | assumption | rfl) (by rfl) ?_
                          refine wa_putI dX6_hear_90 fgX6_198 fw6_16 (by first | assumption | rfl) (by rfl) ?_
                          refine wa_aload_n dX6_hear_93 rfl ?_
                          first | refine wa_dupr dX6_hear_94 ?_ | refine wa_dupi dX6_hear_94 ?_
                          refine wa_getI dX6_hear_95 fgX6_195 (by first | assumption | rfl) (by rfl) ?_
                          refine wa_iconst (nI 1) dX6_hear_98 (by decide) ?_
                          refine wa_iadd dX6_hear_99 ?_
                          refine wa_putI dX6_hear_100 fgX6_195 fw6_15 (by first | assumption | rfl) (by rfl) ?_
                          refine wa_aload_n dX6_hear_103 rfl ?_
                          refine wa_getI dX6_hear_104 fgX6_201 (by first | assumption | rfl) (by rfl) ?_
                          refine wa_iret dX6_hear_107 rfl ?_
                          refine ⟨?_, ?_⟩
                          · simp (disch := omega) only [sI_off, r1e, r1m, w4_]
                          · skip
                            refine Rel_W hrel ?relw ?fs ?fr ?fp ?fm
                            case fs =>
                              intro j_ hj_
                              refine ⟨?_, ?_, ?_, ?_, ?_, ?_, fun i_ hi_ => ?_, fun i_ hi_ => ?_⟩
                              all_goals
                                simp (disch := omega) only [sI_off, bI_off, sL_off, bL_off, r1l, r2l, rb1l, rb2l, r1m, r2m, rb1e, rb2e,r1e]
                            case fr =>
                              intro r_ hr_
                              refine ⟨?_, ?_, ?_, fun i_ hi_ => ?_⟩
                              all_goals
                                simp (disch := omega) only [sI_off, bI_off, sL_off, bL_off, r1l, r2l, rb1l, rb2l, r1m, r2m, rb1e, rb2e,r1e]
                            case fp =>
                              refine ⟨?_, ?_, ?_, ?_, ?_⟩
                              all_goals
                                simp (disch := omega) only [sI_off, bI_off, sL_off, bL_off, r1l, r2l, rb1l, rb2l, r1m, r2m, rb1e, rb2e,r1e]
                            case fm =>
                              refine ⟨?_, ?_, fun q_ ha_ hb_ => ?_⟩
                              all_goals
                                simp (disch := omega) only [sI_off, bI_off, sL_off, bL_off, r1l, r2l, rb1l, rb2l, r1m, r2m, rb1e, rb2e,r1e]
                            case relw =>
                              refine ⟨x_ + 1, (c_ + 1), (x_ + 1), by omega, by omega, by omega, by omega, ?_, ?_, ?_, ?_, ?_, ?_, ?_, ?_, ?_, ?_⟩
                              all_goals simp (disch := omega) only [sI_off, r1e, r1m, w1_, w2_, w3_, w4_, w5_, w6_, w7_, w8_, w9_, w10_, nI_add]
                  · try simp (disch := omega) only [nI_toInt, Int32.toInt_toInt64, not_true_eq_false, sI_off, r1e, r1m, w1_, w2_, w3_, w4_, w5_, w6_, w7_, w8_, w9_, w10_] at c59_10
                    try (exfalso; omega)
                    all_goals
                      skip
                      refine wa_iconst (nI 1) dX6_hear_62 (by decide) ?_
                      refine wa_goto 67 dX6_hear_63 (by decide) ?_
                      refine wa_istore_n dX6_hear_67 (by decide) ?_
                      refine wa_iload_n dX6_hear_68 rfl ?_
                      refine wa_aload_n dX6_hear_69 rfl ?_
                      refine wa_getI dX6_hear_70 fgX6_201 (by first | assumption | rfl) (by rfl) ?_
                      refine wa_ic_eq 103 dX6_hear_73 (by decide) (fun c73_12 => ?_) (fun c73_12 => ?_)
                      · try simp (disch := omega) only [nI_toInt, Int32.toInt_toInt64, not_true_eq_false, sI_off, r1e, r1m, w1_, w2_, w3_, w4_, w5_, w6_, w7_, w8_, w9_, w10_] at c73_12
                        try (exfalso; omega)
                        all_goals
                          skip
                          refine wa_aload_n dX6_hear_103 rfl ?_
                          refine wa_getI dX6_hear_104 fgX6_201 (by first | assumption | rfl) (by rfl) ?_
                          refine wa_iret dX6_hear_107 rfl ?_
                          refine ⟨?_, ?_⟩
                          · simp (disch := omega) only [sI_off, r1e, r1m, w4_]
                          · skip
                            refine Rel_W hrel ?relw ?fs ?fr ?fp ?fm
                            case fs =>
                              intro j_ hj_
                              refine ⟨?_, ?_, ?_, ?_, ?_, ?_, fun i_ hi_ => ?_, fun i_ hi_ => ?_⟩
                              all_goals
                                simp (disch := omega) only [sI_off, bI_off, sL_off, bL_off, r1l, r2l, rb1l, rb2l, r1m, r2m, rb1e, rb2e,r1e]
                            case fr =>
                              intro r_ hr_
                              refine ⟨?_, ?_, ?_, fun i_ hi_ => ?_⟩
                              all_goals
                                simp (disch := omega) only [sI_off, bI_off, sL_off, bL_off, r1l, r2l, rb1l, rb2l, r1m, r2m, rb1e, rb2e,r1e]
                            case fp =>
                              refine ⟨?_, ?_, ?_, ?_, ?_⟩
                              all_goals
                                simp (disch := omega) only [sI_off, bI_off, sL_off, bL_off, r1l, r2l, rb1l, rb2l, r1m, r2m, rb1e, rb2e,r1e]
                            case fm =>
                              refine ⟨?_, ?_, fun q_ ha_ hb_ => ?_⟩
                              all_goals
                                simp (disch := omega) only [sI_off, bI_off, sL_off, bL_off, r1l, r2l, rb1l, rb2l, r1m, r2m, rb1e, rb2e,r1e]
                            case relw =>
                              refine ⟨x_ + 1, (c_ + 1), (x_ + 1), by omega, by omega, by omega, by omega, ?_, ?_, ?_, ?_, ?_, ?_, ?_, ?_, ?_, ?_⟩
                              all_goals simp (disch := omega) only [sI_off, r1e, r1m, w1_, w2_, w3_, w4_, w5_, w6_, w7_, w8_, w9_, w10_, nI_add]
                      · try simp (disch := omega) only [nI_toInt, Int32.toInt_toInt64, not_true_eq_false, sI_off, r1e, r1m, w1_, w2_, w3_, w4_, w5_, w6_, w7_, w8_, w9_, w10_] at c73_12
                        try (exfalso; omega)
                        all_goals
                          skip
                          refine wa_iload_n dX6_hear_76 rfl ?_
                          refine wa_if_neT 103 dX6_hear_77 (by decide) (by decide) ?_
                          refine wa_aload_n dX6_hear_103 rfl ?_
                          refine wa_getI dX6_hear_104 fgX6_201 (by first | assumption | rfl) (by rfl) ?_
                          refine wa_iret dX6_hear_107 rfl ?_
                          refine ⟨?_, ?_⟩
                          · simp (disch := omega) only [sI_off, r1e, r1m, w4_]
                          · skip
                            refine Rel_W hrel ?relw ?fs ?fr ?fp ?fm
                            case fs =>
                              intro j_ hj_
                              refine ⟨?_, ?_, ?_, ?_, ?_, ?_, fun i_ hi_ => ?_, fun i_ hi_ => ?_⟩
                              all_goals
                                simp (disch := omega) only [sI_off, bI_off, sL_off, bL_off, r1l, r2l, rb1l, rb2l, r1m, r2m, rb1e, rb2e,r1e]
                            case fr =>
                              intro r_ hr_
                              refine ⟨?_, ?_, ?_, fun i_ hi_ => ?_⟩
                              all_goals
                                simp (disch := omega) only [sI_off, bI_off, sL_off, bL_off, r1l, r2l, rb1l, rb2l, r1m, r2m, rb1e, rb2e,r1e]
                            case fp =>
                              refine ⟨?_, ?_, ?_, ?_, ?_⟩
                              all_goals
                                simp (disch := omega) only [sI_off, bI_off, sL_off, bL_off, r1l, r2l, rb1l, rb2l, r1m, r2m, rb1e, rb2e,r1e]
                            case fm =>
                              refine ⟨?_, ?_, fun q_ ha_ hb_ => ?_⟩
                              all_goals
                                simp (disch := omega) only [sI_off, bI_off, sL_off, bL_off, r1l, r2l, rb1l, rb2l, r1m, r2m, rb1e, rb2e,r1e]
                            case relw =>
                              refine ⟨x_ + 1, (c_ + 1), (x_ + 1), by omega, by omega, by omega, by omega, ?_, ?_, ?_, ?_, ?_, ?_, ?_, ?_, ?_, ?_⟩
                              all_goals simp (disch := omega) only [sI_off, r1e, r1m, w1_, w2_, w3_, w4_, w5_, w6_, w7_, w8_, w9_, w10_, nI_add]
      · try simp (disch := omega) only [nI_toInt, Int32.toInt_toInt64, not_true_eq_false, sI_off, r1e, r1m, w1_, w2_, w3_, w4_, w5_, w6_, w7_, w8_, w9_, w10_] at c15_1
        try (exfalso; omega)
        all_goals
          skip
          refine wa_iconst (nI 1) dX6_hear_18 (by decide) ?_
          refine wa_goto 38 dX6_hear_19 (by decide) ?_
          refine wa_istore_n dX6_hear_38 (by decide) ?_
          refine wa_aload_n dX6_hear_39 rfl ?_
          refine wa_getI dX6_hear_40 fgX6_198 (by first | assumption | rfl) (by rfl) ?_
          refine wa_if_le 66 dX6_hear_43 (by decide) (fun c43_13 => ?_) (fun c43_13 => ?_)
          · try simp (disch := omega) only [nI_toInt, Int32.toInt_toInt64, not_true_eq_false, sI_off, r1e, r1m, w1_, w2_, w3_, w4_, w5_, w6_, w7_, w8_, w9_, w10_] at c43_13
            try (exfalso; omega)
            all_goals
              skip
              refine wa_iconst (nI 0) dX6_hear_66 (by decide) ?_
              refine wa_istore_n dX6_hear_67 (by decide) ?_
              refine wa_iload_n dX6_hear_68 rfl ?_
              refine wa_aload_n dX6_hear_69 rfl ?_
              refine wa_getI dX6_hear_70 fgX6_201 (by first | assumption | rfl) (by rfl) ?_
              refine wa_ic_eq 103 dX6_hear_73 (by decide) (fun c73_14 => ?_) (fun c73_14 => ?_)
              · try simp (disch := omega) only [nI_toInt, Int32.toInt_toInt64, not_true_eq_false, sI_off, r1e, r1m, w1_, w2_, w3_, w4_, w5_, w6_, w7_, w8_, w9_, w10_] at c73_14
                try (exfalso; omega)
                all_goals
                  skip
                  refine wa_aload_n dX6_hear_103 rfl ?_
                  refine wa_getI dX6_hear_104 fgX6_201 (by first | assumption | rfl) (by rfl) ?_
                  refine wa_iret dX6_hear_107 rfl ?_
                  refine ⟨?_, ?_⟩
                  · simp (disch := omega) only [sI_off, r1e, r1m, w4_]
                  · skip
                    refine Rel_W hrel ?relw ?fs ?fr ?fp ?fm
                    case fs =>
                      intro j_ hj_
                      refine ⟨?_, ?_, ?_, ?_, ?_, ?_, fun i_ hi_ => ?_, fun i_ hi_ => ?_⟩
                      all_goals
                        simp (disch := omega) only [sI_off, bI_off, sL_off, bL_off, r1l, r2l, rb1l, rb2l, r1m, r2m, rb1e, rb2e,r1e]
                    case fr =>
                      intro r_ hr_
                      refine ⟨?_, ?_, ?_, fun i_ hi_ => ?_⟩
                      all_goals
                        simp (disch := omega) only [sI_off, bI_off, sL_off, bL_off, r1l, r2l, rb1l, rb2l, r1m, r2m, rb1e, rb2e,r1e]
                    case fp =>
                      refine ⟨?_, ?_, ?_, ?_, ?_⟩
                      all_goals
                        simp (disch := omega) only [sI_off, bI_off, sL_off, bL_off, r1l, r2l, rb1l, rb2l, r1m, r2m, rb1e, rb2e,r1e]
                    case fm =>
                      refine ⟨?_, ?_, fun q_ ha_ hb_ => ?_⟩
                      all_goals
                        simp (disch := omega) only [sI_off, bI_off, sL_off, bL_off, r1l, r2l, rb1l, rb2l, r1m, r2m, rb1e, rb2e,r1e]
                    case relw =>
                      refine ⟨x_ + 1, (c_ + 1), (x_ + 1), by omega, by omega, by omega, by omega, ?_, ?_, ?_, ?_, ?_, ?_, ?_, ?_, ?_, ?_⟩
                      all_goals simp (disch := omega) only [sI_off, r1e, r1m, w1_, w2_, w3_, w4_, w5_, w6_, w7_, w8_, w9_, w10_, nI_add]
              · try simp (disch := omega) only [nI_toInt, Int32.toInt_toInt64, not_true_eq_false, sI_off, r1e, r1m, w1_, w2_, w3_, w4_, w5_, w6_, w7_, w8_, w9_, w10_] at c73_14
                try (exfalso; omega)
                all_goals
                  skip
                  refine wa_iload_n dX6_hear_76 rfl ?_
                  refine wa_if_neF 103 dX6_hear_77 (by decide) (by decide) ?_
                  refine wa_aload_n dX6_hear_80 rfl ?_
                  refine wa_iload_n dX6_hear_81 rfl ?_
                  refine wa_putI dX6_hear_82 fgX6_201 fw6_17 (by first | assumption | rfl) (by rfl) ?_
                  refine wa_aload_n dX6_hear_85 rfl ?_
                  refine wa_aload_n dX6_hear_86 rfl ?_
                  refine wa_getI dX6_hear_87 fgX6_192 (by first | assumption | rfl) (by rfl) ?_
                  refine wa_putI dX6_hear_90 fgX6_198 fw6_16 (by first | assumption | rfl) (by rfl) ?_
                  refine wa_aload_n dX6_hear_93 rfl ?_
                  first | refine wa_dupr dX6_hear_94 ?_ | refine wa_dupi dX6_hear_94 ?_
                  refine wa_getI dX6_hear_95 fgX6_195 (by first | assumption | rfl) (by rfl) ?_
                  refine wa_iconst (nI 1) dX6_hear_98 (by decide) ?_
                  refine wa_iadd dX6_hear_99 ?_
                  refine wa_putI dX6_hear_100 fgX6_195 fw6_15 (by first | assumption | rfl) (by rfl) ?_
                  refine wa_aload_n dX6_hear_103 rfl ?_
                  refine wa_getI dX6_hear_104 fgX6_201 (by first | assumption | rfl) (by rfl) ?_
                  refine wa_iret dX6_hear_107 rfl ?_
                  refine ⟨?_, ?_⟩
                  · simp (disch := omega) only [sI_off, r1e, r1m, w4_]
                  · skip
                    refine Rel_W hrel ?relw ?fs ?fr ?fp ?fm
                    case fs =>
                      intro j_ hj_
                      refine ⟨?_, ?_, ?_, ?_, ?_, ?_, fun i_ hi_ => ?_, fun i_ hi_ => ?_⟩
                      all_goals
                        simp (disch := omega) only [sI_off, bI_off, sL_off, bL_off, r1l, r2l, rb1l, rb2l, r1m, r2m, rb1e, rb2e,r1e]
                    case fr =>
                      intro r_ hr_
                      refine ⟨?_, ?_, ?_, fun i_ hi_ => ?_⟩
                      all_goals
                        simp (disch := omega) only [sI_off, bI_off, sL_off, bL_off, r1l, r2l, rb1l, rb2l, r1m, r2m, rb1e, rb2e,r1e]
                    case fp =>
                      refine ⟨?_, ?_, ?_, ?_, ?_⟩
                      all_goals
                        simp (disch := omega) only [sI_off, bI_off, sL_off, bL_off, r1l, r2l, rb1l, rb2l, r1m, r2m, rb1e, rb2e,r1e]
                    case fm =>
                      refine ⟨?_, ?_, fun q_ ha_ hb_ => ?_⟩
                      all_goals
                        simp (disch := omega) only [sI_off, bI_off, sL_off, bL_off, r1l, r2l, rb1l, rb2l, r1m, r2m, rb1e, rb2e,r1e]
                    case relw =>
                      refine ⟨x_ + 1, (c_ + 1), (x_ + 1), by omega, by omega, by omega, by omega, ?_, ?_, ?_, ?_, ?_, ?_, ?_, ?_, ?_, ?_⟩
                      all_goals simp (disch := omega) only [sI_off, r1e, r1m, w1_, w2_, w3_, w4_, w5_, w6_, w7_, w8_, w9_, w10_, nI_add]
          · try simp (disch := omega) only [nI_toInt, Int32.toInt_toInt64, not_true_eq_false, sI_off, r1e, r1m, w1_, w2_, w3_, w4_, w5_, w6_, w7_, w8_, w9_, w10_] at c43_13
            try (exfalso; omega)
            all_goals
              skip
              refine wa_aload_n dX6_hear_46 rfl ?_
              refine wa_getI dX6_hear_47 fgX6_192 (by first | assumption | rfl) (by rfl) ?_
              refine wa_aload_n dX6_hear_50 rfl ?_
              refine wa_getI dX6_hear_51 fgX6_198 (by first | assumption | rfl) (by rfl) ?_
              refine wa_isub dX6_hear_54 ?_
              refine wa_aload_n dX6_hear_55 rfl ?_
              refine wa_getI dX6_hear_56 fgX6_189 (by first | assumption | rfl) (by rfl) ?_
              refine wa_ic_gt 66 dX6_hear_59 (by decide) (fun c59_15 => ?_) (fun c59_15 => ?_)
              · try simp (disch := omega) only [nI_toInt, Int32.toInt_toInt64, not_true_eq_false, sI_off, r1e, r1m, w1_, w2_, w3_, w4_, w5_, w6_, w7_, w8_, w9_, w10_] at c59_15
                try (exfalso; omega)
                all_goals
                  skip
                  refine wa_iconst (nI 0) dX6_hear_66 (by decide) ?_
                  refine wa_istore_n dX6_hear_67 (by decide) ?_
                  refine wa_iload_n dX6_hear_68 rfl ?_
                  refine wa_aload_n dX6_hear_69 rfl ?_
                  refine wa_getI dX6_hear_70 fgX6_201 (by first | assumption | rfl) (by rfl) ?_
                  refine wa_ic_eq 103 dX6_hear_73 (by decide) (fun c73_16 => ?_) (fun c73_16 => ?_)
                  · try simp (disch := omega) only [nI_toInt, Int32.toInt_toInt64, not_true_eq_false, sI_off, r1e, r1m, w1_, w2_, w3_, w4_, w5_, w6_, w7_, w8_, w9_, w10_] at c73_16
                    try (exfalso; omega)
                    all_goals
                      skip
                      refine wa_aload_n dX6_hear_103 rfl ?_
                      refine wa_getI dX6_hear_104 fgX6_201 (by first | assumption | rfl) (by rfl) ?_
                      refine wa_iret dX6_hear_107 rfl ?_
                      refine ⟨?_, ?_⟩
                      · simp (disch := omega) only [sI_off, r1e, r1m, w4_]
                      · skip
                        refine Rel_W hrel ?relw ?fs ?fr ?fp ?fm
                        case fs =>
                          intro j_ hj_
                          refine ⟨?_, ?_, ?_, ?_, ?_, ?_, fun i_ hi_ => ?_, fun i_ hi_ => ?_⟩
                          all_goals
                            simp (disch := omega) only [sI_off, bI_off, sL_off, bL_off, r1l, r2l, rb1l, rb2l, r1m, r2m, rb1e, rb2e,r1e]
                        case fr =>
                          intro r_ hr_
                          refine ⟨?_, ?_, ?_, fun i_ hi_ => ?_⟩
                          all_goals
                            simp (disch := omega) only [sI_off, bI_off, sL_off, bL_off, r1l, r2l, rb1l, rb2l, r1m, r2m, rb1e, rb2e,r1e]
                        case fp =>
                          refine ⟨?_, ?_, ?_, ?_, ?_⟩
                          all_goals
                            simp (disch := omega) only [sI_off, bI_off, sL_off, bL_off, r1l, r2l, rb1l, rb2l, r1m, r2m, rb1e, rb2e,r1e]
                        case fm =>
                          refine ⟨?_, ?_, fun q_ ha_ hb_ => ?_⟩
                          all_goals
                            simp (disch := omega) only [sI_off, bI_off, sL_off, bL_off, r1l, r2l, rb1l, rb2l, r1m, r2m, rb1e, rb2e,r1e]
                        case relw =>
                          refine ⟨x_ + 1, (c_ + 1), (x_ + 1), by omega, by omega, by omega, by omega, ?_, ?_, ?_, ?_, ?_, ?_, ?_, ?_, ?_, ?_⟩
                          all_goals simp (disch := omega) only [sI_off, r1e, r1m, w1_, w2_, w3_, w4_, w5_, w6_, w7_, w8_, w9_, w10_, nI_add]
                  · try simp (disch := omega) only [nI_toInt, Int32.toInt_toInt64, not_true_eq_false, sI_off, r1e, r1m, w1_, w2_, w3_, w4_, w5_, w6_, w7_, w8_, w9_, w10_] at c73_16
                    try (exfalso; omega)
                    all_goals
                      skip
                      refine wa_iload_n dX6_hear_76 rfl ?_
                      refine wa_if_neF 103 dX6_hear_77 (by decide) (by decide) ?_
                      refine wa_aload_n dX6_hear_80 rfl ?_
                      refine wa_iload_n dX6_hear_81 rfl ?_
                      refine wa_putI dX6_hear_82 fgX6_201 fw6_17 (by first | assumption | rfl) (by rfl) ?_
                      refine wa_aload_n dX6_hear_85 rfl ?_
                      refine wa_aload_n dX6_hear_86 rfl ?_
                      refine wa_getI dX6_hear_87 fgX6_192 (by first | assumption | rfl) (by rfl) ?_
                      refine wa_putI dX6_hear_90 fgX6_198 fw6_16 (by first | assumption | rfl) (by rfl) ?_
                      refine wa_aload_n dX6_hear_93 rfl ?_
                      first | refine wa_dupr dX6_hear_94 ?_ | refine wa_dupi dX6_hear_94 ?_
                      refine wa_getI dX6_hear_95 fgX6_195 (by first | assumption | rfl) (by rfl) ?_
                      refine wa_iconst (nI 1) dX6_hear_98 (by decide) ?_
                      refine wa_iadd dX6_hear_99 ?_
                      refine wa_putI dX6_hear_100 fgX6_195 fw6_15 (by first | assumption | rfl) (by rfl) ?_
                      refine wa_aload_n dX6_hear_103 rfl ?_
                      refine wa_getI dX6_hear_104 fgX6_201 (by first | assumption | rfl) (by rfl) ?_
                      refine wa_iret dX6_hear_107 rfl ?_
                      refine ⟨?_, ?_⟩
                      · simp (disch := omega) only [sI_off, r1e, r1m, w4_]
                      · skip
                        refine Rel_W hrel ?relw ?fs ?fr ?fp ?fm
                        case fs =>
                          intro j_ hj_
                          refine ⟨?_, ?_, ?_, ?_, ?_, ?_, fun i_ hi_ => ?_, fun i_ hi_ => ?_⟩
                          all_goals
                            simp (disch := omega) only [sI_off, bI_off, sL_off, bL_off, r1l, r2l, rb1l, rb2l, r1m, r2m, rb1e, rb2e,r1e]
                        case fr =>
                          intro r_ hr_
                          refine ⟨?_, ?_, ?_, fun i_ hi_ => ?_⟩
                          all_goals
                            simp (disch := omega) only [sI_off, bI_off, sL_off, bL_off, r1l, r2l, rb1l, rb2l, r1m, r2m, rb1e, rb2e,r1e]
                        case fp =>
                          refine ⟨?_, ?_, ?_, ?_, ?_⟩
                          all_goals
                            simp (disch := omega) only [sI_off, bI_off, sL_off, bL_off, r1l, r2l, rb1l, rb2l, r1m, r2m, rb1e, rb2e,r1e]
                        case fm =>
                          refine ⟨?_, ?_, fun q_ ha_ hb_ => ?_⟩
                          all_goals
                            simp (disch := omega) only [sI_off, bI_off, sL_off, bL_off, r1l, r2l, rb1l, rb2l, r1m, r2m, rb1e, rb2e,r1e]
                        case relw =>
                          refine ⟨x_ + 1, (c_ + 1), (x_ + 1), by omega, by omega, by omega, by omega, ?_, ?_, ?_, ?_, ?_, ?_, ?_, ?_, ?_, ?_⟩
                          all_goals simp (disch := omega) only [sI_off, r1e, r1m, w1_, w2_, w3_, w4_, w5_, w6_, w7_, w8_, w9_, w10_, nI_add]
              · try simp (disch := omega) only [nI_toInt, Int32.toInt_toInt64, not_true_eq_false, sI_off, r1e, r1m, w1_, w2_, w3_, w4_, w5_, w6_, w7_, w8_, w9_, w10_] at c59_15
                try (exfalso; omega)
                all_goals
                  skip
                  refine wa_iconst (nI 1) dX6_hear_62 (by decide) ?_
                  refine wa_goto 67 dX6_hear_63 (by decide) ?_
                  refine wa_istore_n dX6_hear_67 (by decide) ?_
                  refine wa_iload_n dX6_hear_68 rfl ?_
                  refine wa_aload_n dX6_hear_69 rfl ?_
                  refine wa_getI dX6_hear_70 fgX6_201 (by first | assumption | rfl) (by rfl) ?_
                  refine wa_ic_eq 103 dX6_hear_73 (by decide) (fun c73_17 => ?_) (fun c73_17 => ?_)
                  · try simp (disch := omega) only [nI_toInt, Int32.toInt_toInt64, not_true_eq_false, sI_off, r1e, r1m, w1_, w2_, w3_, w4_, w5_, w6_, w7_, w8_, w9_, w10_] at c73_17
                    try (exfalso; omega)
                    all_goals
                      skip
                      refine wa_aload_n dX6_hear_103 rfl ?_
                      refine wa_getI dX6_hear_104 fgX6_201 (by first | assumption | rfl) (by rfl) ?_
                      refine wa_iret dX6_hear_107 rfl ?_
                      refine ⟨?_, ?_⟩
                      · simp (disch := omega) only [sI_off, r1e, r1m, w4_]
                      · skip
                        refine Rel_W hrel ?relw ?fs ?fr ?fp ?fm
                        case fs =>
                          intro j_ hj_
                          refine ⟨?_, ?_, ?_, ?_, ?_, ?_, fun i_ hi_ => ?_, fun i_ hi_ => ?_⟩
                          all_goals
                            simp (disch := omega) only [sI_off, bI_off, sL_off, bL_off, r1l, r2l, rb1l, rb2l, r1m, r2m, rb1e, rb2e,r1e]
                        case fr =>
                          intro r_ hr_
                          refine ⟨?_, ?_, ?_, fun i_ hi_ => ?_⟩
                          all_goals
                            simp (disch := omega) only [sI_off, bI_off, sL_off, bL_off, r1l, r2l, rb1l, rb2l, r1m, r2m, rb1e, rb2e,r1e]
                        case fp =>
                          refine ⟨?_, ?_, ?_, ?_, ?_⟩
                          all_goals
                            simp (disch := omega) only [sI_off, bI_off, sL_off, bL_off, r1l, r2l, rb1l, rb2l, r1m, r2m, rb1e, rb2e,r1e]
                        case fm =>
                          refine ⟨?_, ?_, fun q_ ha_ hb_ => ?_⟩
                          all_goals
                            simp (disch := omega) only [sI_off, bI_off, sL_off, bL_off, r1l, r2l, rb1l, rb2l, r1m, r2m, rb1e, rb2e,r1e]
                        case relw =>
                          refine ⟨x_ + 1, (c_ + 1), (x_ + 1), by omega, by omega, by omega, by omega, ?_, ?_, ?_, ?_, ?_, ?_, ?_, ?_, ?_, ?_⟩
                          all_goals simp (disch := omega) only [sI_off, r1e, r1m, w1_, w2_, w3_, w4_, w5_, w6_, w7_, w8_, w9_, w10_, nI_add]
                  · try simp (disch := omega) only [nI_toInt, Int32.toInt_toInt64, not_true_eq_false, sI_off, r1e, r1m, w1_, w2_, w3_, w4_, w5_, w6_, w7_, w8_, w9_, w10_] at c73_17
                    try (exfalso; omega)
                    all_goals
                      skip
                      refine wa_iload_n dX6_hear_76 rfl ?_
                      refine wa_if_neT 103 dX6_hear_77 (by decide) (by decide) ?_
                      refine wa_aload_n dX6_hear_103 rfl ?_
                      refine wa_getI dX6_hear_104 fgX6_201 (by first | assumption | rfl) (by rfl) ?_
                      refine wa_iret dX6_hear_107 rfl ?_
                      refine ⟨?_, ?_⟩
                      · simp (disch := omega) only [sI_off, r1e, r1m, w4_]
                      · skip
                        refine Rel_W hrel ?relw ?fs ?fr ?fp ?fm
                        case fs =>
                          intro j_ hj_
                          refine ⟨?_, ?_, ?_, ?_, ?_, ?_, fun i_ hi_ => ?_, fun i_ hi_ => ?_⟩
                          all_goals
                            simp (disch := omega) only [sI_off, bI_off, sL_off, bL_off, r1l, r2l, rb1l, rb2l, r1m, r2m, rb1e, rb2e,r1e]
                        case fr =>
                          intro r_ hr_
                          refine ⟨?_, ?_, ?_, fun i_ hi_ => ?_⟩
                          all_goals
                            simp (disch := omega) only [sI_off, bI_off, sL_off, bL_off, r1l, r2l, rb1l, rb2l, r1m, r2m, rb1e, rb2e,r1e]
                        case fp =>
                          refine ⟨?_, ?_, ?_, ?_, ?_⟩
                          all_goals
                            simp (disch := omega) only [sI_off, bI_off, sL_off, bL_off, r1l, r2l, rb1l, rb2l, r1m, r2m, rb1e, rb2e,r1e]
                        case fm =>
                          refine ⟨?_, ?_, fun q_ ha_ hb_ => ?_⟩
                          all_goals
                            simp (disch := omega) only [sI_off, bI_off, sL_off, bL_off, r1l, r2l, rb1l, rb2l, r1m, r2m, rb1e, rb2e,r1e]
                        case relw =>
                          refine ⟨x_ + 1, (c_ + 1), (x_ + 1), by omega, by omega, by omega, by omega, ?_, ?_, ?_, ?_, ?_, ?_, ?_, ?_, ?_, ?_⟩
                          all_goals simp (disch := omega) only [sI_off, r1e, r1m, w1_, w2_, w3_, w4_, w5_, w6_, w7_, w8_, w9_, w10_, nI_add]
    · skip
      try simp (disch := omega) only [nI_toInt] at ha_
      try simp (disch := omega) only [nI_toInt] at hb_
      refine MW_of (by decide) [some (.ref 73), some (.int v), none, none] rfl (Nat.le_of_ble_eq_true rfl) ?_
      refine wa_aload_n dX6_hear_0 rfl ?_
      first | refine wa_dupr dX6_hear_1 ?_ | refine wa_dupi dX6_hear_1 ?_
      refine wa_getI dX6_hear_2 fgX6_192 (by first | assumption | rfl) (by rfl) ?_
      refine wa_iconst (nI 1) dX6_hear_5 (by decide) ?_
      refine wa_iadd dX6_hear_6 ?_
      refine wa_putI dX6_hear_7 fgX6_192 fw6_14 (by first | assumption | rfl) (by rfl) ?_
      refine wa_iload_n dX6_hear_10 rfl ?_
      refine wa_aload_n dX6_hear_11 rfl ?_
      refine wa_getI dX6_hear_12 fgX6_39 (by first | assumption | rfl) (by rfl) ?_
      refine wa_ic_lt 22 dX6_hear_15 (by decide) (fun c15_1 => ?_) (fun c15_1 => ?_)
      · try simp (disch := omega) only [nI_toInt, Int32.toInt_toInt64, not_true_eq_false, sI_off, r1e, r1m, w1_, w2_, w3_, w4_, w5_, w6_, w7_, w8_, w9_, w10_] at c15_1
        try (exfalso; omega)
        all_goals
          skip
          refine wa_iload_n dX6_hear_22 rfl ?_
          refine wa_aload_n dX6_hear_23 rfl ?_
          refine wa_getI dX6_hear_24 fgX6_43 (by first | assumption | rfl) (by rfl) ?_
          refine wa_ic_gt 34 dX6_hear_27 (by decide) (fun c27_2 => ?_) (fun c27_2 => ?_)
          · try simp (disch := omega) only [nI_toInt, Int32.toInt_toInt64, not_true_eq_false, sI_off, r1e, r1m, w1_, w2_, w3_, w4_, w5_, w6_, w7_, w8_, w9_, w10_] at c27_2
            try (exfalso; omega)
            all_goals
              skip
              refine wa_aload_n dX6_hear_34 rfl ?_
              refine wa_getI dX6_hear_35 fgX6_201 (by first | assumption | rfl) (by rfl) ?_
              refine wa_istore_n dX6_hear_38 (by decide) ?_
              refine wa_aload_n dX6_hear_39 rfl ?_
              refine wa_getI dX6_hear_40 fgX6_198 (by first | assumption | rfl) (by rfl) ?_
              refine wa_if_le 66 dX6_hear_43 (by decide) (fun c43_3 => ?_) (fun c43_3 => ?_)
              · try simp (disch := omega) only [nI_toInt, Int32.toInt_toInt64, not_true_eq_false, sI_off, r1e, r1m, w1_, w2_, w3_, w4_, w5_, w6_, w7_, w8_, w9_, w10_] at c43_3
                try (exfalso; omega)
                all_goals
                  skip
                  refine wa_iconst (nI 0) dX6_hear_66 (by decide) ?_
                  refine wa_istore_n dX6_hear_67 (by decide) ?_
                  refine wa_iload_n dX6_hear_68 rfl ?_
                  refine wa_aload_n dX6_hear_69 rfl ?_
                  refine wa_getI dX6_hear_70 fgX6_201 (by first | assumption | rfl) (by rfl) ?_
                  refine wa_ic_eq 103 dX6_hear_73 (by decide) (fun c73_4 => ?_) (fun c73_4 => ?_)
                  · try simp (disch := omega) only [nI_toInt, Int32.toInt_toInt64, not_true_eq_false, sI_off, r1e, r1m, w1_, w2_, w3_, w4_, w5_, w6_, w7_, w8_, w9_, w10_] at c73_4
                    try (exfalso; omega)
                    all_goals
                      skip
                      refine wa_aload_n dX6_hear_103 rfl ?_
                      refine wa_getI dX6_hear_104 fgX6_201 (by first | assumption | rfl) (by rfl) ?_
                      refine wa_iret dX6_hear_107 rfl ?_
                      refine ⟨?_, ?_⟩
                      · simp (disch := omega) only [sI_off, r1e, r1m, w4_]
                      · skip
                        refine Rel_W hrel ?relw ?fs ?fr ?fp ?fm
                        case fs =>
                          intro j_ hj_
                          refine ⟨?_, ?_, ?_, ?_, ?_, ?_, fun i_ hi_ => ?_, fun i_ hi_ => ?_⟩
                          all_goals
                            simp (disch := omega) only [sI_off, bI_off, sL_off, bL_off, r1l, r2l, rb1l, rb2l, r1m, r2m, rb1e, rb2e,r1e]
                        case fr =>
                          intro r_ hr_
                          refine ⟨?_, ?_, ?_, fun i_ hi_ => ?_⟩
                          all_goals
                            simp (disch := omega) only [sI_off, bI_off, sL_off, bL_off, r1l, r2l, rb1l, rb2l, r1m, r2m, rb1e, rb2e,r1e]
                        case fp =>
                          refine ⟨?_, ?_, ?_, ?_, ?_⟩
                          all_goals
                            simp (disch := omega) only [sI_off, bI_off, sL_off, bL_off, r1l, r2l, rb1l, rb2l, r1m, r2m, rb1e, rb2e,r1e]
                        case fm =>
                          refine ⟨?_, ?_, fun q_ ha_ hb_ => ?_⟩
                          all_goals
                            simp (disch := omega) only [sI_off, bI_off, sL_off, bL_off, r1l, r2l, rb1l, rb2l, r1m, r2m, rb1e, rb2e,r1e]
                        case relw =>
                          refine ⟨x_ + 1, (c_ + 1), (x_ + 1), by omega, by omega, by omega, by omega, ?_, ?_, ?_, ?_, ?_, ?_, ?_, ?_, ?_, ?_⟩
                          all_goals simp (disch := omega) only [sI_off, r1e, r1m, w1_, w2_, w3_, w4_, w5_, w6_, w7_, w8_, w9_, w10_, nI_add]
                  · try simp (disch := omega) only [nI_toInt, Int32.toInt_toInt64, not_true_eq_false, sI_off, r1e, r1m, w1_, w2_, w3_, w4_, w5_, w6_, w7_, w8_, w9_, w10_] at c73_4
                    try (exfalso; omega)
                    all_goals
                      skip
                      refine wa_iload_n dX6_hear_76 rfl ?_
                      refine wa_if_neF 103 dX6_hear_77 (by decide) (by decide) ?_
                      refine wa_aload_n dX6_hear_80 rfl ?_
                      refine wa_iload_n dX6_hear_81 rfl ?_
                      refine wa_putI dX6_hear_82 fgX6_201 fw6_17 (by first | assumption | rfl) (by rfl) ?_
                      refine wa_aload_n dX6_hear_85 rfl ?_
                      refine wa_aload_n dX6_hear_86 rfl ?_
                      refine wa_getI dX6_hear_87 fgX6_192 (by first | assumption | rfl) (by rfl) ?_
                      refine wa_putI dX6_hear_90 fgX6_198 fw6_16 (by first | assumption | rfl) (by rfl) ?_
                      refine wa_aload_n dX6_hear_93 rfl ?_
                      first | refine wa_dupr dX6_hear_94 ?_ | refine wa_dupi dX6_hear_94 ?_
                      refine wa_getI dX6_hear_95 fgX6_195 (by first | assumption | rfl) (by rfl) ?_
                      refine wa_iconst (nI 1) dX6_hear_98 (by decide) ?_
                      refine wa_iadd dX6_hear_99 ?_
                      refine wa_putI dX6_hear_100 fgX6_195 fw6_15 (by first | assumption | rfl) (by rfl) ?_
                      refine wa_aload_n dX6_hear_103 rfl ?_
                      refine wa_getI dX6_hear_104 fgX6_201 (by first | assumption | rfl) (by rfl) ?_
                      refine wa_iret dX6_hear_107 rfl ?_
                      refine ⟨?_, ?_⟩
                      · simp (disch := omega) only [sI_off, r1e, r1m, w4_]
                      · skip
                        refine Rel_W hrel ?relw ?fs ?fr ?fp ?fm
                        case fs =>
                          intro j_ hj_
                          refine ⟨?_, ?_, ?_, ?_, ?_, ?_, fun i_ hi_ => ?_, fun i_ hi_ => ?_⟩
                          all_goals
                            simp (disch := omega) only [sI_off, bI_off, sL_off, bL_off, r1l, r2l, rb1l, rb2l, r1m, r2m, rb1e, rb2e,r1e]
                        case fr =>
                          intro r_ hr_
                          refine ⟨?_, ?_, ?_, fun i_ hi_ => ?_⟩
                          all_goals
                            simp (disch := omega) only [sI_off, bI_off, sL_off, bL_off, r1l, r2l, rb1l, rb2l, r1m, r2m, rb1e, rb2e,r1e]
                        case fp =>
                          refine ⟨?_, ?_, ?_, ?_, ?_⟩
                          all_goals
                            simp (disch := omega) only [sI_off, bI_off, sL_off, bL_off, r1l, r2l, rb1l, rb2l, r1m, r2m, rb1e, rb2e,r1e]
                        case fm =>
                          refine ⟨?_, ?_, fun q_ ha_ hb_ => ?_⟩
                          all_goals
                            simp (disch := omega) only [sI_off, bI_off, sL_off, bL_off, r1l, r2l, rb1l, rb2l, r1m, r2m, rb1e, rb2e,r1e]
                        case relw =>
                          refine ⟨x_ + 1, (c_ + 1), (x_ + 1), by omega, by omega, by omega, by omega, ?_, ?_, ?_, ?_, ?_, ?_, ?_, ?_, ?_, ?_⟩
                          all_goals simp (disch := omega) only [sI_off, r1e, r1m, w1_, w2_, w3_, w4_, w5_, w6_, w7_, w8_, w9_, w10_, nI_add]
              · try simp (disch := omega) only [nI_toInt, Int32.toInt_toInt64, not_true_eq_false, sI_off, r1e, r1m, w1_, w2_, w3_, w4_, w5_, w6_, w7_, w8_, w9_, w10_] at c43_3
                try (exfalso; omega)
                all_goals
                  skip
                  refine wa_aload_n dX6_hear_46 rfl ?_
                  refine wa_getI dX6_hear_47 fgX6_192 (by first | assumption | rfl) (by rfl) ?_
                  refine wa_aload_n dX6_hear_50 rfl ?_
                  refine wa_getI dX6_hear_51 fgX6_198 (by first | assumption | rfl) (by rfl) ?_
                  refine wa_isub dX6_hear_54 ?_
                  refine wa_aload_n dX6_hear_55 rfl ?_
                  refine wa_getI dX6_hear_56 fgX6_189 (by first | assumption | rfl) (by rfl) ?_
                  refine wa_ic_gt 66 dX6_hear_59 (by decide) (fun c59_5 => ?_) (fun c59_5 => ?_)
                  · try simp (disch := omega) only [nI_toInt, Int32.toInt_toInt64, not_true_eq_false, sI_off, r1e, r1m, w1_, w2_, w3_, w4_, w5_, w6_, w7_, w8_, w9_, w10_] at c59_5
                    try (exfalso; omega)
                    all_goals
                      skip
                      refine wa_iconst (nI 0) dX6_hear_66 (by decide) ?_
                      refine wa_istore_n dX6_hear_67 (by decide) ?_
                      refine wa_iload_n dX6_hear_68 rfl ?_
                      refine wa_aload_n dX6_hear_69 rfl ?_
                      refine wa_getI dX6_hear_70 fgX6_201 (by first | assumption | rfl) (by rfl) ?_
                      refine wa_ic_eq 103 dX6_hear_73 (by decide) (fun c73_6 => ?_) (fun c73_6 => ?_)
                      · try simp (disch := omega) only [nI_toInt, Int32.toInt_toInt64, not_true_eq_false, sI_off, r1e, r1m, w1_, w2_, w3_, w4_, w5_, w6_, w7_, w8_, w9_, w10_] at c73_6
                        try (exfalso; omega)
                        all_goals
                          skip
                          refine wa_aload_n dX6_hear_103 rfl ?_
                          refine wa_getI dX6_hear_104 fgX6_201 (by first | assumption | rfl) (by rfl) ?_
                          refine wa_iret dX6_hear_107 rfl ?_
                          refine ⟨?_, ?_⟩
                          · simp (disch := omega) only [sI_off, r1e, r1m, w4_]
                          · skip
                            refine Rel_W hrel ?relw ?fs ?fr ?fp ?fm
                            case fs =>
                              intro j_ hj_
                              refine ⟨?_, ?_, ?_, ?_, ?_, ?_, fun i_ hi_ => ?_, fun i_ hi_ => ?_⟩
                              all_goals
                                simp (disch := omega) only [sI_off, bI_off, sL_off, bL_off, r1l, r2l, rb1l, rb2l, r1m, r2m, rb1e, rb2e,r1e]
                            case fr =>
                              intro r_ hr_
                              refine ⟨?_, ?_, ?_, fun i_ hi_ => ?_⟩
                              all_goals
                                simp (disch := omega) only [sI_off, bI_off, sL_off, bL_off, r1l, r2l, rb1l, rb2l, r1m, r2m, rb1e, rb2e,r1e]
                            case fp =>
                              refine ⟨?_, ?_, ?_, ?_, ?_⟩
                              all_goals
                                simp (disch := omega) only [sI_off, bI_off, sL_off, bL_off, r1l, r2l, rb1l, rb2l, r1m, r2m, rb1e, rb2e,r1e]
                            case fm =>
                              refine ⟨?_, ?_, fun q_ ha_ hb_ => ?_⟩
                              all_goals
                                simp (disch := omega) only [sI_off, bI_off, sL_off, bL_off, r1l, r2l, rb1l, rb2l, r1m, r2m, rb1e, rb2e,r1e]
                            case relw =>
                              refine ⟨x_ + 1, (c_ + 1), (x_ + 1), by omega, by omega, by omega, by omega, ?_, ?_, ?_, ?_, ?_, ?_, ?_, ?_, ?_, ?_⟩
                              all_goals simp (disch := omega) only [sI_off, r1e, r1m, w1_, w2_, w3_, w4_, w5_, w6_, w7_, w8_, w9_, w10_, nI_add]
                      · try simp (disch := omega) only [nI_toInt, Int32.toInt_toInt64, not_true_eq_false, sI_off, r1e, r1m, w1_, w2_, w3_, w4_, w5_, w6_, w7_, w8_, w9_, w10_] at c73_6
                        try (exfalso; omega)
                        all_goals
                          skip
                          refine wa_iload_n dX6_hear_76 rfl ?_
                          refine wa_if_neF 103 dX6_hear_77 (by decide) (by decide) ?_
                          refine wa_aload_n dX6_hear_80 rfl ?_
                          refine wa_iload_n dX6_hear_81 rfl ?_
                          refine wa_putI dX6_hear_82 fgX6_201 fw6_17 (by first | assumption | rfl) (by rfl) ?_
                          refine wa_aload_n dX6_hear_85 rfl ?_
                          refine wa_aload_n dX6_hear_86 rfl ?_
                          refine wa_getI dX6_hear_87 fgX6_192 (by first | assumption | rfl) (by rfl) ?_
                          refine wa_putI dX6_hear_90 fgX6_198 fw6_16 (by first | assumption | rfl) (by rfl) ?_
                          refine wa_aload_n dX6_hear_93 rfl ?_
                          first | refine wa_dupr dX6_hear_94 ?_ | refine wa_dupi dX6_hear_94 ?_
                          refine wa_getI dX6_hear_95 fgX6_195 (by first | assumption | rfl) (by rfl) ?_
                          refine wa_iconst (nI 1) dX6_hear_98 (by decide) ?_
                          refine wa_iadd dX6_hear_99 ?_
                          refine wa_putI dX6_hear_100 fgX6_195 fw6_15 (by first | assumption | rfl) (by rfl) ?_
                          refine wa_aload_n dX6_hear_103 rfl ?_
                          refine wa_getI dX6_hear_104 fgX6_201 (by first | assumption | rfl) (by rfl) ?_
                          refine wa_iret dX6_hear_107 rfl ?_
                          refine ⟨?_, ?_⟩
                          · simp (disch := omega) only [sI_off, r1e, r1m, w4_]
                          · skip
                            refine Rel_W hrel ?relw ?fs ?fr ?fp ?fm
                            case fs =>
                              intro j_ hj_
                              refine ⟨?_, ?_, ?_, ?_, ?_, ?_, fun i_ hi_ => ?_, fun i_ hi_ => ?_⟩
                              all_goals
                                simp (disch := omega) only [sI_off, bI_off, sL_off, bL_off, r1l, r2l, rb1l, rb2l, r1m, r2m, rb1e, rb2e,r1e]
                            case fr =>
                              intro r_ hr_
                              refine ⟨?_, ?_, ?_, fun i_ hi_ => ?_⟩
                              all_goals
                                simp (disch := omega) only [sI_off, bI_off, sL_off, bL_off, r1l, r2l, rb1l, rb2l, r1m, r2m, rb1e, rb2e,r1e]
                            case fp =>
                              refine ⟨?_, ?_, ?_, ?_, ?_⟩
                              all_goals
                                simp (disch := omega) only [sI_off, bI_off, sL_off, bL_off, r1l, r2l, rb1l, rb2l, r1m, r2m, rb1e, rb2e,r1e]
                            case fm =>
                              refine ⟨?_, ?_, fun q_ ha_ hb_ => ?_⟩
                              all_goals
                                simp (disch := omega) only [sI_off, bI_off, sL_off, bL_off, r1l, r2l, rb1l, rb2l, r1m, r2m, rb1e, rb2e,r1e]
                            case relw =>
                              refine ⟨x_ + 1, (c_ + 1), (x_ + 1), by omega, by omega, by omega, by omega, ?_, ?_, ?_, ?_, ?_, ?_, ?_, ?_, ?_, ?_⟩
                              all_goals simp (disch := omega) only [sI_off, r1e, r1m, w1_, w2_, w3_, w4_, w5_, w6_, w7_, w8_, w9_, w10_, nI_add]
                  · try simp (disch := omega) only [nI_toInt, Int32.toInt_toInt64, not_true_eq_false, sI_off, r1e, r1m, w1_, w2_, w3_, w4_, w5_, w6_, w7_, w8_, w9_, w10_] at c59_5
                    try (exfalso; omega)
                    all_goals
                      skip
                      refine wa_iconst (nI 1) dX6_hear_62 (by decide) ?_
                      refine wa_goto 67 dX6_hear_63 (by decide) ?_
                      refine wa_istore_n dX6_hear_67 (by decide) ?_
                      refine wa_iload_n dX6_hear_68 rfl ?_
                      refine wa_aload_n dX6_hear_69 rfl ?_
                      refine wa_getI dX6_hear_70 fgX6_201 (by first | assumption | rfl) (by rfl) ?_
                      refine wa_ic_eq 103 dX6_hear_73 (by decide) (fun c73_7 => ?_) (fun c73_7 => ?_)
                      · try simp (disch := omega) only [nI_toInt, Int32.toInt_toInt64, not_true_eq_false, sI_off, r1e, r1m, w1_, w2_, w3_, w4_, w5_, w6_, w7_, w8_, w9_, w10_] at c73_7
                        try (exfalso; omega)
                        all_goals
                          skip
                          refine wa_aload_n dX6_hear_103 rfl ?_
                          refine wa_getI dX6_hear_104 fgX6_201 (by first | assumption | rfl) (by rfl) ?_
                          refine wa_iret dX6_hear_107 rfl ?_
                          refine ⟨?_, ?_⟩
                          · simp (disch := omega) only [sI_off, r1e, r1m, w4_]
                          · skip
                            refine Rel_W hrel ?relw ?fs ?fr ?fp ?fm
                            case fs =>
                              intro j_ hj_
                              refine ⟨?_, ?_, ?_, ?_, ?_, ?_, fun i_ hi_ => ?_, fun i_ hi_ => ?_⟩
                              all_goals
                                simp (disch := omega) only [sI_off, bI_off, sL_off, bL_off, r1l, r2l, rb1l, rb2l, r1m, r2m, rb1e, rb2e,r1e]
                            case fr =>
                              intro r_ hr_
                              refine ⟨?_, ?_, ?_, fun i_ hi_ => ?_⟩
                              all_goals
                                simp (disch := omega) only [sI_off, bI_off, sL_off, bL_off, r1l, r2l, rb1l, rb2l, r1m, r2m, rb1e, rb2e,r1e]
                            case fp =>
                              refine ⟨?_, ?_, ?_, ?_, ?_⟩
                              all_goals
                                simp (disch := omega) only [sI_off, bI_off, sL_off, bL_off, r1l, r2l, rb1l, rb2l, r1m, r2m, rb1e, rb2e,r1e]
                            case fm =>
                              refine ⟨?_, ?_, fun q_ ha_ hb_ => ?_⟩
                              all_goals
                                simp (disch := omega) only [sI_off, bI_off, sL_off, bL_off, r1l, r2l, rb1l, rb2l, r1m, r2m, rb1e, rb2e,r1e]
                            case relw =>
                              refine ⟨x_ + 1, (c_ + 1), (x_ + 1), by omega, by omega, by omega, by omega, ?_, ?_, ?_, ?_, ?_, ?_, ?_, ?_, ?_, ?_⟩
                              all_goals simp (disch := omega) only [sI_off, r1e, r1m, w1_, w2_, w3_, w4_, w5_, w6_, w7_, w8_, w9_, w10_, nI_add]
                      · try simp (disch := omega) only [nI_toInt, Int32.toInt_toInt64, not_true_eq_false, sI_off, r1e, r1m, w1_, w2_, w3_, w4_, w5_, w6_, w7_, w8_, w9_, w10_] at c73_7
                        try (exfalso; omega)
                        all_goals
                          skip
                          refine wa_iload_n dX6_hear_76 rfl ?_
                          refine wa_if_neT 103 dX6_hear_77 (by decide) (by decide) ?_
                          refine wa_aload_n dX6_hear_103 rfl ?_
                          refine wa_getI dX6_hear_104 fgX6_201 (by first | assumption | rfl) (by rfl) ?_
                          refine wa_iret dX6_hear_107 rfl ?_
                          refine ⟨?_, ?_⟩
                          · simp (disch := omega) only [sI_off, r1e, r1m, w4_]
                          · skip
                            refine Rel_W hrel ?relw ?fs ?fr ?fp ?fm
                            case fs =>
                              intro j_ hj_
                              refine ⟨?_, ?_, ?_, ?_, ?_, ?_, fun i_ hi_ => ?_, fun i_ hi_ => ?_⟩
                              all_goals
                                simp (disch := omega) only [sI_off, bI_off, sL_off, bL_off, r1l, r2l, rb1l, rb2l, r1m, r2m, rb1e, rb2e,r1e]
                            case fr =>
                              intro r_ hr_
                              refine ⟨?_, ?_, ?_, fun i_ hi_ => ?_⟩
                              all_goals
                                simp (disch := omega) only [sI_off, bI_off, sL_off, bL_off, r1l, r2l, rb1l, rb2l, r1m, r2m, rb1e, rb2e,r1e]
                            case fp =>
                              refine ⟨?_, ?_, ?_, ?_, ?_⟩
                              all_goals
                                simp (disch := omega) only [sI_off, bI_off, sL_off, bL_off, r1l, r2l, rb1l, rb2l, r1m, r2m, rb1e, rb2e,r1e]
                            case fm =>
                              refine ⟨?_, ?_, fun q_ ha_ hb_ => ?_⟩
                              all_goals
                                simp (disch := omega) only [sI_off, bI_off, sL_off, bL_off, r1l, r2l, rb1l, rb2l, r1m, r2m, rb1e, rb2e,r1e]
                            case relw =>
                              refine ⟨x_ + 1, (c_ + 1), (x_ + 1), by omega, by omega, by omega, by omega, ?_, ?_, ?_, ?_, ?_, ?_, ?_, ?_, ?_, ?_⟩
                              all_goals simp (disch := omega) only [sI_off, r1e, r1m, w1_, w2_, w3_, w4_, w5_, w6_, w7_, w8_, w9_, w10_, nI_add]
          · try simp (disch := omega) only [nI_toInt, Int32.toInt_toInt64, not_true_eq_false, sI_off, r1e, r1m, w1_, w2_, w3_, w4_, w5_, w6_, w7_, w8_, w9_, w10_] at c27_2
            try (exfalso; omega)
            all_goals
              skip
              refine wa_iconst (nI 0) dX6_hear_30 (by decide) ?_
              refine wa_goto 38 dX6_hear_31 (by decide) ?_
              refine wa_istore_n dX6_hear_38 (by decide) ?_
              refine wa_aload_n dX6_hear_39 rfl ?_
              refine wa_getI dX6_hear_40 fgX6_198 (by first | assumption | rfl) (by rfl) ?_
              refine wa_if_le 66 dX6_hear_43 (by decide) (fun c43_8 => ?_) (fun c43_8 => ?_)
              · try simp (disch := omega) only [nI_toInt, Int32.toInt_toInt64, not_true_eq_false, sI_off, r1e, r1m, w1_, w2_, w3_, w4_, w5_, w6_, w7_, w8_, w9_, w10_] at c43_8
                try (exfalso; omega)
                all_goals
                  skip
                  refine wa_iconst (nI 0) dX6_hear_66 (by decide) ?_
                  refine wa_istore_n dX6_hear_67 (by decide) ?_
                  refine wa_iload_n dX6_hear_68 rfl ?_
                  refine wa_aload_n dX6_hear_69 rfl ?_
                  refine wa_getI dX6_hear_70 fgX6_201 (by first | assumption | rfl) (by rfl) ?_
                  refine wa_ic_eq 103 dX6_hear_73 (by decide) (fun c73_9 => ?_) (fun c73_9 => ?_)
                  · try simp (disch := omega) only [nI_toInt, Int32.toInt_toInt64, not_true_eq_false, sI_off, r1e, r1m, w1_, w2_, w3_, w4_, w5_, w6_, w7_, w8_, w9_, w10_] at c73_9
                    try (exfalso; omega)
                    all_goals
                      skip
                      refine wa_aload_n dX6_hear_103 rfl ?_
                      refine wa_getI dX6_hear_104 fgX6_201 (by first | assumption | rfl) (by rfl) ?_
                      refine wa_iret dX6_hear_107 rfl ?_
                      refine ⟨?_, ?_⟩
                      · simp (disch := omega) only [sI_off, r1e, r1m, w4_]
                      · skip
                        refine Rel_W hrel ?relw ?fs ?fr ?fp ?fm
                        case fs =>
                          intro j_ hj_
                          refine ⟨?_, ?_, ?_, ?_, ?_, ?_, fun i_ hi_ => ?_, fun i_ hi_ => ?_⟩
                          all_goals
                            simp (disch := omega) only [sI_off, bI_off, sL_off, bL_off, r1l, r2l, rb1l, rb2l, r1m, r2m, rb1e, rb2e,r1e]
                        case fr =>
                          intro r_ hr_
                          refine ⟨?_, ?_, ?_, fun i_ hi_ => ?_⟩
                          all_goals
                            simp (disch := omega) only [sI_off, bI_off, sL_off, bL_off, r1l, r2l, rb1l, rb2l, r1m, r2m, rb1e, rb2e,r1e]
                        case fp =>
                          refine ⟨?_, ?_, ?_, ?_, ?_⟩
                          all_goals
                            simp (disch := omega) only [sI_off, bI_off, sL_off, bL_off, r1l, r2l, rb1l, rb2l, r1m, r2m, rb1e, rb2e,r1e]
                        case fm =>
                          refine ⟨?_, ?_, fun q_ ha_ hb_ => ?_⟩
                          all_goals
                            simp (disch := omega) only [sI_off, bI_off, sL_off, bL_off, r1l, r2l, rb1l, rb2l, r1m, r2m, rb1e, rb2e,r1e]
                        case relw =>
                          refine ⟨x_ + 1, (c_ + 1), (x_ + 1), by omega, by omega, by omega, by omega, ?_, ?_, ?_, ?_, ?_, ?_, ?_, ?_, ?_, ?_⟩
                          all_goals simp (disch := omega) only [sI_off, r1e, r1m, w1_, w2_, w3_, w4_, w5_, w6_, w7_, w8_, w9_, w10_, nI_add]
                  · try simp (disch := omega) only [nI_toInt, Int32.toInt_toInt64, not_true_eq_false, sI_off, r1e, r1m, w1_, w2_, w3_, w4_, w5_, w6_, w7_, w8_, w9_, w10_] at c73_9
                    try (exfalso; omega)
                    all_goals
                      skip
                      refine wa_iload_n dX6_hear_76 rfl ?_
                      refine wa_if_neF 103 dX6_hear_77 (by decide) (by decide) ?_
                      refine wa_aload_n dX6_hear_80 rfl ?_
                      refine wa_iload_n dX6_hear_81 rfl ?_
                      refine wa_putI dX6_hear_82 fgX6_201 fw6_17 (by first | assumption | rfl) (by rfl) ?_
                      refine wa_aload_n dX6_hear_85 rfl ?_
                      refine wa_aload_n dX6_hear_86 rfl ?_
                      refine wa_getI dX6_hear_87 fgX6_192 (by first | assumption | rfl) (by rfl) ?_
                      refine wa_putI dX6_hear_90 fgX6_198 fw6_16 (by first | assumption | rfl) (by rfl) ?_
                      refine wa_aload_n dX6_hear_93 rfl ?_
                      first | refine wa_dupr dX6_hear_94 ?_ | refine wa_dupi dX6_hear_94 ?_
                      refine wa_getI dX6_hear_95 fgX6_195 (by first | assumption | rfl) (by rfl) ?_
                      refine wa_iconst (nI 1) dX6_hear_98 (by decide) ?_
                      refine wa_iadd dX6_hear_99 ?_
                      refine wa_putI dX6_hear_100 fgX6_195 fw6_15 (by first | assumption | rfl) (by rfl) ?_
                      refine wa_aload_n dX6_hear_103 rfl ?_
                      refine wa_getI dX6_hear_104 fgX6_201 (by first | assumption | rfl) (by rfl) ?_
                      refine wa_iret dX6_hear_107 rfl ?_
                      refine ⟨?_, ?_⟩
                      · simp (disch := omega) only [sI_off, r1e, r1m, w4_]
                      · skip
                        refine Rel_W hrel ?relw ?fs ?fr ?fp ?fm
                        case fs =>
                          intro j_ hj_
                          refine ⟨?_, ?_, ?_, ?_, ?_, ?_, fun i_ hi_ => ?_, fun i_ hi_ => ?_⟩
                          all_goals
                            simp (disch := omega) only [sI_off, bI_off, sL_off, bL_off, r1l, r2l, rb1l, rb2l, r1m, r2m, rb1e, rb2e,r1e]
                        case fr =>
                          intro r_ hr_
                          refine ⟨?_, ?_, ?_, fun i_ hi_ => ?_⟩
                          all_goals
                            simp (disch := omega) only [sI_off, bI_off, sL_off, bL_off, r1l, r2l, rb1l, rb2l, r1m, r2m, rb1e, rb2e,r1e]
                        case fp =>
                          refine ⟨?_, ?_, ?_, ?_, ?_⟩
                          all_goals
                            simp (disch := omega) only [sI_off, bI_off, sL_off, bL_off, r1l, r2l, rb1l, rb2l, r1m, r2m, rb1e, rb2e,r1e]
                        case fm =>
                          refine ⟨?_, ?_, fun q_ ha_ hb_ => ?_⟩
                          all_goals
                            simp (disch := omega) only [sI_off, bI_off, sL_off, bL_off, r1l, r2l, rb1l, rb2l, r1m, r2m, rb1e, rb2e,r1e]
                        case relw =>
                          refine ⟨x_ + 1, (c_ + 1), (x_ + 1), by omega, by omega, by omega, by omega, ?_, ?_, ?_, ?_, ?_, ?_, ?_, ?_, ?_, ?_⟩
                          all_goals simp (disch := omega) only [sI_off, r1e, r1m, w1_, w2_, w3_, w4_, w5_, w6_, w7_, w8_, w9_, w10_, nI_add]
              · try simp (disch := omega) only [nI_toInt, Int32.toInt_toInt64, not_true_eq_false, sI_off, r1e, r1m, w1_, w2_, w3_, w4_, w5_, w6_, w7_, w8_, w9_, w10_] at c43_8
                try (exfalso; omega)
                all_goals
                  skip
                  refine wa_aload_n dX6_hear_46 rfl ?_
                  refine wa_getI dX6_hear_47 fgX6_192 (by first | assumption | rfl) (by rfl) ?_
                  refine wa_aload_n dX6_hear_50 rfl ?_
                  refine wa_getI dX6_hear_51 fgX6_198 (by first | assumption | rfl) (by rfl) ?_
                  refine wa_isub dX6_hear_54 ?_
                  refine wa_aload_n dX6_hear_55 rfl ?_
                  refine wa_getI dX6_hear_56 fgX6_189 (by first | assumption | rfl) (by rfl) ?_
                  refine wa_ic_gt 66 dX6_hear_59 (by decide) (fun c59_10 => ?_) (fun c59_10 => ?_)
                  · try simp (disch := omega) only [nI_toInt, Int32.toInt_toInt64, not_true_eq_false, sI_off, r1e, r1m, w1_, w2_, w3_, w4_, w5_, w6_, w7_, w8_, w9_, w10_] at c59_10
                    try (exfalso; omega)
                    all_goals
                      skip
                      refine wa_iconst (nI 0) dX6_hear_66 (by decide) ?_
                      refine wa_istore_n dX6_hear_67 (by decide) ?_
                      refine wa_iload_n dX6_hear_68 rfl ?_
                      refine wa_aload_n dX6_hear_69 rfl ?_
                      refine wa_getI dX6_hear_70 fgX6_201 (by first | assumption | rfl) (by rfl) ?_
                      refine wa_ic_eq 103 dX6_hear_73 (by decide) (fun c73_11 => ?_) (fun c73_11 => ?_)
                      · try simp (disch := omega) only [nI_toInt, Int32.toInt_toInt64, not_true_eq_false, sI_off, r1e, r1m, w1_, w2_, w3_, w4_, w5_, w6_, w7_, w8_, w9_, w10_] at c73_11
                        try (exfalso; omega)
                        all_goals
                          skip
                          refine wa_aload_n dX6_hear_103 rfl ?_
                          refine wa_getI dX6_hear_104 fgX6_201 (by first | assumption | rfl) (by rfl) ?_
                          refine wa_iret dX6_hear_107 rfl ?_
                          refine ⟨?_, ?_⟩
                          · simp (disch := omega) only [sI_off, r1e, r1m, w4_]
                          · skip
                            refine Rel_W hrel ?relw ?fs ?fr ?fp ?fm
                            case fs =>
                              intro j_ hj_
                              refine ⟨?_, ?_, ?_, ?_, ?_, ?_, fun i_ hi_ => ?_, fun i_ hi_ => ?_⟩
                              all_goals
                                simp (disch := omega) only [sI_off, bI_off, sL_off, bL_off, r1l, r2l, rb1l, rb2l, r1m, r2m, rb1e, rb2e,r1e]
                            case fr =>
                              intro r_ hr_
                              refine ⟨?_, ?_, ?_, fun i_ hi_ => ?_⟩
                              all_goals
                                simp (disch := omega) only [sI_off, bI_off, sL_off, bL_off, r1l, r2l, rb1l, rb2l, r1m, r2m, rb1e, rb2e,r1e]
                            case fp =>
                              refine ⟨?_, ?_, ?_, ?_, ?_⟩
                              all_goals
                                simp (disch := omega) only [sI_off, bI_off, sL_off, bL_off, r1l, r2l, rb1l, rb2l, r1m, r2m, rb1e, rb2e,r1e]
                            case fm =>
                              refine ⟨?_, ?_, fun q_ ha_ hb_ => ?_⟩
                              all_goals
                                simp (disch := omega) only [sI_off, bI_off, sL_off, bL_off, r1l, r2l, rb1l, rb2l, r1m, r2m, rb1e, rb2e,r1e]
                            case relw =>
                              refine ⟨x_ + 1, (c_ + 1), (x_ + 1), by omega, by omega, by omega, by omega, ?_, ?_, ?_, ?_, ?_, ?_, ?_, ?_, ?_, ?_⟩
                              all_goals simp (disch := omega) only [sI_off, r1e, r1m, w1_, w2_, w3_, w4_, w5_, w6_, w7_, w8_, w9_, w10_, nI_add]
                      · try simp (disch := omega) only [nI_toInt, Int32.toInt_toInt64, not_true_eq_false, sI_off, r1e, r1m, w1_, w2_, w3_, w4_, w5_, w6_, w7_, w8_, w9_, w10_] at c73_11
                        try (exfalso; omega)
                        all_goals
                          skip
                          refine wa_iload_n dX6_hear_76 rfl ?_
                          refine wa_if_neF 103 dX6_hear_77 (by decide) (by decide) ?_
                          refine wa_aload_n dX6_hear_80 rfl ?_
                          refine wa_iload_n dX6_hear_81 rfl ?_
                          refine wa_putI dX6_hear_82 fgX6_201 fw6_17 (by first | assumption | rfl) (by rfl) ?_
                          refine wa_aload_n dX6_hear_85 rfl ?_
                          refine wa_aload_n dX6_hear_86 rfl ?_
                          refine wa_getI dX6_hear_87 fgX6_192 (by first | assumption | rfl) (by rfl) ?_
                          refine wa_putI dX6_hear_90 fgX6_198 fw6_16 (by first | assumption | rfl) (by rfl) ?_
                          refine wa_aload_n dX6_hear_93 rfl ?_
                          first | refine wa_dupr dX6_hear_94 ?_ | refine wa_dupi dX6_hear_94 ?_
                          refine wa_getI dX6_hear_95 fgX6_195 (by first | assumption | rfl) (by rfl) ?_
                          refine wa_iconst (nI 1) dX6_hear_98 (by decide) ?_
                          refine wa_iadd dX6_hear_99 ?_
                          refine wa_putI dX6_hear_100 fgX6_195 fw6_15 (by first | assumption | rfl) (by rfl) ?_
                          refine wa_aload_n dX6_hear_103 rfl ?_
                          refine wa_getI dX6_hear_104 fgX6_201 (by first | assumption | rfl) (by rfl) ?_
                          refine wa_iret dX6_hear_107 rfl ?_
                          refine ⟨?_, ?_⟩
                          · simp (disch := omega) only [sI_off, r1e, r1m, w4_]
                          · skip
                            refine Rel_W hrel ?relw ?fs ?fr ?fp ?fm
                            case fs =>
                              intro j_ hj_
                              refine ⟨?_, ?_, ?_, ?_, ?_, ?_, fun i_ hi_ => ?_, fun i_ hi_ => ?_⟩
                              all_goals
                                simp (disch := omega) only [sI_off, bI_off, sL_off, bL_off, r1l, r2l, rb1l, rb2l, r1m, r2m, rb1e, rb2e,r1e]
                            case fr =>
                              intro r_ hr_
                              refine ⟨?_, ?_, ?_, fun i_ hi_ => ?_⟩
                              all_goals
                                simp (disch := omega) only [sI_off, bI_off, sL_off, bL_off, r1l, r2l, rb1l, rb2l, r1m, r2m, rb1e, rb2e,r1e]
                            case fp =>
                              refine ⟨?_, ?_, ?_, ?_, ?_⟩
                              all_goals
                                simp (disch := omega) only [sI_off, bI_off, sL_off, bL_off, r1l, r2l, rb1l, rb2l, r1m, r2m, rb1e, rb2e,r1e]
                            case fm =>
                              refine ⟨?_, ?_, fun q_ ha_ hb_ => ?_⟩
                              all_goals
                                simp (disch := omega) only [sI_off, bI_off, sL_off, bL_off, r1l, r2l, rb1l, rb2l, r1m, r2m, rb1e, rb2e,r1e]
                            case relw =>
                              refine ⟨x_ + 1, (c_ + 1), (x_ + 1), by omega, by omega, by omega, by omega, ?_, ?_, ?_, ?_, ?_, ?_, ?_, ?_, ?_, ?_⟩
                              all_goals simp (disch := omega) only [sI_off, r1e, r1m, w1_, w2_, w3_, w4_, w5_, w6_, w7_, w8_, w9_, w10_, nI_add]
                  · try simp (disch := omega) only [nI_toInt, Int32.toInt_toInt64, not_true_eq_false, sI_off, r1e, r1m, w1_, w2_, w3_, w4_, w5_, w6_, w7_, w8_, w9_, w10_] at c59_10
                    try (exfalso; omega)
                    all_goals
                      skip
                      refine wa_iconst (nI 1) dX6_hear_62 (by decide) ?_
                      refine wa_goto 67 dX6_hear_63 (by decide) ?_
                      refine wa_istore_n dX6_hear_67 (by decide) ?_
                      refine wa_iload_n dX6_hear_68 rfl ?_
                      refine wa_aload_n dX6_hear_69 rfl ?_
                      refine wa_getI dX6_hear_70 fgX6_201 (by first | assumption | rfl) (by rfl) ?_
                      refine wa_ic_eq 103 dX6_hear_73 (by decide) (fun c73_12 => ?_) (fun c73_12 => ?_)
                      · try simp (disch := omega) only [nI_toInt, Int32.toInt_toInt64, not_true_eq_false, sI_off, r1e, r1m, w1_, w2_, w3_, w4_, w5_, w6_, w7_, w8_, w9_, w10_] at c73_12
                        try (exfalso; omega)
                        all_goals
                          skip
                          refine wa_aload_n dX6_hear_103 rfl ?_
                          refine wa_getI dX6_hear_104 fgX6_201 (by first | assumption | rfl) (by rfl) ?_
                          refine wa_iret dX6_hear_107 rfl ?_
                          refine ⟨?_, ?_⟩
                          · simp (disch := omega) only [sI_off, r1e, r1m, w4_]
                          · skip
                            refine Rel_W hrel ?relw ?fs ?fr ?fp ?fm
                            case fs =>
                              intro j_ hj_
                              refine ⟨?_, ?_, ?_, ?_, ?_, ?_, fun i_ hi_ => ?_, fun i_ hi_ => ?_⟩
                              all_goals
                                simp (disch := omega) only [sI_off, bI_off, sL_off, bL_off, r1l, r2l, rb1l, rb2l, r1m, r2m, rb1e, rb2e,r1e]
                            case fr =>
                              intro r_ hr_
                              refine ⟨?_, ?_, ?_, fun i_ hi_ => ?_⟩
                              all_goals
                                simp (disch := omega) only [sI_off, bI_off, sL_off, bL_off, r1l, r2l, rb1l, rb2l, r1m, r2m, rb1e, rb2e,r1e]
                            case fp =>
                              refine ⟨?_, ?_, ?_, ?_, ?_⟩
                              all_goals
                                simp (disch := omega) only [sI_off, bI_off, sL_off, bL_off, r1l, r2l, rb1l, rb2l, r1m, r2m, rb1e, rb2e,r1e]
                            case fm =>
                              refine ⟨?_, ?_, fun q_ ha_ hb_ => ?_⟩
                              all_goals
                                simp (disch := omega) only [sI_off, bI_off, sL_off, bL_off, r1l, r2l, rb1l, rb2l, r1m, r2m, rb1e, rb2e,r1e]
                            case relw =>
                              refine ⟨x_ + 1, (c_ + 1), (x_ + 1), by omega, by omega, by omega, by omega, ?_, ?_, ?_, ?_, ?_, ?_, ?_, ?_, ?_, ?_⟩
                              all_goals simp (disch := omega) only [sI_off, r1e, r1m, w1_, w2_, w3_, w4_, w5_, w6_, w7_, w8_, w9_, w10_, nI_add]
                      · try simp (disch := omega) only [nI_toInt, Int32.toInt_toInt64, not_true_eq_false, sI_off, r1e, r1m, w1_, w2_, w3_, w4_, w5_, w6_, w7_, w8_, w9_, w10_] at c73_12
                        try (exfalso; omega)
                        all_goals
                          skip
                          refine wa_iload_n dX6_hear_76 rfl ?_
                          refine wa_if_neT 103 dX6_hear_77 (by decide) (by decide) ?_
                          refine wa_aload_n dX6_hear_103 rfl ?_
                          refine wa_getI dX6_hear_104 fgX6_201 (by first | assumption | rfl) (by rfl) ?_
                          refine wa_iret dX6_hear_107 rfl ?_
                          refine ⟨?_, ?_⟩
                          · simp (disch := omega) only [sI_off, r1e, r1m, w4_]
                          · skip
                            refine Rel_W hrel ?relw ?fs ?fr ?fp ?fm
                            case fs =>
                              intro j_ hj_
                              refine ⟨?_, ?_, ?_, ?_, ?_, ?_, fun i_ hi_ => ?_, fun i_ hi_ => ?_⟩
                              all_goals
                                simp (disch := omega) only [sI_off, bI_off, sL_off, bL_off, r1l, r2l, rb1l, rb2l, r1m, r2m, rb1e, rb2e,r1e]
                            case fr =>
                              intro r_ hr_
                              refine ⟨?_, ?_, ?_, fun i_ hi_ => ?_⟩
                              all_goals
                                simp (disch := omega) only [sI_off, bI_off, sL_off, bL_off, r1l, r2l, rb1l, rb2l, r1m, r2m, rb1e, rb2e,r1e]
                            case fp =>
                              refine ⟨?_, ?_, ?_, ?_, ?_⟩
                              all_goals
                                simp (disch := omega) only [sI_off, bI_off, sL_off, bL_off, r1l, r2l, rb1l, rb2l, r1m, r2m, rb1e, rb2e,r1e]
                            case fm =>
                              refine ⟨?_, ?_, fun q_ ha_ hb_ => ?_⟩
                              all_goals
                                simp (disch := omega) only [sI_off, bI_off, sL_off, bL_off, r1l, r2l, rb1l, rb2l, r1m, r2m, rb1e, rb2e,r1e]
                            case relw =>
                              refine ⟨x_ + 1, (c_ + 1), (x_ + 1), by omega, by omega, by omega, by omega, ?_, ?_, ?_, ?_, ?_, ?_, ?_, ?_, ?_, ?_⟩
                              all_goals simp (disch := omega) only [sI_off, r1e, r1m, w1_, w2_, w3_, w4_, w5_, w6_, w7_, w8_, w9_, w10_, nI_add]
      · try simp (disch := omega) only [nI_toInt, Int32.toInt_toInt64, not_true_eq_false, sI_off, r1e, r1m, w1_, w2_, w3_, w4_, w5_, w6_, w7_, w8_, w9_, w10_] at c15_1
        try (exfalso; omega)
        all_goals
          skip
          refine wa_iconst (nI 1) dX6_hear_18 (by decide) ?_
          refine wa_goto 38 dX6_hear_19 (by decide) ?_
          refine wa_istore_n dX6_hear_38 (by decide) ?_
          refine wa_aload_n dX6_hear_39 rfl ?_
          refine wa_getI dX6_hear_40 fgX6_198 (by first | assumption | rfl) (by rfl) ?_
          refine wa_if_le 66 dX6_hear_43 (by decide) (fun c43_13 => ?_) (fun c43_13 => ?_)
          · try simp (disch := omega) only [nI_toInt, Int32.toInt_toInt64, not_true_eq_false, sI_off, r1e, r1m, w1_, w2_, w3_, w4_, w5_, w6_, w7_, w8_, w9_, w10_] at c43_13
            try (exfalso; omega)
            all_goals
              skip
              refine wa_iconst (nI 0) dX6_hear_66 (by decide) ?_
              refine wa_istore_n dX6_hear_67 (by decide) ?_
              refine wa_iload_n dX6_hear_68 rfl ?_
              refine wa_aload_n dX6_hear_69 rfl ?_
              refine wa_getI dX6_hear_70 fgX6_201 (by first | assumption | rfl) (by rfl) ?_
              refine wa_ic_eq 103 dX6_hear_73 (by decide) (fun c73_14 => ?_) (fun c73_14 => ?_)
              · try simp (disch := omega) only [nI_toInt, Int32.toInt_toInt64, not_true_eq_false, sI_off, r1e, r1m, w1_, w2_, w3_, w4_, w5_, w6_, w7_, w8_, w9_, w10_] at c73_14
                try (exfalso; omega)
                all_goals
                  skip
                  refine wa_aload_n dX6_hear_103 rfl ?_
                  refine wa_getI dX6_hear_104 fgX6_201 (by first | assumption | rfl) (by rfl) ?_
                  refine wa_iret dX6_hear_107 rfl ?_
                  refine ⟨?_, ?_⟩
                  · simp (disch := omega) only [sI_off, r1e, r1m, w4_]
                  · skip
                    refine Rel_W hrel ?relw ?fs ?fr ?fp ?fm
                    case fs =>
                      intro j_ hj_
                      refine ⟨?_, ?_, ?_, ?_, ?_, ?_, fun i_ hi_ => ?_, fun i_ hi_ => ?_⟩
                      all_goals
                        simp (disch := omega) only [sI_off, bI_off, sL_off, bL_off, r1l, r2l, rb1l, rb2l, r1m, r2m, rb1e, rb2e,r1e]
                    case fr =>
                      intro r_ hr_
                      refine ⟨?_, ?_, ?_, fun i_ hi_ => ?_⟩
                      all_goals
                        simp (disch := omega) only [sI_off, bI_off, sL_off, bL_off, r1l, r2l, rb1l, rb2l, r1m, r2m, rb1e, rb2e,r1e]
                    case fp =>
                      refine ⟨?_, ?_, ?_, ?_, ?_⟩
                      all_goals
                        simp (disch := omega) only [sI_off, bI_off, sL_off, bL_off, r1l, r2l, rb1l, rb2l, r1m, r2m, rb1e, rb2e,r1e]
                    case fm =>
                      refine ⟨?_, ?_, fun q_ ha_ hb_ => ?_⟩
                      all_goals
                        simp (disch := omega) only [sI_off, bI_off, sL_off, bL_off, r1l, r2l, rb1l, rb2l, r1m, r2m, rb1e, rb2e,r1e]
                    case relw =>
                      refine ⟨x_ + 1, (c_ + 1), (x_ + 1), by omega, by omega, by omega, by omega, ?_, ?_, ?_, ?_, ?_, ?_, ?_, ?_, ?_, ?_⟩
                      all_goals simp (disch := omega) only [sI_off, r1e, r1m, w1_, w2_, w3_, w4_, w5_, w6_, w7_, w8_, w9_, w10_, nI_add]
              · try simp (disch := omega) only [nI_toInt, Int32.toInt_toInt64, not_true_eq_false, sI_off, r1e, r1m, w1_, w2_, w3_, w4_, w5_, w6_, w7_, w8_, w9_, w10_] at c73_14
                try (exfalso; omega)
                all_goals
                  skip
                  refine wa_iload_n dX6_hear_76 rfl ?_
                  refine wa_if_neF 103 dX6_hear_77 (by decide) (by decide) ?_
                  refine wa_aload_n dX6_hear_80 rfl ?_
                  refine wa_iload_n dX6_hear_81 rfl ?_
                  refine wa_putI dX6_hear_82 fgX6_201 fw6_17 (by first | assumption | rfl) (by rfl) ?_
                  refine wa_aload_n dX6_hear_85 rfl ?_
                  refine wa_aload_n dX6_hear_86 rfl ?_
                  refine wa_getI dX6_hear_87 fgX6_192 (by first | assumption | rfl) (by rfl) ?_
                  refine wa_putI dX6_hear_90 fgX6_198 fw6_16 (by first | assumption | rfl) (by rfl) ?_
                  refine wa_aload_n dX6_hear_93 rfl ?_
                  first | refine wa_dupr dX6_hear_94 ?_ | refine wa_dupi dX6_hear_94 ?_
                  refine wa_getI dX6_hear_95 fgX6_195 (by first | assumption | rfl) (by rfl) ?_
                  refine wa_iconst (nI 1) dX6_hear_98 (by decide) ?_
                  refine wa_iadd dX6_hear_99 ?_
                  refine wa_putI dX6_hear_100 fgX6_195 fw6_15 (by first | assumption | rfl) (by rfl) ?_
                  refine wa_aload_n dX6_hear_103 rfl ?_
                  refine wa_getI dX6_hear_104 fgX6_201 (by first | assumption | rfl) (by rfl) ?_
                  refine wa_iret dX6_hear_107 rfl ?_
                  refine ⟨?_, ?_⟩
                  · simp (disch := omega) only [sI_off, r1e, r1m, w4_]
                  · skip
                    refine Rel_W hrel ?relw ?fs ?fr ?fp ?fm
                    case fs =>
                      intro j_ hj_
                      refine ⟨?_, ?_, ?_, ?_, ?_, ?_, fun i_ hi_ => ?_, fun i_ hi_ => ?_⟩
                      all_goals
                        simp (disch := omega) only [sI_off, bI_off, sL_off, bL_off, r1l, r2l, rb1l, rb2l, r1m, r2m, rb1e, rb2e,r1e]
                    case fr =>
                      intro r_ hr_
                      refine ⟨?_, ?_, ?_, fun i_ hi_ => ?_⟩
                      all_goals
                        simp (disch := omega) only [sI_off, bI_off, sL_off, bL_off, r1l, r2l, rb1l, rb2l, r1m, r2m, rb1e, rb2e,r1e]
                    case fp =>
                      refine ⟨?_, ?_, ?_, ?_, ?_⟩
                      all_goals
                        simp (disch := omega) only [sI_off, bI_off, sL_off, bL_off, r1l, r2l, rb1l, rb2l, r1m, r2m, rb1e, rb2e,r1e]
                    case fm =>
                      refine ⟨?_, ?_, fun q_ ha_ hb_ => ?_⟩
                      all_goals
                        simp (disch := omega) only [sI_off, bI_off, sL_off, bL_off, r1l, r2l, rb1l, rb2l, r1m, r2m, rb1e, rb2e,r1e]
                    case relw =>
                      refine ⟨x_ + 1, (c_ + 1), (x_ + 1), by omega, by omega, by omega, by omega, ?_, ?_, ?_, ?_, ?_, ?_, ?_, ?_, ?_, ?_⟩
                      all_goals simp (disch := omega) only [sI_off, r1e, r1m, w1_, w2_, w3_, w4_, w5_, w6_, w7_, w8_, w9_, w10_, nI_add]
          · try simp (disch := omega) only [nI_toInt, Int32.toInt_toInt64, not_true_eq_false, sI_off, r1e, r1m, w1_, w2_, w3_, w4_, w5_, w6_, w7_, w8_, w9_, w10_] at c43_13
            try (exfalso; omega)
            all_goals
              skip
              refine wa_aload_n dX6_hear_46 rfl ?_
              refine wa_getI dX6_hear_47 fgX6_192 (by first | assumption | rfl) (by rfl) ?_
              refine wa_aload_n dX6_hear_50 rfl ?_
              refine wa_getI dX6_hear_51 fgX6_198 (by first | assumption | rfl) (by rfl) ?_
              refine wa_isub dX6_hear_54 ?_
              refine wa_aload_n dX6_hear_55 rfl ?_
              refine wa_getI dX6_hear_56 fgX6_189 (by first | assumption | rfl) (by rfl) ?_
              refine wa_ic_gt 66 dX6_hear_59 (by decide) (fun c59_15 => ?_) (fun c59_15 => ?_)
              · try simp (disch := omega) only [nI_toInt, Int32.toInt_toInt64, not_true_eq_false, sI_off, r1e, r1m, w1_, w2_, w3_, w4_, w5_, w6_, w7_, w8_, w9_, w10_] at c59_15
                try (exfalso; omega)
                all_goals
                  skip
                  refine wa_iconst (nI 0) dX6_hear_66 (by decide) ?_
                  refine wa_istore_n dX6_hear_67 (by decide) ?_
                  refine wa_iload_n dX6_hear_68 rfl ?_
                  refine wa_aload_n dX6_hear_69 rfl ?_
                  refine wa_getI dX6_hear_70 fgX6_201 (by first | assumption | rfl) (by rfl) ?_
                  refine wa_ic_eq 103 dX6_hear_73 (by decide) (fun c73_16 => ?_) (fun c73_16 => ?_)
                  · try simp (disch := omega) only [nI_toInt, Int32.toInt_toInt64, not_true_eq_false, sI_off, r1e, r1m, w1_, w2_, w3_, w4_, w5_, w6_, w7_, w8_, w9_, w10_] at c73_16
                    try (exfalso; omega)
                    all_goals
                      skip
                      refine wa_aload_n dX6_hear_103 rfl ?_
                      refine wa_getI dX6_hear_104 fgX6_201 (by first | assumption | rfl) (by rfl) ?_
                      refine wa_iret dX6_hear_107 rfl ?_
                      refine ⟨?_, ?_⟩
                      · simp (disch := omega) only [sI_off, r1e, r1m, w4_]
                      · skip
                        refine Rel_W hrel ?relw ?fs ?fr ?fp ?fm
                        case fs =>
                          intro j_ hj_
                          refine ⟨?_, ?_, ?_, ?_, ?_, ?_, fun i_ hi_ => ?_, fun i_ hi_ => ?_⟩
                          all_goals
                            simp (disch := omega) only [sI_off, bI_off, sL_off, bL_off, r1l, r2l, rb1l, rb2l, r1m, r2m, rb1e, rb2e,r1e]
                        case fr =>
                          intro r_ hr_
                          refine ⟨?_, ?_, ?_, fun i_ hi_ => ?_⟩
                          all_goals
                            simp (disch := omega) only [sI_off, bI_off, sL_off, bL_off, r1l, r2l, rb1l, rb2l, r1m, r2m, rb1e, rb2e,r1e]
                        case fp =>
                          refine ⟨?_, ?_, ?_, ?_, ?_⟩
                          all_goals
                            simp (disch := omega) only [sI_off, bI_off, sL_off, bL_off, r1l, r2l, rb1l, rb2l, r1m, r2m, rb1e, rb2e,r1e]
                        case fm =>
                          refine ⟨?_, ?_, fun q_ ha_ hb_ => ?_⟩
                          all_goals
                            simp (disch := omega) only [sI_off, bI_off, sL_off, bL_off, r1l, r2l, rb1l, rb2l, r1m, r2m, rb1e, rb2e,r1e]
                        case relw =>
                          refine ⟨x_ + 1, (c_ + 1), (x_ + 1), by omega, by omega, by omega, by omega, ?_, ?_, ?_, ?_, ?_, ?_, ?_, ?_, ?_, ?_⟩
                          all_goals simp (disch := omega) only [sI_off, r1e, r1m, w1_, w2_, w3_, w4_, w5_, w6_, w7_, w8_, w9_, w10_, nI_add]
                  · try simp (disch := omega) only [nI_toInt, Int32.toInt_toInt64, not_true_eq_false, sI_off, r1e, r1m, w1_, w2_, w3_, w4_, w5_, w6_, w7_, w8_, w9_, w10_] at c73_16
                    try (exfalso; omega)
                    all_goals
                      skip
                      refine wa_iload_n dX6_hear_76 rfl ?_
                      refine wa_if_neF 103 dX6_hear_77 (by decide) (by decide) ?_
                      refine wa_aload_n dX6_hear_80 rfl ?_
                      refine wa_iload_n dX6_hear_81 rfl ?_
                      refine wa_putI dX6_hear_82 fgX6_201 fw6_17 (by first | assumption | rfl) (by rfl) ?_
                      refine wa_aload_n dX6_hear_85 rfl ?_
                      refine wa_aload_n dX6_hear_86 rfl ?_
                      refine wa_getI dX6_hear_87 fgX6_192 (by first | assumption | rfl) (by rfl) ?_
                      refine wa_putI dX6_hear_90 fgX6_198 fw6_16 (by first | assumption | rfl) (by rfl) ?_
                      refine wa_aload_n dX6_hear_93 rfl ?_
                      first | refine wa_dupr dX6_hear_94 ?_ | refine wa_dupi dX6_hear_94 ?_
                      refine wa_getI dX6_hear_95 fgX6_195 (by first | assumption | rfl) (by rfl) ?_
                      refine wa_iconst (nI 1) dX6_hear_98 (by decide) ?_
                      refine wa_iadd dX6_hear_99 ?_
                      refine wa_putI dX6_hear_100 fgX6_195 fw6_15 (by first | assumption | rfl) (by rfl) ?_
                      refine wa_aload_n dX6_hear_103 rfl ?_
                      refine wa_getI dX6_hear_104 fgX6_201 (by first | assumption | rfl) (by rfl) ?_
                      refine wa_iret dX6_hear_107 rfl ?_
                      refine ⟨?_, ?_⟩
                      · simp (disch := omega) only [sI_off, r1e, r1m, w4_]
                      · skip
                        refine Rel_W hrel ?relw ?fs ?fr ?fp ?fm
                        case fs =>
                          intro j_ hj_
                          refine ⟨?_, ?_, ?_, ?_, ?_, ?_, fun i_ hi_ => ?_, fun i_ hi_ => ?_⟩
                          all_goals
                            simp (disch := omega) only [sI_off, bI_off, sL_off, bL_off, r1l, r2l, rb1l, rb2l, r1m, r2m, rb1e, rb2e,r1e]
                        case fr =>
                          intro r_ hr_
                          refine ⟨?_, ?_, ?_, fun i_ hi_ => ?_⟩
                          all_goals
                            simp (disch := omega) only [sI_off, bI_off, sL_off, bL_off, r1l, r2l, rb1l, rb2l, r1m, r2m, rb1e, rb2e,r1e]
                        case fp =>
                          refine ⟨?_, ?_, ?_, ?_, ?_⟩
                          all_goals
                            simp (disch := omega) only [sI_off, bI_off, sL_off, bL_off, r1l, r2l, rb1l, rb2l, r1m, r2m, rb1e, rb2e,r1e]
                        case fm =>
                          refine ⟨?_, ?_, fun q_ ha_ hb_ => ?_⟩
                          all_goals
                            simp (disch := omega) only [sI_off, bI_off, sL_off, bL_off, r1l, r2l, rb1l, rb2l, r1m, r2m, rb1e, rb2e,r1e]
                        case relw =>
                          refine ⟨x_ + 1, (c_ + 1), (x_ + 1), by omega, by omega, by omega, by omega, ?_, ?_, ?_, ?_, ?_, ?_, ?_, ?_, ?_, ?_⟩
                          all_goals simp (disch := omega) only [sI_off, r1e, r1m, w1_, w2_, w3_, w4_, w5_, w6_, w7_, w8_, w9_, w10_, nI_add]
              · try simp (disch := omega) only [nI_toInt, Int32.toInt_toInt64, not_true_eq_false, sI_off, r1e, r1m, w1_, w2_, w3_, w4_, w5_, w6_, w7_, w8_, w9_, w10_] at c59_15
                try (exfalso; omega)
                all_goals
                  skip
                  refine wa_iconst (nI 1) dX6_hear_62 (by decide) ?_
                  refine wa_goto 67 dX6_hear_63 (by decide) ?_
                  refine wa_istore_n dX6_hear_67 (by decide) ?_
                  refine wa_iload_n dX6_hear_68 rfl ?_
                  refine wa_aload_n dX6_hear_69 rfl ?_
                  refine wa_getI dX6_hear_70 fgX6_201 (by first | assumption | rfl) (by rfl) ?_
                  refine wa_ic_eq 103 dX6_hear_73 (by decide) (fun c73_17 => ?_) (fun c73_17 => ?_)
                  · try simp (disch := omega) only [nI_toInt, Int32.toInt_toInt64, not_true_eq_false, sI_off, r1e, r1m, w1_, w2_, w3_, w4_, w5_, w6_, w7_, w8_, w9_, w10_] at c73_17
                    try (exfalso; omega)
                    all_goals
                      skip
                      refine wa_aload_n dX6_hear_103 rfl ?_
                      refine wa_getI dX6_hear_104 fgX6_201 (by first | assumption | rfl) (by rfl) ?_
                      refine wa_iret dX6_hear_107 rfl ?_
                      refine ⟨?_, ?_⟩
                      · simp (disch := omega) only [sI_off, r1e, r1m, w4_]
                      · skip
                        refine Rel_W hrel ?relw ?fs ?fr ?fp ?fm
                        case fs =>
                          intro j_ hj_
                          refine ⟨?_, ?_, ?_, ?_, ?_, ?_, fun i_ hi_ => ?_, fun i_ hi_ => ?_⟩
                          all_goals
                            simp (disch := omega) only [sI_off, bI_off, sL_off, bL_off, r1l, r2l, rb1l, rb2l, r1m, r2m, rb1e, rb2e,r1e]
                        case fr =>
                          intro r_ hr_
                          refine ⟨?_, ?_, ?_, fun i_ hi_ => ?_⟩
                          all_goals
                            simp (disch := omega) only [sI_off, bI_off, sL_off, bL_off, r1l, r2l, rb1l, rb2l, r1m, r2m, rb1e, rb2e,r1e]
                        case fp =>
                          refine ⟨?_, ?_, ?_, ?_, ?_⟩
                          all_goals
                            simp (disch := omega) only [sI_off, bI_off, sL_off, bL_off, r1l, r2l, rb1l, rb2l, r1m, r2m, rb1e, rb2e,r1e]
                        case fm =>
                          refine ⟨?_, ?_, fun q_ ha_ hb_ => ?_⟩
                          all_goals
                            simp (disch := omega) only [sI_off, bI_off, sL_off, bL_off, r1l, r2l, rb1l, rb2l, r1m, r2m, rb1e, rb2e,r1e]
                        case relw =>
                          refine ⟨x_ + 1, (c_ + 1), (x_ + 1), by omega, by omega, by omega, by omega, ?_, ?_, ?_, ?_, ?_, ?_, ?_, ?_, ?_, ?_⟩
                          all_goals simp (disch := omega) only [sI_off, r1e, r1m, w1_, w2_, w3_, w4_, w5_, w6_, w7_, w8_, w9_, w10_, nI_add]
                  · try simp (disch := omega) only [nI_toInt, Int32.toInt_toInt64, not_true_eq_false, sI_off, r1e, r1m, w1_, w2_, w3_, w4_, w5_, w6_, w7_, w8_, w9_, w10_] at c73_17
                    try (exfalso; omega)
                    all_goals
                      skip
                      refine wa_iload_n dX6_hear_76 rfl ?_
                      refine wa_if_neT 103 dX6_hear_77 (by decide) (by decide) ?_
                      refine wa_aload_n dX6_hear_103 rfl ?_
                      refine wa_getI dX6_hear_104 fgX6_201 (by first | assumption | rfl) (by rfl) ?_
                      refine wa_iret dX6_hear_107 rfl ?_
                      refine ⟨?_, ?_⟩
                      · simp (disch := omega) only [sI_off, r1e, r1m, w4_]
                      · skip
                        refine Rel_W hrel ?relw ?fs ?fr ?fp ?fm
                        case fs =>
                          intro j_ hj_
                          refine ⟨?_, ?_, ?_, ?_, ?_, ?_, fun i_ hi_ => ?_, fun i_ hi_ => ?_⟩
                          all_goals
                            simp (disch := omega) only [sI_off, bI_off, sL_off, bL_off, r1l, r2l, rb1l, rb2l, r1m, r2m, rb1e, rb2e,r1e]
                        case fr =>
                          intro r_ hr_
                          refine ⟨?_, ?_, ?_, fun i_ hi_ => ?_⟩
                          all_goals
                            simp (disch := omega) only [sI_off, bI_off, sL_off, bL_off, r1l, r2l, rb1l, rb2l, r1m, r2m, rb1e, rb2e,r1e]
                        case fp =>
                          refine ⟨?_, ?_, ?_, ?_, ?_⟩
                          all_goals
                            simp (disch := omega) only [sI_off, bI_off, sL_off, bL_off, r1l, r2l, rb1l, rb2l, r1m, r2m, rb1e, rb2e,r1e]
                        case fm =>
                          refine ⟨?_, ?_, fun q_ ha_ hb_ => ?_⟩
                          all_goals
                            simp (disch := omega) only [sI_off, bI_off, sL_off, bL_off, r1l, r2l, rb1l, rb2l, r1m, r2m, rb1e, rb2e,r1e]
                        case relw =>
                          refine ⟨x_ + 1, (c_ + 1), (x_ + 1), by omega, by omega, by omega, by omega, ?_, ?_, ?_, ?_, ?_, ?_, ?_, ?_, ?_, ?_⟩
                          all_goals simp (disch := omega) only [sI_off, r1e, r1m, w1_, w2_, w3_, w4_, w5_, w6_, w7_, w8_, w9_, w10_, nI_add]
    · exact absurd rfl ha_
  · skip
    rw [hy_, w5_, w7_, w9_] at ha_
    refine wa_aload_n dX5_hear_8 rfl ?_
    refine wa_getR dX5_hear_9 fgX5_33 (by first | assumption | rfl) (by rfl) ?_
    refine wa_callV0 (k' := kX4_state) (d' := 0) dX5_hear_12 lmX5_220 kvX4_state (by first | assumption | rfl) (by rfl) (by decide) (by omega) (Nat.le_of_ble_eq_true rfl) ?_
    refine wp_X4_state ?_
    refine wa_iret dX5_hear_15 rfl ?_
    rcases hx_ with ⟨h1_, hy0_⟩ | ⟨h1_, h2_, hy0_⟩ | ⟨h1_, h2_, hy0_⟩ <;> subst hy0_
    · skip
      try simp (disch := omega) only [nI_toInt] at ha_
      try simp (disch := omega) only [nI_toInt] at hb_
      refine MW_of (by decide) [some (.ref 73), some (.int v), none, none] rfl (Nat.le_of_ble_eq_true rfl) ?_
      refine wa_aload_n dX6_hear_0 rfl ?_
      first | refine wa_dupr dX6_hear_1 ?_ | refine wa_dupi dX6_hear_1 ?_
      refine wa_getI dX6_hear_2 fgX6_192 (by first | assumption | rfl) (by rfl) ?_
      refine wa_iconst (nI 1) dX6_hear_5 (by decide) ?_
      refine wa_iadd dX6_hear_6 ?_
      refine wa_putI dX6_hear_7 fgX6_192 fw6_14 (by first | assumption | rfl) (by rfl) ?_
      refine wa_iload_n dX6_hear_10 rfl ?_
      refine wa_aload_n dX6_hear_11 rfl ?_
      refine wa_getI dX6_hear_12 fgX6_39 (by first | assumption | rfl) (by rfl) ?_
      refine wa_ic_lt 22 dX6_hear_15 (by decide) (fun c15_1 => ?_) (fun c15_1 => ?_)
      · try simp (disch := omega) only [nI_toInt, Int32.toInt_toInt64, not_true_eq_false, sI_off, r1e, r1m, w1_, w2_, w3_, w4_, w5_, w6_, w7_, w8_, w9_, w10_] at c15_1
        try (exfalso; omega)
        all_goals
          skip
          refine wa_iload_n dX6_hear_22 rfl ?_
          refine wa_aload_n dX6_hear_23 rfl ?_
          refine wa_getI dX6_hear_24 fgX6_43 (by first | assumption | rfl) (by rfl) ?_
          refine wa_ic_gt 34 dX6_hear_27 (by decide) (fun c27_2 => ?_) (fun c27_2 => ?_)
          · try simp (disch := omega) only [nI_toInt, Int32.toInt_toInt64, not_true_eq_false, sI_off, r1e, r1m, w1_, w2_, w3_, w4_, w5_, w6_, w7_, w8_, w9_, w10_] at c27_2
            try (exfalso; omega)
            all_goals
              skip
              refine wa_aload_n dX6_hear_34 rfl ?_
              refine wa_getI dX6_hear_35 fgX6_201 (by first | assumption | rfl) (by rfl) ?_
              refine wa_istore_n dX6_hear_38 (by decide) ?_
              refine wa_aload_n dX6_hear_39 rfl ?_
              refine wa_getI dX6_hear_40 fgX6_198 (by first | assumption | rfl) (by rfl) ?_
              refine wa_if_le 66 dX6_hear_43 (by decide) (fun c43_3 => ?_) (fun c43_3 => ?_)
              · try simp (disch := omega) only [nI_toInt, Int32.toInt_toInt64, not_true_eq_false, sI_off, r1e, r1m, w1_, w2_, w3_, w4_, w5_, w6_, w7_, w8_, w9_, w10_] at c43_3
                try (exfalso; omega)
                all_goals
                  skip
                  refine wa_iconst (nI 0) dX6_hear_66 (by decide) ?_
                  refine wa_istore_n dX6_hear_67 (by decide) ?_
                  refine wa_iload_n dX6_hear_68 rfl ?_
                  refine wa_aload_n dX6_hear_69 rfl ?_
                  refine wa_getI dX6_hear_70 fgX6_201 (by first | assumption | rfl) (by rfl) ?_
                  refine wa_ic_eq 103 dX6_hear_73 (by decide) (fun c73_4 => ?_) (fun c73_4 => ?_)
                  · try simp (disch := omega) only [nI_toInt, Int32.toInt_toInt64, not_true_eq_false, sI_off, r1e, r1m, w1_, w2_, w3_, w4_, w5_, w6_, w7_, w8_, w9_, w10_] at c73_4
                    try (exfalso; omega)
                    all_goals
                      skip
                      refine wa_aload_n dX6_hear_103 rfl ?_
                      refine wa_getI dX6_hear_104 fgX6_201 (by first | assumption | rfl) (by rfl) ?_
                      refine wa_iret dX6_hear_107 rfl ?_
                      refine ⟨?_, ?_⟩
                      · simp (disch := omega) only [sI_off, r1e, r1m, w4_]
                      · skip
                        refine Rel_W hrel ?relw ?fs ?fr ?fp ?fm
                        case fs =>
                          intro j_ hj_
                          refine ⟨?_, ?_, ?_, ?_, ?_, ?_, fun i_ hi_ => ?_, fun i_ hi_ => ?_⟩
                          all_goals
                            simp (disch := omega) only [sI_off, bI_off, sL_off, bL_off, r1l, r2l, rb1l, rb2l, r1m, r2m, rb1e, rb2e,r1e]
                        case fr =>
                          intro r_ hr_
                          refine ⟨?_, ?_, ?_, fun i_ hi_ => ?_⟩
                          all_goals
                            simp (disch := omega) only [sI_off, bI_off, sL_off, bL_off, r1l, r2l, rb1l, rb2l, r1m, r2m, rb1e, rb2e,r1e]
                        case fp =>
                          refine ⟨?_, ?_, ?_, ?_, ?_⟩
                          all_goals
                            simp (disch := omega) only [sI_off, bI_off, sL_off, bL_off, r1l, r2l, rb1l, rb2l, r1m, r2m, rb1e, rb2e,r1e]
                        case fm =>
                          refine ⟨?_, ?_, fun q_ ha_ hb_ => ?_⟩
                          all_goals
                            simp (disch := omega) only [sI_off, bI_off, sL_off, bL_off, r1l, r2l, rb1l, rb2l, r1m, r2m, rb1e, rb2e,r1e]
                        case relw =>
                          refine ⟨x_ + 1, c_, a_, by omega, by omega, by omega, by omega, ?_, ?_, ?_, ?_, ?_, ?_, ?_, ?_, ?_, ?_⟩
                          all_goals simp (disch := omega) only [sI_off, r1e, r1m, w1_, w2_, w3_, w4_, w5_, w6_, w7_, w8_, w9_, w10_, nI_add]
                  · try simp (disch := omega) only [nI_toInt, Int32.toInt_toInt64, not_true_eq_false, sI_off, r1e, r1m, w1_, w2_, w3_, w4_, w5_, w6_, w7_, w8_, w9_, w10_] at c73_4
                    try (exfalso; omega)
                    all_goals
                      skip
                      refine wa_iload_n dX6_hear_76 rfl ?_
                      refine wa_if_neF 103 dX6_hear_77 (by decide) (by decide) ?_
                      refine wa_aload_n dX6_hear_80 rfl ?_
                      refine wa_iload_n dX6_hear_81 rfl ?_
                      refine wa_putI dX6_hear_82 fgX6_201 fw6_17 (by first | assumption | rfl) (by rfl) ?_
                      refine wa_aload_n dX6_hear_85 rfl ?_
                      refine wa_aload_n dX6_hear_86 rfl ?_
                      refine wa_getI dX6_hear_87 fgX6_192 (by first | assumption | rfl) (by rfl) ?_
                      refine wa_putI dX6_hear_90 fgX6_198 fw6_16 (by first | assumption | rfl) (by rfl) ?_
                      refine wa_aload_n dX6_hear_93 rfl ?_
                      first | refine wa_dupr dX6_hear_94 ?_ | refine wa_dupi dX6_hear_94 ?_
                      refine wa_getI dX6_hear_95 fgX6_195 (by first | assumption | rfl) (by rfl) ?_
                      refine wa_iconst (nI 1) dX6_hear_98 (by decide) ?_
                      refine wa_iadd dX6_hear_99 ?_
                      refine wa_putI dX6_hear_100 fgX6_195 fw6_15 (by first | assumption | rfl) (by rfl) ?_
                      refine wa_aload_n dX6_hear_103 rfl ?_
                      refine wa_getI dX6_hear_104 fgX6_201 (by first | assumption | rfl) (by rfl) ?_
                      refine wa_iret dX6_hear_107 rfl ?_
                      refine ⟨?_, ?_⟩
                      · simp (disch := omega) only [sI_off, r1e, r1m, w4_]
                      · skip
                        refine Rel_W hrel ?relw ?fs ?fr ?fp ?fm
                        case fs =>
                          intro j_ hj_
                          refine ⟨?_, ?_, ?_, ?_, ?_, ?_, fun i_ hi_ => ?_, fun i_ hi_ => ?_⟩
                          all_goals
                            simp (disch := omega) only [sI_off, bI_off, sL_off, bL_off, r1l, r2l, rb1l, rb2l, r1m, r2m, rb1e, rb2e,r1e]
                        case fr =>
                          intro r_ hr_
                          refine ⟨?_, ?_, ?_, fun i_ hi_ => ?_⟩
                          all_goals
                            simp (disch := omega) only [sI_off, bI_off, sL_off, bL_off, r1l, r2l, rb1l, rb2l, r1m, r2m, rb1e, rb2e,r1e]
                        case fp =>
                          refine ⟨?_, ?_, ?_, ?_, ?_⟩
                          all_goals
                            simp (disch := omega) only [sI_off, bI_off, sL_off, bL_off, r1l, r2l, rb1l, rb2l, r1m, r2m, rb1e, rb2e,r1e]
                        case fm =>
                          refine ⟨?_, ?_, fun q_ ha_ hb_ => ?_⟩
                          all_goals
                            simp (disch := omega) only [sI_off, bI_off, sL_off, bL_off, r1l, r2l, rb1l, rb2l, r1m, r2m, rb1e, rb2e,r1e]
                        case relw =>
                          refine ⟨x_ + 1, c_, a_, by omega, by omega, by omega, by omega, ?_, ?_, ?_, ?_, ?_, ?_, ?_, ?_, ?_, ?_⟩
                          all_goals simp (disch := omega) only [sI_off, r1e, r1m, w1_, w2_, w3_, w4_, w5_, w6_, w7_, w8_, w9_, w10_, nI_add]
              · try simp (disch := omega) only [nI_toInt, Int32.toInt_toInt64, not_true_eq_false, sI_off, r1e, r1m, w1_, w2_, w3_, w4_, w5_, w6_, w7_, w8_, w9_, w10_] at c43_3
                try (exfalso; omega)
                all_goals
                  skip
                  refine wa_aload_n dX6_hear_46 rfl ?_
                  refine wa_getI dX6_hear_47 fgX6_192 (by first | assumption | rfl) (by rfl) ?_
                  refine wa_aload_n dX6_hear_50 rfl ?_
                  refine wa_getI dX6_hear_51 fgX6_198 (by first | assumption | rfl) (by rfl) ?_
                  refine wa_isub dX6_hear_54 ?_
                  refine wa_aload_n dX6_hear_55 rfl ?_
                  refine wa_getI dX6_hear_56 fgX6_189 (by first | assumption | rfl) (by rfl) ?_
                  refine wa_ic_gt 66 dX6_hear_59 (by decide) (fun c59_5 => ?_) (fun c59_5 => ?_)
                  · try simp (disch := omega) only [nI_toInt, Int32.toInt_toInt64, not_true_eq_false, sI_off, r1e, r1m, w1_, w2_, w3_, w4_, w5_, w6_, w7_, w8_, w9_, w10_] at c59_5
                    try (exfalso; omega)
                    all_goals
                      skip
                      refine wa_iconst (nI 0) dX6_hear_66 (by decide) ?_
                      refine wa_istore_n dX6_hear_67 (by decide) ?_
                      refine wa_iload_n dX6_hear_68 rfl ?_
                      refine wa_aload_n dX6_hear_69 rfl ?_
                      refine wa_getI dX6_hear_70 fgX6_201 (by first | assumption | rfl) (by rfl) ?_
                      refine wa_ic_eq 103 dX6_hear_73 (by decide) (fun c73_6 => ?_) (fun c73_6 => ?_)
                      · try simp (disch := omega) only [nI_toInt, Int32.toInt_toInt64, not_true_eq_false, sI_off, r1e, r1m, w1_, w2_, w3_, w4_, w5_, w6_, w7_, w8_, w9_, w10_] at c73_6
                        try (exfalso; omega)
                        all_goals
                          skip
                          refine wa_aload_n dX6_hear_103 rfl ?_
                          refine wa_getI dX6_hear_104 fgX6_201 (by first | assumption | rfl) (by rfl) ?_
                          refine wa_iret dX6_hear_107 rfl ?_
                          refine ⟨?_, ?_⟩
                          · simp (disch := omega) only [sI_off, r1e, r1m, w4_]
                          · skip
                            refine Rel_W hrel ?relw ?fs ?fr ?fp ?fm
                            case fs =>
                              intro j_ hj_
                              refine ⟨?_, ?_, ?_, ?_, ?_, ?_, fun i_ hi_ => ?_, fun i_ hi_ => ?_⟩
                              all_goals
                                simp (disch := omega) only [sI_off, bI_off, sL_off, bL_off, r1l, r2l, rb1l, rb2l, r1m, r2m, rb1e, rb2e,r1e]
                            case fr =>
                              intro r_ hr_
                              refine ⟨?_, ?_, ?_, fun i_ hi_ => ?_⟩
                              all_goals
                                simp (disch := omega) only [sI_off, bI_off, sL_off, bL_off, r1l, r2l, rb1l, rb2l, r1m, r2m, rb1e, rb2e,r1e]
                            case fp =>
                              refine ⟨?_, ?_, ?_, ?_, ?_⟩
                              all_goals
                                simp (disch := omega) only [sI_off, bI_off, sL_off, bL_off, r1l, r2l, rb1l, rb2l, r1m, r2m, rb1e, rb2e,r1e]
                            case fm =>
                              refine ⟨?_, ?_, fun q_ ha_ hb_ => ?_⟩
                              all_goals
                                simp (disch := omega) only [sI_off, bI_off, sL_off, bL_off, r1l, r2l, rb1l, rb2l, r1m, r2m, rb1e, rb2e,r1e]
                            case relw =>
                              refine ⟨x_ + 1, c_, a_, by omega, by omega, by omega, by omega, ?_, ?_, ?_, ?_, ?_, ?_, ?_, ?_, ?_, ?_⟩
                              all_goals simp (disch := omega) only [sI_off, r1e, r1m, w1_, w2_, w3_, w4_, w5_, w6_, w7_, w8_, w9_, w10_, nI_add]
                      · try simp (disch := omega) only [nI_toInt, Int32.toInt_toInt64, not_true_eq_false, sI_off, r1e, r1m, w1_, w2_, w3_, w4_, w5_, w6_, w7_, w8_, w9_, w10_] at c73_6
                        try (exfalso; omega)
                        all_goals
                          skip
                          refine wa_iload_n dX6_hear_76 rfl ?_
                          refine wa_if_neF 103 dX6_hear_77 (by decide) (by decide) ?_
                          refine wa_aload_n dX6_hear_80 rfl ?_
                          refine wa_iload_n dX6_hear_81 rfl ?_
                          refine wa_putI dX6_hear_82 fgX6_201 fw6_17 (by first | assumption | rfl) (by rfl) ?_
                          refine wa_aload_n dX6_hear_85 rfl ?_
                          refine wa_aload_n dX6_hear_86 rfl ?_
                          refine wa_getI dX6_hear_87 fgX6_192 (by first | assumption | rfl) (by rfl) ?_
                          refine wa_putI dX6_hear_90 fgX6_198 fw6_16 (by first | assumption | rfl) (by rfl) ?_
                          refine wa_aload_n dX6_hear_93 rfl ?_
                          first | refine wa_dupr dX6_hear_94 ?_ | refine wa_dupi dX6_hear_94 ?_
                          refine wa_getI dX6_hear_95 fgX6_195 (by first | assumption | rfl) (by rfl) ?_
                          refine wa_iconst (nI 1) dX6_hear_98 (by decide) ?_
                          refine wa_iadd dX6_hear_99 ?_
                          refine wa_putI dX6_hear_100 fgX6_195 fw6_15 (by first | assumption | rfl) (by rfl) ?_
                          refine wa_aload_n dX6_hear_103 rfl ?_
                          refine wa_getI dX6_hear_104 fgX6_201 (by first | assumption | rfl) (by rfl) ?_
                          refine wa_iret dX6_hear_107 rfl ?_
                          refine ⟨?_, ?_⟩
                          · simp (disch := omega) only [sI_off, r1e, r1m, w4_]
                          · skip
                            refine Rel_W hrel ?relw ?fs ?fr ?fp ?fm
                            case fs =>
                              intro j_ hj_
                              refine ⟨?_, ?_, ?_, ?_, ?_, ?_, fun i_ hi_ => ?_, fun i_ hi_ => ?_⟩
                              all_goals
                                simp (disch := omega) only [sI_off, bI_off, sL_off, bL_off, r1l, r2l, rb1l, rb2l, r1m, r2m, rb1e, rb2e,r1e]
                            case fr =>
                              intro r_ hr_
                              refine ⟨?_, ?_, ?_, fun i_ hi_ => ?_⟩
                              all_goals
                                simp (disch := omega) only [sI_off, bI_off, sL_off, bL_off, r1l, r2l, rb1l, rb2l, r1m, r2m, rb1e, rb2e,r1e]
                            case fp =>
                              refine ⟨?_, ?_, ?_, ?_, ?_⟩
                              all_goals
                                simp (disch := omega) only [sI_off, bI_off, sL_off, bL_off, r1l, r2l, rb1l, rb2l, r1m, r2m, rb1e, rb2e,r1e]
                            case fm =>
                              refine ⟨?_, ?_, fun q_ ha_ hb_ => ?_⟩
                              all_goals
                                simp (disch := omega) only [sI_off, bI_off, sL_off, bL_off, r1l, r2l, rb1l, rb2l, r1m, r2m, rb1e, rb2e,r1e]
                            case relw =>
                              refine ⟨x_ + 1, c_, a_, by omega, by omega, by omega, by omega, ?_, ?_, ?_, ?_, ?_, ?_, ?_, ?_, ?_, ?_⟩
                              all_goals simp (disch := omega) only [sI_off, r1e, r1m, w1_, w2_, w3_, w4_, w5_, w6_, w7_, w8_, w9_, w10_, nI_add]
                  · try simp (disch := omega) only [nI_toInt, Int32.toInt_toInt64, not_true_eq_false, sI_off, r1e, r1m, w1_, w2_, w3_, w4_, w5_, w6_, w7_, w8_, w9_, w10_] at c59_5
                    try (exfalso; omega)
                    all_goals
                      skip
                      refine wa_iconst (nI 1) dX6_hear_62 (by decide) ?_
                      refine wa_goto 67 dX6_hear_63 (by decide) ?_
                      refine wa_istore_n dX6_hear_67 (by decide) ?_
                      refine wa_iload_n dX6_hear_68 rfl ?_
                      refine wa_aload_n dX6_hear_69 rfl ?_
                      refine wa_getI dX6_hear_70 fgX6_201 (by first | assumption | rfl) (by rfl) ?_
                      refine wa_ic_eq 103 dX6_hear_73 (by decide) (fun c73_7 => ?_) (fun c73_7 => ?_)
                      · try simp (disch := omega) only [nI_toInt, Int32.toInt_toInt64, not_true_eq_false, sI_off, r1e, r1m, w1_, w2_, w3_, w4_, w5_, w6_, w7_, w8_, w9_, w10_] at c73_7
                        try (exfalso; omega)
                        all_goals
                          skip
                          refine wa_aload_n dX6_hear_103 rfl ?_
                          refine wa_getI dX6_hear_104 fgX6_201 (by first | assumption | rfl) (by rfl) ?_
                          refine wa_iret dX6_hear_107 rfl ?_
                          refine ⟨?_, ?_⟩
                          · simp (disch := omega) only [sI_off, r1e, r1m, w4_]
                          · skip
                            refine Rel_W hrel ?relw ?fs ?fr ?fp ?fm
                            case fs =>
                              intro j_ hj_
                              refine ⟨?_, ?_, ?_, ?_, ?_, ?_, fun i_ hi_ => ?_, fun i_ hi_ => ?_⟩
                              all_goals
                                simp (disch := omega) only [sI_off, bI_off, sL_off, bL_off, r1l, r2l, rb1l, rb2l, r1m, r2m, rb1e, rb2e,r1e]
                            case fr =>
                              intro r_ hr_
                              refine ⟨?_, ?_, ?_, fun i_ hi_ => ?_⟩
                              all_goals
                                simp (disch := omega) only [sI_off, bI_off, sL_off, bL_off, r1l, r2l, rb1l, rb2l, r1m, r2m, rb1e, rb2e,r1e]
                            case fp =>
                              refine ⟨?_, ?_, ?_, ?_, ?_⟩
                              all_goals
                                simp (disch := omega) only [sI_off, bI_off, sL_off, bL_off, r1l, r2l, rb1l, rb2l, r1m, r2m, rb1e, rb2e,r1e]
                            case fm =>
                              refine ⟨?_, ?_, fun q_ ha_ hb_ => ?_⟩
                              all_goals
                                simp (disch := omega) only [sI_off, bI_off, sL_off, bL_off, r1l, r2l, rb1l, rb2l, r1m, r2m, rb1e, rb2e,r1e]
                            case relw =>
                              refine ⟨x_ + 1, c_, a_, by omega, by omega, by omega, by omega, ?_, ?_, ?_, ?_, ?_, ?_, ?_, ?_, ?_, ?_⟩
                              all_goals simp (disch := omega) only [sI_off, r1e, r1m, w1_, w2_, w3_, w4_, w5_, w6_, w7_, w8_, w9_, w10_, nI_add]
                      · try simp (disch := omega) only [nI_toInt, Int32.toInt_toInt64, not_true_eq_false, sI_off, r1e, r1m, w1_, w2_, w3_, w4_, w5_, w6_, w7_, w8_, w9_, w10_] at c73_7
                        try (exfalso; omega)
                        all_goals
                          skip
                          refine wa_iload_n dX6_hear_76 rfl ?_
                          refine wa_if_neT 103 dX6_hear_77 (by decide) (by decide) ?_
                          refine wa_aload_n dX6_hear_103 rfl ?_
                          refine wa_getI dX6_hear_104 fgX6_201 (by first | assumption | rfl) (by rfl) ?_
                          refine wa_iret dX6_hear_107 rfl ?_
                          refine ⟨?_, ?_⟩
                          · simp (disch := omega) only [sI_off, r1e, r1m, w4_]
                          · skip
                            refine Rel_W hrel ?relw ?fs ?fr ?fp ?fm
                            case fs =>
                              intro j_ hj_
                              refine ⟨?_, ?_, ?_, ?_, ?_, ?_, fun i_ hi_ => ?_, fun i_ hi_ => ?_⟩
                              all_goals
                                simp (disch := omega) only [sI_off, bI_off, sL_off, bL_off, r1l, r2l, rb1l, rb2l, r1m, r2m, rb1e, rb2e,r1e]
                            case fr =>
                              intro r_ hr_
                              refine ⟨?_, ?_, ?_, fun i_ hi_ => ?_⟩
                              all_goals
                                simp (disch := omega) only [sI_off, bI_off, sL_off, bL_off, r1l, r2l, rb1l, rb2l, r1m, r2m, rb1e, rb2e,r1e]
                            case fp =>
                              refine ⟨?_, ?_, ?_, ?_, ?_⟩
                              all_goals
                                simp (disch := omega) only [sI_off, bI_off, sL_off, bL_off, r1l, r2l, rb1l, rb2l, r1m, r2m, rb1e, rb2e,r1e]
                            case fm =>
                              refine ⟨?_, ?_, fun q_ ha_ hb_ => ?_⟩
                              all_goals
                                simp (disch := omega) only [sI_off, bI_off, sL_off, bL_off, r1l, r2l, rb1l, rb2l, r1m, r2m, rb1e, rb2e,r1e]
                            case relw =>
                              refine ⟨x_ + 1, c_, a_, by omega, by omega, by omega, by omega, ?_, ?_, ?_, ?_, ?_, ?_, ?_, ?_, ?_, ?_⟩
                              all_goals simp (disch := omega) only [sI_off, r1e, r1m, w1_, w2_, w3_, w4_, w5_, w6_, w7_, w8_, w9_, w10_, nI_add]
          · try simp (disch := omega) only [nI_toInt, Int32.toInt_toInt64, not_true_eq_false, sI_off, r1e, r1m, w1_, w2_, w3_, w4_, w5_, w6_, w7_, w8_, w9_, w10_] at c27_2
            try (exfalso; omega)
            all_goals
              skip
              refine wa_iconst (nI 0) dX6_hear_30 (by decide) ?_
              refine wa_goto 38 dX6_hear_31 (by decide) ?_
              refine wa_istore_n dX6_hear_38 (by decide) ?_
              refine wa_aload_n dX6_hear_39 rfl ?_
              refine wa_getI dX6_hear_40 fgX6_198 (by first | assumption | rfl) (by rfl) ?_
              refine wa_if_le 66 dX6_hear_43 (by decide) (fun c43_8 => ?_) (fun c43_8 => ?_)
              · try simp (disch := omega) only [nI_toInt, Int32.toInt_toInt64, not_true_eq_false, sI_off, r1e, r1m, w1_, w2_, w3_, w4_, w5_, w6_, w7_, w8_, w9_, w10_] at c43_8
                try (exfalso; omega)
                all_goals
                  skip
                  refine wa_iconst (nI 0) dX6_hear_66 (by decide) ?_
                  refine wa_istore_n dX6_hear_67 (by decide) ?_
                  refine wa_iload_n dX6_hear_68 rfl ?_
                  refine wa_aload_n dX6_hear_69 rfl ?_
                  refine wa_getI dX6_hear_70 fgX6_201 (by first | assumption | rfl) (by rfl) ?_
                  refine wa_ic_eq 103 dX6_hear_73 (by decide) (fun c73_9 => ?_) (fun c73_9 => ?_)
                  · try simp (disch := omega) only [nI_toInt, Int32.toInt_toInt64, not_true_eq_false, sI_off, r1e, r1m, w1_, w2_, w3_, w4_, w5_, w6_, w7_, w8_, w9_, w10_] at c73_9
                    try (exfalso; omega)
                    all_goals
                      skip
                      refine wa_aload_n dX6_hear_103 rfl ?_
                      refine wa_getI dX6_hear_104 fgX6_201 (by first | assumption | rfl) (by rfl) ?_
                      refine wa_iret dX6_hear_107 rfl ?_
                      refine ⟨?_, ?_⟩
                      · simp (disch := omega) only [sI_off, r1e, r1m, w4_]
                      · skip
                        refine Rel_W hrel ?relw ?fs ?fr ?fp ?fm
                        case fs =>
                          intro j_ hj_
                          refine ⟨?_, ?_, ?_, ?_, ?_, ?_, fun i_ hi_ => ?_, fun i_ hi_ => ?_⟩
                          all_goals
                            simp (disch := omega) only [sI_off, bI_off, sL_off, bL_off, r1l, r2l, rb1l, rb2l, r1m, r2m, rb1e, rb2e,r1e]
                        case fr =>
                          intro r_ hr_
                          refine ⟨?_, ?_, ?_, fun i_ hi_ => ?_⟩
                          all_goals
                            simp (disch := omega) only [sI_off, bI_off, sL_off, bL_off, r1l, r2l, rb1l, rb2l, r1m, r2m, rb1e, rb2e,r1e]
                        case fp =>
                          refine ⟨?_, ?_, ?_, ?_, ?_⟩
                          all_goals
                            simp (disch := omega) only [sI_off, bI_off, sL_off, bL_off, r1l, r2l, rb1l, rb2l, r1m, r2m, rb1e, rb2e,r1e]
                        case fm =>
                          refine ⟨?_, ?_, fun q_ ha_ hb_ => ?_⟩
                          all_goals
                            simp (disch := omega) only [sI_off, bI_off, sL_off, bL_off, r1l, r2l, rb1l, rb2l, r1m, r2m, rb1e, rb2e,r1e]
                        case relw =>
                          refine ⟨x_ + 1, c_, a_, by omega, by omega, by omega, by omega, ?_, ?_, ?_, ?_, ?_, ?_, ?_, ?_, ?_, ?_⟩
                          all_goals simp (disch := omega) only [sI_off, r1e, r1m, w1_, w2_, w3_, w4_, w5_, w6_, w7_, w8_, w9_, w10_, nI_add]
                  · try simp (disch := omega) only [nI_toInt, Int32.toInt_toInt64, not_true_eq_false, sI_off, r1e, r1m, w1_, w2_, w3_, w4_, w5_, w6_, w7_, w8_, w9_, w10_] at c73_9
                    try (exfalso; omega)
                    all_goals
                      skip
                      refine wa_iload_n dX6_hear_76 rfl ?_
                      refine wa_if_neF 103 dX6_hear_77 (by decide) (by decide) ?_
                      refine wa_aload_n dX6_hear_80 rfl ?_
                      refine wa_iload_n dX6_hear_81 rfl ?_
                      refine wa_putI dX6_hear_82 fgX6_201 fw6_17 (by first | assumption | rfl) (by rfl) ?_
                      refine wa_aload_n dX6_hear_85 rfl ?_
                      refine wa_aload_n dX6_hear_86 rfl ?_
                      refine wa_getI dX6_hear_87 fgX6_192 (by first | assumption | rfl) (by rfl) ?_
                      refine wa_putI dX6_hear_90 fgX6_198 fw6_16 (by first | assumption | rfl) (by rfl) ?_
                      refine wa_aload_n dX6_hear_93 rfl ?_
                      first | refine wa_dupr dX6_hear_94 ?_ | refine wa_dupi dX6_hear_94 ?_
                      refine wa_getI dX6_hear_95 fgX6_195 (by first | assumption | rfl) (by rfl) ?_
                      refine wa_iconst (nI 1) dX6_hear_98 (by decide) ?_
                      refine wa_iadd dX6_hear_99 ?_
                      refine wa_putI dX6_hear_100 fgX6_195 fw6_15 (by first | assumption | rfl) (by rfl) ?_
                      refine wa_aload_n dX6_hear_103 rfl ?_
                      refine wa_getI dX6_hear_104 fgX6_201 (by first | assumption | rfl) (by rfl) ?_
                      refine wa_iret dX6_hear_107 rfl ?_
                      refine ⟨?_, ?_⟩
                      · simp (disch := omega) only [sI_off, r1e, r1m, w4_]
                      · skip
                        refine Rel_W hrel ?relw ?fs ?fr ?fp ?fm
                        case fs =>
                          intro j_ hj_
                          refine ⟨?_, ?_, ?_, ?_, ?_, ?_, fun i_ hi_ => ?_, fun i_ hi_ => ?_⟩
                          all_goals
                            simp (disch := omega) only [sI_off, bI_off, sL_off, bL_off, r1l, r2l, rb1l, rb2l, r1m, r2m, rb1e, rb2e,r1e]
                        case fr =>
                          intro r_ hr_
                          refine ⟨?_, ?_, ?_, fun i_ hi_ => ?_⟩
                          all_goals
                            simp (disch := omega) only [sI_off, bI_off, sL_off, bL_off, r1l, r2l, rb1l, rb2l, r1m, r2m, rb1e, rb2e,r1e]
                        case fp =>
                          refine ⟨?_, ?_, ?_, ?_, ?_⟩
                          all_goals
                            simp (disch := omega) only [sI_off, bI_off, sL_off, bL_off, r1l, r2l, rb1l, rb2l, r1m, r2m, rb1e, rb2e,r1e]
                        case fm =>
                          refine ⟨?_, ?_, fun q_ ha_ hb_ => ?_⟩
                          all_goals
                            simp (disch := omega) only [sI_off, bI_off, sL_off, bL_off, r1l, r2l, rb1l, rb2l, r1m, r2m, rb1e, rb2e,r1e]
                        case relw =>
                          refine ⟨x_ + 1, c_, a_, by omega, by omega, by omega, by omega, ?_, ?_, ?_, ?_, ?_, ?_, ?_, ?_, ?_, ?_⟩
                          all_goals simp (disch := omega) only [sI_off, r1e, r1m, w1_, w2_, w3_, w4_, w5_, w6_, w7_, w8_, w9_, w10_, nI_add]
              · try simp (disch := omega) only [nI_toInt, Int32.toInt_toInt64, not_true_eq_false, sI_off, r1e, r1m, w1_, w2_, w3_, w4_, w5_, w6_, w7_, w8_, w9_, w10_] at c43_8
                try (exfalso; omega)
                all_goals
                  skip
                  refine wa_aload_n dX6_hear_46 rfl ?_
                  refine wa_getI dX6_hear_47 fgX6_192 (by first | assumption | rfl) (by rfl) ?_
                  refine wa_aload_n dX6_hear_50 rfl ?_
                  refine wa_getI dX6_hear_51 fgX6_198 (by first | assumption | rfl) (by rfl) ?_
                  refine wa_isub dX6_hear_54 ?_
                  refine wa_aload_n dX6_hear_55 rfl ?_
                  refine wa_getI dX6_hear_56 fgX6_189 (by first | assumption | rfl) (by rfl) ?_
                  refine wa_ic_gt 66 dX6_hear_59 (by decide) (fun c59_10 => ?_) (fun c59_10 => ?_)
                  · try simp (disch := omega) only [nI_toInt, Int32.toInt_toInt64, not_true_eq_false, sI_off, r1e, r1m, w1_, w2_, w3_, w4_, w5_, w6_, w7_, w8_, w9_, w10_] at c59_10
                    try (exfalso; omega)
                    all_goals
                      skip
                      refine wa_iconst (nI 0) dX6_hear_66 (by decide) ?_
                      refine wa_istore_n dX6_hear_67 (by decide) ?_
                      refine wa_iload_n dX6_hear_68 rfl ?_
                      refine wa_aload_n dX6_hear_69 rfl ?_
                      refine wa_getI dX6_hear_70 fgX6_201 (by first | assumption | rfl) (by rfl) ?_
                      refine wa_ic_eq 103 dX6_hear_73 (by decide) (fun c73_11 => ?_) (fun c73_11 => ?_)
                      · try simp (disch := omega) only [nI_toInt, Int32.toInt_toInt64, not_true_eq_false, sI_off, r1e, r1m, w1_, w2_, w3_, w4_, w5_, w6_, w7_, w8_, w9_, w10_] at c73_11
                        try (exfalso; omega)
                        all_goals
                          skip
                          refine wa_aload_n dX6_hear_103 rfl ?_
                          refine wa_getI dX6_hear_104 fgX6_201 (by first | assumption | rfl) (by rfl) ?_
                          refine wa_iret dX6_hear_107 rfl ?_
                          refine ⟨?_, ?_⟩
                          · simp (disch := omega) only [sI_off, r1e, r1m, w4_]
                          · skip
                            refine Rel_W hrel ?relw ?fs ?fr ?fp ?fm
                            case fs =>
                              intro j_ hj_
                              refine ⟨?_, ?_, ?_, ?_, ?_, ?_, fun i_ hi_ => ?_, fun i_ hi_ => ?_⟩
                              all_goals
                                simp (disch := omega) only [sI_off, bI_off, sL_off, bL_off, r1l, r2l, rb1l, rb2l, r1m, r2m, rb1e, rb2e,r1e]
                            case fr =>
                              intro r_ hr_
                              refine ⟨?_, ?_, ?_, fun i_ hi_ => ?_⟩
                              all_goals
                                simp (disch := omega) only [sI_off, bI_off, sL_off, bL_off, r1l, r2l, rb1l, rb2l, r1m, r2m, rb1e, rb2e,r1e]
                            case fp =>
                              refine ⟨?_, ?_, ?_, ?_, ?_⟩
                              all_goals
                                simp (disch := omega) only [sI_off, bI_off, sL_off, bL_off, r1l, r2l, rb1l, rb2l, r1m, r2m, rb1e, rb2e,r1e]
                            case fm =>
                              refine ⟨?_, ?_, fun q_ ha_ hb_ => ?_⟩
                              all_goals
                                simp (disch := omega) only [sI_off, bI_off, sL_off, bL_off, r1l, r2l, rb1l, rb2l, r1m, r2m, rb1e, rb2e,r1e]
                            case relw =>
                              refine ⟨x_ + 1, c_, a_, by omega, by omega, by omega, by omega, ?_, ?_, ?_, ?_, ?_, ?_, ?_, ?_, ?_, ?_⟩
                              all_goals simp (disch := omega) only [sI_off, r1e, r1m, w1_, w2_, w3_, w4_, w5_, w6_, w7_, w8_, w9_, w10_, nI_add]
                      · try simp (disch := omega) only [nI_toInt, Int32.toInt_toInt64, not_true_eq_false, sI_off, r1e, r1m, w1_, w2_, w3_, w4_, w5_, w6_, w7_, w8_, w9_, w10_] at c73_11
                        try (exfalso; omega)
                        all_goals
                          skip
                          refine wa_iload_n dX6_hear_76 rfl ?_
                          refine wa_if_neF 103 dX6_hear_77 (by decide) (by decide) ?_
                          refine wa_aload_n dX6_hear_80 rfl ?_
                          refine wa_iload_n dX6_hear_81 rfl ?_
                          refine wa_putI dX6_hear_82 fgX6_201 fw6_17 (by first | assumption | rfl) (by rfl) ?_
                          refine wa_aload_n dX6_hear_85 rfl ?_
                          refine wa_aload_n dX6_hear_86 rfl ?_
                          refine wa_getI dX6_hear_87 fgX6_192 (by first | assumption | rfl) (by rfl) ?_
                          refine wa_putI dX6_hear_90 fgX6_198 fw6_16 (by first | assumption | rfl) (by rfl) ?_
                          refine wa_aload_n dX6_hear_93 rfl ?_
                          first | refine wa_dupr dX6_hear_94 ?_ | refine wa_dupi dX6_hear_94 ?_
                          refine wa_getI dX6_hear_95 fgX6_195 (by first | assumption | rfl) (by rfl) ?_
                          refine wa_iconst (nI 1) dX6_hear_98 (by decide) ?_
                          refine wa_iadd dX6_hear_99 ?_
                          refine wa_putI dX6_hear_100 fgX6_195 fw6_15 (by first | assumption | rfl) (by rfl) ?_
                          refine wa_aload_n dX6_hear_103 rfl ?_
                          refine wa_getI dX6_hear_104 fgX6_201 (by first | assumption | rfl) (by rfl) ?_
                          refine wa_iret dX6_hear_107 rfl ?_
                          refine ⟨?_, ?_⟩
                          · simp (disch := omega) only [sI_off, r1e, r1m, w4_]
                          · skip
                            refine Rel_W hrel ?relw ?fs ?fr ?fp ?fm
                            case fs =>
                              intro j_ hj_
                              refine ⟨?_, ?_, ?_, ?_, ?_, ?_, fun i_ hi_ => ?_, fun i_ hi_ => ?_⟩
                              all_goals
                                simp (disch := omega) only [sI_off, bI_off, sL_off, bL_off, r1l, r2l, rb1l, rb2l, r1m, r2m, rb1e, rb2e,r1e]
                            case fr =>
                              intro r_ hr_
                              refine ⟨?_, ?_, ?_, fun i_ hi_ => ?_⟩
                              all_goals
                                simp (disch := omega) only [sI_off, bI_off, sL_off, bL_off, r1l, r2l, rb1l, rb2l, r1m, r2m, rb1e, rb2e,r1e]
                            case fp =>
                              refine ⟨?_, ?_, ?_, ?_, ?_⟩
                              all_goals
                                simp (disch := omega) only [sI_off, bI_off, sL_off, bL_off, r1l, r2l, rb1l, rb2l, r1m, r2m, rb1e, rb2e,r1e]
                            case fm =>
                              refine ⟨?_, ?_, fun q_ ha_ hb_ => ?_⟩
                              all_goals
                                simp (disch := omega) only [sI_off, bI_off, sL_off, bL_off, r1l, r2l, rb1l, rb2l, r1m, r2m, rb1e, rb2e,r1e]
                            case relw =>
                              refine ⟨x_ + 1, c_, a_, by omega, by omega, by omega, by omega, ?_, ?_, ?_, ?_, ?_, ?_, ?_, ?_, ?_, ?_⟩
                              all_goals simp (disch := omega) only [sI_off, r1e, r1m, w1_, w2_, w3_, w4_, w5_, w6_, w7_, w8_, w9_, w10_, nI_add]
                  · try simp (disch := omega) only [nI_toInt, Int32.toInt_toInt64, not_true_eq_false, sI_off, r1e, r1m, w1_, w2_, w3_, w4_, w5_, w6_, w7_, w8_, w9_, w10_] at c59_10
                    try (exfalso; omega)
                    all_goals
                      skip
                      refine wa_iconst (nI 1) dX6_hear_62 (by decide) ?_
                      refine wa_goto 67 dX6_hear_63 (by decide) ?_
                      refine wa_istore_n dX6_hear_67 (by decide) ?_
                      refine wa_iload_n dX6_hear_68 rfl ?_
                      refine wa_aload_n dX6_hear_69 rfl ?_
                      refine wa_getI dX6_hear_70 fgX6_201 (by first | assumption | rfl) (by rfl) ?_
                      refine wa_ic_eq 103 dX6_hear_73 (by decide) (fun c73_12 => ?_) (fun c73_12 => ?_)
                      · try simp (disch := omega) only [nI_toInt, Int32.toInt_toInt64, not_true_eq_false, sI_off, r1e, r1m, w1_, w2_, w3_, w4_, w5_, w6_, w7_, w8_, w9_, w10_] at c73_12
                        try (exfalso; omega)
                        all_goals
                          skip
                          refine wa_aload_n dX6_hear_103 rfl ?_
                          refine wa_getI dX6_hear_104 fgX6_201 (by first | assumption | rfl) (by rfl) ?_
                          refine wa_iret dX6_hear_107 rfl ?_
                          refine ⟨?_, ?_⟩
                          · simp (disch := omega) only [sI_off, r1e, r1m, w4_]
                          · skip
                            refine Rel_W hrel ?relw ?fs ?fr ?fp ?fm
                            case fs =>
                              intro j_ hj_
                              refine ⟨?_, ?_, ?_, ?_, ?_, ?_, fun i_ hi_ => ?_, fun i_ hi_ => ?_⟩
                              all_goals
                                simp (disch := omega) only [sI_off, bI_off, sL_off, bL_off, r1l, r2l, rb1l, rb2l, r1m, r2m, rb1e, rb2e,r1e]
                            case fr =>
                              intro r_ hr_
                              refine ⟨?_, ?_, ?_, fun i_ hi_ => ?_⟩
                              all_goals
                                simp (disch := omega) only [sI_off, bI_off, sL_off, bL_off, r1l, r2l, rb1l, rb2l, r1m, r2m, rb1e, rb2e,r1e]
                            case fp =>
                              refine ⟨?_, ?_, ?_, ?_, ?_⟩
                              all_goals
                                simp (disch := omega) only [sI_off, bI_off, sL_off, bL_off, r1l, r2l, rb1l, rb2l, r1m, r2m, rb1e, rb2e,r1e]
                            case fm =>
                              refine ⟨?_, ?_, fun q_ ha_ hb_ => ?_⟩
                              all_goals
                                simp (disch := omega) only [sI_off, bI_off, sL_off, bL_off, r1l, r2l, rb1l, rb2l, r1m, r2m, rb1e, rb2e,r1e]
                            case relw =>
                              refine ⟨x_ + 1, c_, a_, by omega, by omega, by omega, by omega, ?_, ?_, ?_, ?_, ?_, ?_, ?_, ?_, ?_, ?_⟩
                              all_goals simp (disch := omega) only [sI_off, r1e, r1m, w1_, w2_, w3_, w4_, w5_, w6_, w7_, w8_, w9_, w10_, nI_add]
                      · try simp (disch := omega) only [nI_toInt, Int32.toInt_toInt64, not_true_eq_false, sI_off, r1e, r1m, w1_, w2_, w3_, w4_, w5_, w6_, w7_, w8_, w9_, w10_] at c73_12
                        try (exfalso; omega)
                        all_goals
                          skip
                          refine wa_iload_n dX6_hear_76 rfl ?_
                          refine wa_if_neT 103 dX6_hear_77 (by decide) (by decide) ?_
                          refine wa_aload_n dX6_hear_103 rfl ?_
                          refine wa_getI dX6_hear_104 fgX6_201 (by first | assumption | rfl) (by rfl) ?_
                          refine wa_iret dX6_hear_107 rfl ?_
                          refine ⟨?_, ?_⟩
                          · simp (disch := omega) only [sI_off, r1e, r1m, w4_]
                          · skip
                            refine Rel_W hrel ?relw ?fs ?fr ?fp ?fm
                            case fs =>
                              intro j_ hj_
                              refine ⟨?_, ?_, ?_, ?_, ?_, ?_, fun i_ hi_ => ?_, fun i_ hi_ => ?_⟩
                              all_goals
                                simp (disch := omega) only [sI_off, bI_off, sL_off, bL_off, r1l, r2l, rb1l, rb2l, r1m, r2m, rb1e, rb2e,r1e]
                            case fr =>
                              intro r_ hr_
                              refine ⟨?_, ?_, ?_, fun i_ hi_ => ?_⟩
                              all_goals
                                simp (disch := omega) only [sI_off, bI_off, sL_off, bL_off, r1l, r2l, rb1l, rb2l, r1m, r2m, rb1e, rb2e,r1e]
                            case fp =>
                              refine ⟨?_, ?_, ?_, ?_, ?_⟩
                              all_goals
                                simp (disch := omega) only [sI_off, bI_off, sL_off, bL_off, r1l, r2l, rb1l, rb2l, r1m, r2m, rb1e, rb2e,r1e]
                            case fm =>
                              refine ⟨?_, ?_, fun q_ ha_ hb_ => ?_⟩
                              all_goals
                                simp (disch := omega) only [sI_off, bI_off, sL_off, bL_off, r1l, r2l, rb1l, rb2l, r1m, r2m, rb1e, rb2e,r1e]
                            case relw =>
                              refine ⟨x_ + 1, c_, a_, by omega, by omega, by omega, by omega, ?_, ?_, ?_, ?_, ?_, ?_, ?_, ?_, ?_, ?_⟩
                              all_goals simp (disch := omega) only [sI_off, r1e, r1m, w1_, w2_, w3_, w4_, w5_, w6_, w7_, w8_, w9_, w10_, nI_add]
      · try simp (disch := omega) only [nI_toInt, Int32.toInt_toInt64, not_true_eq_false, sI_off, r1e, r1m, w1_, w2_, w3_, w4_, w5_, w6_, w7_, w8_, w9_, w10_] at c15_1
        try (exfalso; omega)
        all_goals
          skip
          refine wa_iconst (nI 1) dX6_hear_18 (by decide) ?_
          refine wa_goto 38 dX6_hear_19 (by decide) ?_
          refine wa_istore_n dX6_hear_38 (by decide) ?_
          refine wa_aload_n dX6_hear_39 rfl ?_
          refine wa_getI dX6_hear_40 fgX6_198 (by first | assumption | rfl) (by rfl) ?_
          refine wa_if_le 66 dX6_hear_43 (by decide) (fun c43_13 => ?_) (fun c43_13 => ?_)
          · try simp (disch := omega) only [nI_toInt, Int32.toInt_toInt64, not_true_eq_false, sI_off, r1e, r1m, w1_, w2_, w3_, w4_, w5_, w6_, w7_, w8_, w9_, w10_] at c43_13
            try (exfalso; omega)
            all_goals
              skip
              refine wa_iconst (nI 0) dX6_hear_66 (by decide) ?_
              refine wa_istore_n dX6_hear_67 (by decide) ?_
              refine wa_iload_n dX6_hear_68 rfl ?_
              refine wa_aload_n dX6_hear_69 rfl ?_
              refine wa_getI dX6_hear_70 fgX6_201 (by first | assumption | rfl) (by rfl) ?_
              refine wa_ic_eq 103 dX6_hear_73 (by decide) (fun c73_14 => ?_) (fun c73_14 => ?_)
              · try simp (disch := omega) only [nI_toInt, Int32.toInt_toInt64, not_true_eq_false, sI_off, r1e, r1m, w1_, w2_, w3_, w4_, w5_, w6_, w7_, w8_, w9_, w10_] at c73_14
                try (exfalso; omega)
                all_goals
                  skip
                  refine wa_aload_n dX6_hear_103 rfl ?_
                  refine wa_getI dX6_hear_104 fgX6_201 (by first | assumption | rfl) (by rfl) ?_
                  refine wa_iret dX6_hear_107 rfl ?_
                  refine ⟨?_, ?_⟩
                  · simp (disch := omega) only [sI_off, r1e, r1m, w4_]
                  · skip
                    refine Rel_W hrel ?relw ?fs ?fr ?fp ?fm
                    case fs =>
                      intro j_ hj_
                      refine ⟨?_, ?_, ?_, ?_, ?_, ?_, fun i_ hi_ => ?_, fun i_ hi_ => ?_⟩
                      all_goals
                        simp (disch := omega) only [sI_off, bI_off, sL_off, bL_off, r1l, r2l, rb1l, rb2l, r1m, r2m, rb1e, rb2e,r1e]
                    case fr =>
                      intro r_ hr_
                      refine ⟨?_, ?_, ?_, fun i_ hi_ => ?_⟩
                      all_goals
                        simp (disch := omega) only [sI_off, bI_off, sL_off, bL_off, r1l, r2l, rb1l, rb2l, r1m, r2m, rb1e, rb2e,r1e]
                    case fp =>
                      refine ⟨?_, ?_, ?_, ?_, ?_⟩
                      all_goals
                        simp (disch := omega) only [sI_off, bI_off, sL_off, bL_off, r1l, r2l, rb1l, rb2l, r1m, r2m, rb1e, rb2e,r1e]
                    case fm =>
                      refine ⟨?_, ?_, fun q_ ha_ hb_ => ?_⟩
                      all_goals
                        simp (disch := omega) only [sI_off, bI_off, sL_off, bL_off, r1l, r2l, rb1l, rb2l, r1m, r2m, rb1e, rb2e,r1e]
                    case relw =>
                      refine ⟨x_ + 1, c_, a_, by omega, by omega, by omega, by omega, ?_, ?_, ?_, ?_, ?_, ?_, ?_, ?_, ?_, ?_⟩
                      all_goals simp (disch := omega) only [sI_off, r1e, r1m, w1_, w2_, w3_, w4_, w5_, w6_, w7_, w8_, w9_, w10_, nI_add]
              · try simp (disch := omega) only [nI_toInt, Int32.toInt_toInt64, not_true_eq_false, sI_off, r1e, r1m, w1_, w2_, w3_, w4_, w5_, w6_, w7_, w8_, w9_, w10_] at c73_14
                try (exfalso; omega)
                all_goals
                  skip
                  refine wa_iload_n dX6_hear_76 rfl ?_
                  refine wa_if_neF 103 dX6_hear_77 (by decide) (by decide) ?_
                  refine wa_aload_n dX6_hear_80 rfl ?_
                  refine wa_iload_n dX6_hear_81 rfl ?_
                  refine wa_putI dX6_hear_82 fgX6_201 fw6_17 (by first | assumption | rfl) (by rfl) ?_
                  refine wa_aload_n dX6_hear_85 rfl ?_
                  refine wa_aload_n dX6_hear_86 rfl ?_
                  refine wa_getI dX6_hear_87 fgX6_192 (by first | assumption | rfl) (by rfl) ?_
                  refine wa_putI dX6_hear_90 fgX6_198 fw6_16 (by first | assumption | rfl) (by rfl) ?_
                  refine wa_aload_n dX6_hear_93 rfl ?_
                  first | refine wa_dupr dX6_hear_94 ?_ | refine wa_dupi dX6_hear_94 ?_
                  refine wa_getI dX6_hear_95 fgX6_195 (by first | assumption | rfl) (by rfl) ?_
                  refine wa_iconst (nI 1) dX6_hear_98 (by decide) ?_
                  refine wa_iadd dX6_hear_99 ?_
                  refine wa_putI dX6_hear_100 fgX6_195 fw6_15 (by first | assumption | rfl) (by rfl) ?_
                  refine wa_aload_n dX6_hear_103 rfl ?_
                  refine wa_getI dX6_hear_104 fgX6_201 (by first | assumption | rfl) (by rfl) ?_
                  refine wa_iret dX6_hear_107 rfl ?_
                  refine ⟨?_, ?_⟩
                  · simp (disch := omega) only [sI_off, r1e, r1m, w4_]
                  · skip
                    refine Rel_W hrel ?relw ?fs ?fr ?fp ?fm
                    case fs =>
                      intro j_ hj_
                      refine ⟨?_, ?_, ?_, ?_, ?_, ?_, fun i_ hi_ => ?_, fun i_ hi_ => ?_⟩
                      all_goals
                        simp (disch := omega) only [sI_off, bI_off, sL_off, bL_off, r1l, r2l, rb1l, rb2l, r1m, r2m, rb1e, rb2e,r1e]
                    case fr =>
                      intro r_ hr_
                      refine ⟨?_, ?_, ?_, fun i_ hi_ => ?_⟩
                      all_goals
                        simp (disch := omega) only [sI_off, bI_off, sL_off, bL_off, r1l, r2l, rb1l, rb2l, r1m, r2m, rb1e, rb2e,r1e]
                    case fp =>
                      refine ⟨?_, ?_, ?_, ?_, ?_⟩
                      all_goals
                        simp (disch := omega) only [sI_off, bI_off, sL_off, bL_off, r1l, r2l, rb1l, rb2l, r1m, r2m, rb1e, rb2e,r1e]
                    case fm =>
                      refine ⟨?_, ?_, fun q_ ha_ hb_ => ?_⟩
                      all_goals
                        simp (disch := omega) only [sI_off, bI_off, sL_off, bL_off, r1l, r2l, rb1l, rb2l, r1m, r2m, rb1e, rb2e,r1e]
                    case relw =>
                      refine ⟨x_ + 1, c_, a_, by omega, by omega, by omega, by omega, ?_, ?_, ?_, ?_, ?_, ?_, ?_, ?_, ?_, ?_⟩
                      all_goals simp (disch := omega) only [sI_off, r1e, r1m, w1_, w2_, w3_, w4_, w5_, w6_, w7_, w8_, w9_, w10_, nI_add]
          · try simp (disch := omega) only [nI_toInt, Int32.toInt_toInt64, not_true_eq_false, sI_off, r1e, r1m, w1_, w2_, w3_, w4_, w5_, w6_, w7_, w8_, w9_, w10_] at c43_13
            try (exfalso; omega)
            all_goals
              skip
              refine wa_aload_n dX6_hear_46 rfl ?_
              refine wa_getI dX6_hear_47 fgX6_192 (by first | assumption | rfl) (by rfl) ?_
              refine wa_aload_n dX6_hear_50 rfl ?_
              refine wa_getI dX6_hear_51 fgX6_198 (by first | assumption | rfl) (by rfl) ?_
              refine wa_isub dX6_hear_54 ?_
              refine wa_aload_n dX6_hear_55 rfl ?_
              refine wa_getI dX6_hear_56 fgX6_189 (by first | assumption | rfl) (by rfl) ?_
              refine wa_ic_gt 66 dX6_hear_59 (by decide) (fun c59_15 => ?_) (fun c59_15 => ?_)
              · try simp (disch := omega) only [nI_toInt, Int32.toInt_toInt64, not_true_eq_false, sI_off, r1e, r1m, w1_, w2_, w3_, w4_, w5_, w6_, w7_, w8_, w9_, w10_] at c59_15
                try (exfalso; omega)
                all_goals
                  skip
                  refine wa_iconst (nI 0) dX6_hear_66 (by decide) ?_
                  refine wa_istore_n dX6_hear_67 (by decide) ?_
                  refine wa_iload_n dX6_hear_68 rfl ?_
                  refine wa_aload_n dX6_hear_69 rfl ?_
                  refine wa_getI dX6_hear_70 fgX6_201 (by first | assumption | rfl) (by rfl) ?_
                  refine wa_ic_eq 103 dX6_hear_73 (by decide) (fun c73_16 => ?_) (fun c73_16 => ?_)
                  · try simp (disch := omega) only [nI_toInt, Int32.toInt_toInt64, not_true_eq_false, sI_off, r1e, r1m, w1_, w2_, w3_, w4_, w5_, w6_, w7_, w8_, w9_, w10_] at c73_16
                    try (exfalso; omega)
                    all_goals
                      skip
                      refine wa_aload_n dX6_hear_103 rfl ?_
                      refine wa_getI dX6_hear_104 fgX6_201 (by first | assumption | rfl) (by rfl) ?_
                      refine wa_iret dX6_hear_107 rfl ?_
                      refine ⟨?_, ?_⟩
                      · simp (disch := omega) only [sI_off, r1e, r1m, w4_]
                      · skip
                        refine Rel_W hrel ?relw ?fs ?fr ?fp ?fm
                        case fs =>
                          intro j_ hj_
                          refine ⟨?_, ?_, ?_, ?_, ?_, ?_, fun i_ hi_ => ?_, fun i_ hi_ => ?_⟩
                          all_goals
                            simp (disch := omega) only [sI_off, bI_off, sL_off, bL_off, r1l, r2l, rb1l, rb2l, r1m, r2m, rb1e, rb2e,r1e]
                        case fr =>
                          intro r_ hr_
                          refine ⟨?_, ?_, ?_, fun i_ hi_ => ?_⟩
                          all_goals
                            simp (disch := omega) only [sI_off, bI_off, sL_off, bL_off, r1l, r2l, rb1l, rb2l, r1m, r2m, rb1e, rb2e,r1e]
                        case fp =>
                          refine ⟨?_, ?_, ?_, ?_, ?_⟩
                          all_goals
                            simp (disch := omega) only [sI_off, bI_off, sL_off, bL_off, r1l, r2l, rb1l, rb2l, r1m, r2m, rb1e, rb2e,r1e]
                        case fm =>
                          refine ⟨?_, ?_, fun q_ ha_ hb_ => ?_⟩
                          all_goals
                            simp (disch := omega) only [sI_off, bI_off, sL_off, bL_off, r1l, r2l, rb1l, rb2l, r1m, r2m, rb1e, rb2e,r1e]
                        case relw =>
                          refine ⟨x_ + 1, c_, a_, by omega, by omega, by omega, by omega, ?_, ?_, ?_, ?_, ?_, ?_, ?_, ?_, ?_, ?_⟩
                          all_goals simp (disch := omega) only [sI_off, r1e, r1m, w1_, w2_, w3_, w4_, w5_, w6_, w7_, w8_, w9_, w10_, nI_add]
                  · try simp (disch := omega) only [nI_toInt, Int32.toInt_toInt64, not_true_eq_false, sI_off, r1e, r1m, w1_, w2_, w3_, w4_, w5_, w6_, w7_, w8_, w9_, w10_] at c73_16
                    try (exfalso; omega)
                    all_goals
                      skip
                      refine wa_iload_n dX6_hear_76 rfl ?_
                      refine wa_if_neF 103 dX6_hear_77 (by decide) (by decide) ?_
                      refine wa_aload_n dX6_hear_80 rfl ?_
                      refine wa_iload_n dX6_hear_81 rfl ?_
                      refine wa_putI dX6_hear_82 fgX6_201 fw6_17 (by first | assumption | rfl) (by rfl) ?_
                      refine wa_aload_n dX6_hear_85 rfl ?_
                      refine wa_aload_n dX6_hear_86 rfl ?_
                      refine wa_getI dX6_hear_87 fgX6_192 (by first | assumption | rfl) (by rfl) ?_
                      refine wa_putI dX6_hear_90 fgX6_198 fw6_16 (by first | assumption | rfl) (by rfl) ?_
                      refine wa_aload_n dX6_hear_93 rfl ?_
                      first | refine wa_dupr dX6_hear_94 ?_ | refine wa_dupi dX6_hear_94 ?_
                      refine wa_getI dX6_hear_95 fgX6_195 (by first | assumption | rfl) (by rfl) ?_
                      refine wa_iconst (nI 1) dX6_hear_98 (by decide) ?_
                      refine wa_iadd dX6_hear_99 ?_
                      refine wa_putI dX6_hear_100 fgX6_195 fw6_15 (by first | assumption | rfl) (by rfl) ?_
                      refine wa_aload_n dX6_hear_103 rfl ?_
                      refine wa_getI dX6_hear_104 fgX6_201 (by first | assumption | rfl) (by rfl) ?_
                      refine wa_iret dX6_hear_107 rfl ?_
                      refine ⟨?_, ?_⟩
                      · simp (disch := omega) only [sI_off, r1e, r1m, w4_]
                      · skip
                        refine Rel_W hrel ?relw ?fs ?fr ?fp ?fm
                        case fs =>
                          intro j_ hj_
                          refine ⟨?_, ?_, ?_, ?_, ?_, ?_, fun i_ hi_ => ?_, fun i_ hi_ => ?_⟩
                          all_goals
                            simp (disch := omega) only [sI_off, bI_off, sL_off, bL_off, r1l, r2l, rb1l, rb2l, r1m, r2m, rb1e, rb2e,r1e]
                        case fr =>
                          intro r_ hr_
                          refine ⟨?_, ?_, ?_, fun i_ hi_ => ?_⟩
                          all_goals
                            simp (disch := omega) only [sI_off, bI_off, sL_off, bL_off, r1l, r2l, rb1l, rb2l, r1m, r2m, rb1e, rb2e,r1e]
                        case fp =>
                          refine ⟨?_, ?_, ?_, ?_, ?_⟩
                          all_goals
                            simp (disch := omega) only [sI_off, bI_off, sL_off, bL_off, r1l, r2l, rb1l, rb2l, r1m, r2m, rb1e, rb2e,r1e]
                        case fm =>
                          refine ⟨?_, ?_, fun q_ ha_ hb_ => ?_⟩
                          all_goals
                            simp (disch := omega) only [sI_off, bI_off, sL_off, bL_off, r1l, r2l, rb1l, rb2l, r1m, r2m, rb1e, rb2e,r1e]
                        case relw =>
                          refine ⟨x_ + 1, c_, a_, by omega, by omega, by omega, by omega, ?_, ?_, ?_, ?_, ?_, ?_, ?_, ?_, ?_, ?_⟩
                          all_goals simp (disch := omega) only [sI_off, r1e, r1m, w1_, w2_, w3_, w4_, w5_, w6_, w7_, w8_, w9_, w10_, nI_add]
              · try simp (disch := omega) only [nI_toInt, Int32.toInt_toInt64, not_true_eq_false, sI_off, r1e, r1m, w1_, w2_, w3_, w4_, w5_, w6_, w7_, w8_, w9_, w10_] at c59_15
                try (exfalso; omega)
                all_goals
                  skip
                  refine wa_iconst (nI 1) dX6_hear_62 (by decide) ?_
                  refine wa_goto 67 dX6_hear_63 (by decide) ?_
                  refine wa_istore_n dX6_hear_67 (by decide) ?_
                  refine wa_iload_n dX6_hear_68 rfl ?_
                  refine wa_aload_n dX6_hear_69 rfl ?_
                  refine wa_getI dX6_hear_70 fgX6_201 (by first | assumption | rfl) (by rfl) ?_
                  refine wa_ic_eq 103 dX6_hear_73 (by decide) (fun c73_17 => ?_) (fun c73_17 => ?_)
                  · try simp (disch := omega) only [nI_toInt, Int32.toInt_toInt64, not_true_eq_false, sI_off, r1e, r1m, w1_, w2_, w3_, w4_, w5_, w6_, w7_, w8_, w9_, w10_] at c73_17
                    try (exfalso; omega)
                    all_goals
                      skip
                      refine wa_aload_n dX6_hear_103 rfl ?_
                      refine wa_getI dX6_hear_104 fgX6_201 (by first | assumption | rfl) (by rfl) ?_
                      refine wa_iret dX6_hear_107 rfl ?_
                      refine ⟨?_, ?_⟩
                      · simp (disch := omega) only [sI_off, r1e, r1m, w4_]
                      · skip
                        refine Rel_W hrel ?relw ?fs ?fr ?fp ?fm
                        case fs =>
                          intro j_ hj_
                          refine ⟨?_, ?_, ?_, ?_, ?_, ?_, fun i_ hi_ => ?_, fun i_ hi_ => ?_⟩
                          all_goals
                            simp (disch := omega) only [sI_off, bI_off, sL_off, bL_off, r1l, r2l, rb1l, rb2l, r1m, r2m, rb1e, rb2e,r1e]
                        case fr =>
                          intro r_ hr_
                          refine ⟨?_, ?_, ?_, fun i_ hi_ => ?_⟩
                          all_goals
                            simp (disch := omega) only [sI_off, bI_off, sL_off, bL_off, r1l, r2l, rb1l, rb2l, r1m, r2m, rb1e, rb2e,r1e]
                        case fp =>
                          refine ⟨?_, ?_, ?_, ?_, ?_⟩
                          all_goals
                            simp (disch := omega) only [sI_off, bI_off, sL_off, bL_off, r1l, r2l, rb1l, rb2l, r1m, r2m, rb1e, rb2e,r1e]
                        case fm =>
                          refine ⟨?_, ?_, fun q_ ha_ hb_ => ?_⟩
                          all_goals
                            simp (disch := omega) only [sI_off, bI_off, sL_off, bL_off, r1l, r2l, rb1l, rb2l, r1m, r2m, rb1e, rb2e,r1e]
                        case relw =>
                          refine ⟨x_ + 1, c_, a_, by omega, by omega, by omega, by omega, ?_, ?_, ?_, ?_, ?_, ?_, ?_, ?_, ?_, ?_⟩
                          all_goals simp (disch := omega) only [sI_off, r1e, r1m, w1_, w2_, w3_, w4_, w5_, w6_, w7_, w8_, w9_, w10_, nI_add]
                  · try simp (disch := omega) only [nI_toInt, Int32.toInt_toInt64, not_true_eq_false, sI_off, r1e, r1m, w1_, w2_, w3_, w4_, w5_, w6_, w7_, w8_, w9_, w10_] at c73_17
                    try (exfalso; omega)
                    all_goals
                      skip
                      refine wa_iload_n dX6_hear_76 rfl ?_
                      refine wa_if_neT 103 dX6_hear_77 (by decide) (by decide) ?_
                      refine wa_aload_n dX6_hear_103 rfl ?_
                      refine wa_getI dX6_hear_104 fgX6_201 (by first | assumption | rfl) (by rfl) ?_
                      refine wa_iret dX6_hear_107 rfl ?_
                      refine ⟨?_, ?_⟩
                      · simp (disch := omega) only [sI_off, r1e, r1m, w4_]
                      · skip
                        refine Rel_W hrel ?relw ?fs ?fr ?fp ?fm
                        case fs =>
                          intro j_ hj_
                          refine ⟨?_, ?_, ?_, ?_, ?_, ?_, fun i_ hi_ => ?_, fun i_ hi_ => ?_⟩
                          all_goals
                            simp (disch := omega) only [sI_off, bI_off, sL_off, bL_off, r1l, r2l, rb1l, rb2l, r1m, r2m, rb1e, rb2e,r1e]
                        case fr =>
                          intro r_ hr_
                          refine ⟨?_, ?_, ?_, fun i_ hi_ => ?_⟩
                          all_goals
                            simp (disch := omega) only [sI_off, bI_off, sL_off, bL_off, r1l, r2l, rb1l, rb2l, r1m, r2m, rb1e, rb2e,r1e]
                        case fp =>
                          refine ⟨?_, ?_, ?_, ?_, ?_⟩
                          all_goals
                            simp (disch := omega) only [sI_off, bI_off, sL_off, bL_off, r1l, r2l, rb1l, rb2l, r1m, r2m, rb1e, rb2e,r1e]
                        case fm =>
                          refine ⟨?_, ?_, fun q_ ha_ hb_ => ?_⟩
                          all_goals
                            simp (disch := omega) only [sI_off, bI_off, sL_off, bL_off, r1l, r2l, rb1l, rb2l, r1m, r2m, rb1e, rb2e,r1e]
                        case relw =>
                          refine ⟨x_ + 1, c_, a_, by omega, by omega, by omega, by omega, ?_, ?_, ?_, ?_, ?_, ?_, ?_, ?_, ?_, ?_⟩
                          all_goals simp (disch := omega) only [sI_off, r1e, r1m, w1_, w2_, w3_, w4_, w5_, w6_, w7_, w8_, w9_, w10_, nI_add]
    · skip
      try simp (disch := omega) only [nI_toInt] at ha_
      try simp (disch := omega) only [nI_toInt] at hb_
      refine MW_of (by decide) [some (.ref 73), some (.int v), none, none] rfl (Nat.le_of_ble_eq_true rfl) ?_
      refine wa_aload_n dX6_hear_0 rfl ?_
      first | refine wa_dupr dX6_hear_1 ?_ | refine wa_dupi dX6_hear_1 ?_
      refine wa_getI dX6_hear_2 fgX6_192 (by first | assumption | rfl) (by rfl) ?_
      refine wa_iconst (nI 1) dX6_hear_5 (by decide) ?_
      refine wa_iadd dX6_hear_6 ?_
      refine wa_putI dX6_hear_7 fgX6_192 fw6_14 (by first | assumption | rfl) (by rfl) ?_
      refine wa_iload_n dX6_hear_10 rfl ?_
      refine wa_aload_n dX6_hear_11 rfl ?_
      refine wa_getI dX6_hear_12 fgX6_39 (by first | assumption | rfl) (by rfl) ?_
      refine wa_ic_lt 22 dX6_hear_15 (by decide) (fun c15_1 => ?_) (fun c15_1 => ?_)
      · try simp (disch := omega) only [nI_toInt, Int32.toInt_toInt64, not_true_eq_false, sI_off, r1e, r1m, w1_, w2_, w3_, w4_, w5_, w6_, w7_, w8_, w9_, w10_] at c15_1
        try (exfalso; omega)
        all_goals
          skip
          refine wa_iload_n dX6_hear_22 rfl ?_
          refine wa_aload_n dX6_hear_23 rfl ?_
          refine wa_getI dX6_hear_24 fgX6_43 (by first | assumption | rfl) (by rfl) ?_
          refine wa_ic_gt 34 dX6_hear_27 (by decide) (fun c27_2 => ?_) (fun c27_2 => ?_)
          · try simp (disch := omega) only [nI_toInt, Int32.toInt_toInt64, not_true_eq_false, sI_off, r1e, r1m, w1_, w2_, w3_, w4_, w5_, w6_, w7_, w8_, w9_, w10_] at c27_2
            try (exfalso; omega)
            all_goals
              skip
              refine wa_aload_n dX6_hear_34 rfl ?_
              refine wa_getI dX6_hear_35 fgX6_201 (by first | assumption | rfl) (by rfl) ?_
              refine wa_istore_n dX6_hear_38 (by decide) ?_
              refine wa_aload_n dX6_hear_39 rfl ?_
              refine wa_getI dX6_hear_40 fgX6_198 (by first | assumption | rfl) (by rfl) ?_
              refine wa_if_le 66 dX6_hear_43 (by decide) (fun c43_3 => ?_) (fun c43_3 => ?_)
              · try simp (disch := omega) only [nI_toInt, Int32.toInt_toInt64, not_true_eq_false, sI_off, r1e, r1m, w1_, w2_, w3_, w4_, w5_, w6_, w7_, w8_, w9_, w10_] at c43_3
                try (exfalso; omega)
                all_goals
                  skip
                  refine wa_iconst (nI 0) dX6_hear_66 (by decide) ?_
                  refine wa_istore_n dX6_hear_67 (by decide) ?_
                  refine wa_iload_n dX6_hear_68 rfl ?_
                  refine wa_aload_n dX6_hear_69 rfl ?_
                  refine wa_getI dX6_hear_70 fgX6_201 (by first | assumption | rfl) (by rfl) ?_
                  refine wa_ic_eq 103 dX6_hear_73 (by decide) (fun c73_4 => ?_) (fun c73_4 => ?_)
                  · try simp (disch := omega) only [nI_toInt, Int32.toInt_toInt64, not_true_eq_false, sI_off, r1e, r1m, w1_, w2_, w3_, w4_, w5_, w6_, w7_, w8_, w9_, w10_] at c73_4
                    try (exfalso; omega)
                    all_goals
                      skip
                      refine wa_aload_n dX6_hear_103 rfl ?_
                      refine wa_getI dX6_hear_104 fgX6_201 (by first | assumption | rfl) (by rfl) ?_
                      refine wa_iret dX6_hear_107 rfl ?_
                      refine ⟨?_, ?_⟩
                      · simp (disch := omega) only [sI_off, r1e, r1m, w4_]
                      · skip
                        refine Rel_W hrel ?relw ?fs ?fr ?fp ?fm
                        case fs =>
                          intro j_ hj_
                          refine ⟨?_, ?_, ?_, ?_, ?_, ?_, fun i_ hi_ => ?_, fun i_ hi_ => ?_⟩
                          all_goals
                            simp (disch := omega) only [sI_off, bI_off, sL_off, bL_off, r1l, r2l, rb1l, rb2l, r1m, r2m, rb1e, rb2e,r1e]
                        case fr =>
                          intro r_ hr_
                          refine ⟨?_, ?_, ?_, fun i_ hi_ => ?_⟩
                          all_goals
                            simp (disch := omega) only [sI_off, bI_off, sL_off, bL_off, r1l, r2l, rb1l, rb2l, r1m, r2m, rb1e, rb2e,r1e]
                        case fp =>
                          refine ⟨?_, ?_, ?_, ?_, ?_⟩
                          all_goals
                            simp (disch := omega) only [sI_off, bI_off, sL_off, bL_off, r1l, r2l, rb1l, rb2l, r1m, r2m, rb1e, rb2e,r1e]
                        case fm =>
                          refine ⟨?_, ?_, fun q_ ha_ hb_ => ?_⟩
                          all_goals
                            simp (disch := omega) only [sI_off, bI_off, sL_off, bL_off, r1l, r2l, rb1l, rb2l, r1m, r2m, rb1e, rb2e,r1e]
                        case relw =>
                          refine ⟨x_ + 1, c_, a_, by omega, by omega, by omega, by omega, ?_, ?_, ?_, ?_, ?_, ?_, ?_, ?_, ?_, ?_⟩
                          all_goals simp (disch := omega) only [sI_off, r1e, r1m, w1_, w2_, w3_, w4_, w5_, w6_, w7_, w8_, w9_, w10_, nI_add]
                  · try simp (disch := omega) only [nI_toInt, Int32.toInt_toInt64, not_true_eq_false, sI_off, r1e, r1m, w1_, w2_, w3_, w4_, w5_, w6_, w7_, w8_, w9_, w10_] at c73_4
                    try (exfalso; omega)
                    all_goals
                      skip
                      refine wa_iload_n dX6_hear_76 rfl ?_
                      refine wa_if_neF 103 dX6_hear_77 (by decide) (by decide) ?_
                      refine wa_aload_n dX6_hear_80 rfl ?_
                      refine wa_iload_n dX6_hear_81 rfl ?_
                      refine wa_putI dX6_hear_82 fgX6_201 fw6_17 (by first | assumption | rfl) (by rfl) ?_
                      refine wa_aload_n dX6_hear_85 rfl ?_
                      refine wa_aload_n dX6_hear_86 rfl ?_
                      refine wa_getI dX6_hear_87 fgX6_192 (by first | assumption | rfl) (by rfl) ?_
                      refine wa_putI dX6_hear_90 fgX6_198 fw6_16 (by first | assumption | rfl) (by rfl) ?_
                      refine wa_aload_n dX6_hear_93 rfl ?_
                      first | refine wa_dupr dX6_hear_94 ?_ | refine wa_dupi dX6_hear_94 ?_
                      refine wa_getI dX6_hear_95 fgX6_195 (by first | assumption | rfl) (by rfl) ?_
                      refine wa_iconst (nI 1) dX6_hear_98 (by decide) ?_
                      refine wa_iadd dX6_hear_99 ?_
                      refine wa_putI dX6_hear_100 fgX6_195 fw6_15 (by first | assumption | rfl) (by rfl) ?_
                      refine wa_aload_n dX6_hear_103 rfl ?_
                      refine wa_getI dX6_hear_104 fgX6_201 (by first | assumption | rfl) (by rfl) ?_
                      refine wa_iret dX6_hear_107 rfl ?_
                      refine ⟨?_, ?_⟩
                      · simp (disch := omega) only [sI_off, r1e, r1m, w4_]
                      · skip
                        refine Rel_W hrel ?relw ?fs ?fr ?fp ?fm
                        case fs =>
                          intro j_ hj_
                          refine ⟨?_, ?_, ?_, ?_, ?_, ?_, fun i_ hi_ => ?_, fun i_ hi_ => ?_⟩
                          all_goals
                            simp (disch := omega) only [sI_off, bI_off, sL_off, bL_off, r1l, r2l, rb1l, rb2l, r1m, r2m, rb1e, rb2e,r1e]
                        case fr =>
                          intro r_ hr_
                          refine ⟨?_, ?_, ?_, fun i_ hi_ => ?_⟩
                          all_goals
                            simp (disch := omega) only [sI_off, bI_off, sL_off, bL_off, r1l, r2l, rb1l, rb2l, r1m, r2m, rb1e, rb2e,r1e]
                        case fp =>
                          refine ⟨?_, ?_, ?_, ?_, ?_⟩
                          all_goals
                            simp (disch := omega) only [sI_off, bI_off, sL_off, bL_off, r1l, r2l, rb1l, rb2l, r1m, r2m, rb1e, rb2e,r1e]
                        case fm =>
                          refine ⟨?_, ?_, fun q_ ha_ hb_ => ?_⟩
                          all_goals
                            simp (disch := omega) only [sI_off, bI_off, sL_off, bL_off, r1l, r2l, rb1l, rb2l, r1m, r2m, rb1e, rb2e,r1e]
                        case relw =>
                          refine ⟨x_ + 1, c_, a_, by omega, by omega, by omega, by omega, ?_, ?_, ?_, ?_, ?_, ?_, ?_, ?_, ?_, ?_⟩
                          all_goals simp (disch := omega) only [sI_off, r1e, r1m, w1_, w2_, w3_, w4_, w5_, w6_, w7_, w8_, w9_, w10_, nI_add]
              · try simp (disch := omega) only [nI_toInt, Int32.toInt_toInt64, not_true_eq_false, sI_off, r1e, r1m, w1_, w2_, w3_, w4_, w5_, w6_, w7_, w8_, w9_, w10_] at c43_3
                try (exfalso; omega)
                all_goals
                  skip
                  refine wa_aload_n dX6_hear_46 rfl ?_
                  refine wa_getI dX6_hear_47 fgX6_192 (by first | assumption | rfl) (by rfl) ?_
                  refine wa_aload_n dX6_hear_50 rfl ?_
                  refine wa_getI dX6_hear_51 fgX6_198 (by first | assumption | rfl) (by rfl) ?_
                  refine wa_isub dX6_hear_54 ?_
                  refine wa_aload_n dX6_hear_55 rfl ?_
                  refine wa_getI dX6_hear_56 fgX6_189 (by first | assumption | rfl) (by rfl) ?_
                  refine wa_ic_gt 66 dX6_hear_59 (by decide) (fun c59_5 => ?_) (fun c59_5 => ?_)
                  · try simp (disch := omega) only [nI_toInt, Int32.toInt_toInt64, not_true_eq_false, sI_off, r1e, r1m, w1_, w2_, w3_, w4_, w5_, w6_, w7_, w8_, w9_, w10_] at c59_5
                    try (exfalso; omega)
                    all_goals
                      skip
                      refine wa_iconst (nI 0) dX6_hear_66 (by decide) ?_
                      refine wa_istore_n dX6_hear_67 (by decide) ?_
                      refine wa_iload_n dX6_hear_68 rfl ?_
                      refine wa_aload_n dX6_hear_69 rfl ?_
                      refine wa_getI dX6_hear_70 fgX6_201 (by first | assumption | rfl) (by rfl) ?_
                      refine wa_ic_eq 103 dX6_hear_73 (by decide) (fun c73_6 => ?_) (fun c73_6 => ?_)
                      · try simp (disch := omega) only [nI_toInt, Int32.toInt_toInt64, not_true_eq_false, sI_off, r1e, r1m, w1_, w2_, w3_, w4_, w5_, w6_, w7_, w8_, w9_, w10_] at c73_6
                        try (exfalso; omega)
                        all_goals
                          skip
                          refine wa_aload_n dX6_hear_103 rfl ?_
                          refine wa_getI dX6_hear_104 fgX6_201 (by first | assumption | rfl) (by rfl) ?_
                          refine wa_iret dX6_hear_107 rfl ?_
                          refine ⟨?_, ?_⟩
                          · simp (disch := omega) only [sI_off, r1e, r1m, w4_]
                          · skip
                            refine Rel_W hrel ?relw ?fs ?fr ?fp ?fm
                            case fs =>
                              intro j_ hj_
                              refine ⟨?_, ?_, ?_, ?_, ?_, ?_, fun i_ hi_ => ?_, fun i_ hi_ => ?_⟩
                              all_goals
                                simp (disch := omega) only [sI_off, bI_off, sL_off, bL_off, r1l, r2l, rb1l, rb2l, r1m, r2m, rb1e, rb2e,r1e]
                            case fr =>
                              intro r_ hr_
                              refine ⟨?_, ?_, ?_, fun i_ hi_ => ?_⟩
                              all_goals
                                simp (disch := omega) only [sI_off, bI_off, sL_off, bL_off, r1l, r2l, rb1l, rb2l, r1m, r2m, rb1e, rb2e,r1e]
                            case fp =>
                              refine ⟨?_, ?_, ?_, ?_, ?_⟩
                              all_goals
                                simp (disch := omega) only [sI_off, bI_off, sL_off, bL_off, r1l, r2l, rb1l, rb2l, r1m, r2m, rb1e, rb2e,r1e]
                            case fm =>
                              refine ⟨?_, ?_, fun q_ ha_ hb_ => ?_⟩
                              all_goals
                                simp (disch := omega) only [sI_off, bI_off, sL_off, bL_off, r1l, r2l, rb1l, rb2l, r1m, r2m, rb1e, rb2e,r1e]
                            case relw =>
                              refine ⟨x_ + 1, c_, a_, by omega, by omega, by omega, by omega, ?_, ?_, ?_, ?_, ?_, ?_, ?_, ?_, ?_, ?_⟩
                              all_goals simp (disch := omega) only [sI_off, r1e, r1m, w1_, w2_, w3_, w4_, w5_, w6_, w7_, w8_, w9_, w10_, nI_add]
                      · try simp (disch := omega) only [nI_toInt, Int32.toInt_toInt64, not_true_eq_false, sI_off, r1e, r1m, w1_, w2_, w3_, w4_, w5_, w6_, w7_, w8_, w9_, w10_] at c73_6
                        try (exfalso; omega)
                        all_goals
                          skip
                          refine wa_iload_n dX6_hear_76 rfl ?_
                          refine wa_if_neF 103 dX6_hear_77 (by decide) (by decide) ?_
                          refine wa_aload_n dX6_hear_80 rfl ?_
                          refine wa_iload_n dX6_hear_81 rfl ?_
                          refine wa_putI dX6_hear_82 fgX6_201 fw6_17 (by first | assumption | rfl) (by rfl) ?_
                          refine wa_aload_n dX6_hear_85 rfl ?_
                          refine wa_aload_n dX6_hear_86 rfl ?_
                          refine wa_getI dX6_hear_87 fgX6_192 (by first | assumption | rfl) (by rfl) ?_
                          refine wa_putI dX6_hear_90 fgX6_198 fw6_16 (by first | assumption | rfl) (by rfl) ?_
                          refine wa_aload_n dX6_hear_93 rfl ?_
                          first | refine wa_dupr dX6_hear_94 ?_ | refine wa_dupi dX6_hear_94 ?_
                          refine wa_getI dX6_hear_95 fgX6_195 (by first | assumption | rfl) (by rfl) ?_
                          refine wa_iconst (nI 1) dX6_hear_98 (by decide) ?_
                          refine wa_iadd dX6_hear_99 ?_
                          refine wa_putI dX6_hear_100 fgX6_195 fw6_15 (by first | assumption | rfl) (by rfl) ?_
                          refine wa_aload_n dX6_hear_103 rfl ?_
                          refine wa_getI dX6_hear_104 fgX6_201 (by first | assumption | rfl) (by rfl) ?_
                          refine wa_iret dX6_hear_107 rfl ?_
                          refine ⟨?_, ?_⟩
                          · simp (disch := omega) only [sI_off, r1e, r1m, w4_]
                          · skip
                            refine Rel_W hrel ?relw ?fs ?fr ?fp ?fm
                            case fs =>
                              intro j_ hj_
                              refine ⟨?_, ?_, ?_, ?_, ?_, ?_, fun i_ hi_ => ?_, fun i_ hi_ => ?_⟩
                              all_goals
                                simp (disch := omega) only [sI_off, bI_off, sL_off, bL_off, r1l, r2l, rb1l, rb2l, r1m, r2m, rb1e, rb2e,r1e]
                            case fr =>
                              intro r_ hr_
                              refine ⟨?_, ?_, ?_, fun i_ hi_ => ?_⟩
                              all_goals
                                simp (disch := omega) only [sI_off, bI_off, sL_off, bL_off, r1l, r2l, rb1l, rb2l, r1m, r2m, rb1e, rb2e,r1e]
                            case fp =>
                              refine ⟨?_, ?_, ?_, ?_, ?_⟩
                              all_goals
                                simp (disch := omega) only [sI_off, bI_off, sL_off, bL_off, r1l, r2l, rb1l, rb2l, r1m, r2m, rb1e, rb2e,r1e]
                            case fm =>
                              refine ⟨?_, ?_, fun q_ ha_ hb_ => ?_⟩
                              all_goals
                                simp (disch := omega) only [sI_off, bI_off, sL_off, bL_off, r1l, r2l, rb1l, rb2l, r1m, r2m, rb1e, rb2e,r1e]
                            case relw =>
                              refine ⟨x_ + 1, c_, a_, by omega, by omega, by omega, by omega, ?_, ?_, ?_, ?_, ?_, ?_, ?_, ?_, ?_, ?_⟩
                              all_goals simp (disch := omega) only [sI_off, r1e, r1m, w1_, w2_, w3_, w4_, w5_, w6_, w7_, w8_, w9_, w10_, nI_add]
                  · try simp (disch := omega) only [nI_toInt, Int32.toInt_toInt64, not_true_eq_false, sI_off, r1e, r1m, w1_, w2_, w3_, w4_, w5_, w6_, w7_, w8_, w9_, w10_] at c59_5
                    try (exfalso; omega)
                    all_goals
                      skip
                      refine wa_iconst (nI 1) dX6_hear_62 (by decide) ?_
                      refine wa_goto 67 dX6_hear_63 (by decide) ?_
                      refine wa_istore_n dX6_hear_67 (by decide) ?_
                      refine wa_iload_n dX6_hear_68 rfl ?_
                      refine wa_aload_n dX6_hear_69 rfl ?_
                      refine wa_getI dX6_hear_70 fgX6_201 (by first | assumption | rfl) (by rfl) ?_
                      refine wa_ic_eq 103 dX6_hear_73 (by decide) (fun c73_7 => ?_) (fun c73_7 => ?_)
                      · try simp (disch := omega) only [nI_toInt, Int32.toInt_toInt64, not_true_eq_false, sI_off, r1e, r1m, w1_, w2_, w3_, w4_, w5_, w6_, w7_, w8_, w9_, w10_] at c73_7
                        try (exfalso; omega)
                        all_goals
                          skip
                          refine wa_aload_n dX6_hear_103 rfl ?_
                          refine wa_getI dX6_hear_104 fgX6_201 (by first | assumption | rfl) (by rfl) ?_
                          refine wa_iret dX6_hear_107 rfl ?_
                          refine ⟨?_, ?_⟩
                          · simp (disch := omega) only [sI_off, r1e, r1m, w4_]
                          · skip
                            refine Rel_W hrel ?relw ?fs ?fr ?fp ?fm
                            case fs =>
                              intro j_ hj_
                              refine ⟨?_, ?_, ?_, ?_, ?_, ?_, fun i_ hi_ => ?_, fun i_ hi_ => ?_⟩
                              all_goals
                                simp (disch := omega) only [sI_off, bI_off, sL_off, bL_off, r1l, r2l, rb1l, rb2l, r1m, r2m, rb1e, rb2e,r1e]
                            case fr =>
                              intro r_ hr_
                              refine ⟨?_, ?_, ?_, fun i_ hi_ => ?_⟩
                              all_goals
                                simp (disch := omega) only [sI_off, bI_off, sL_off, bL_off, r1l, r2l, rb1l, rb2l, r1m, r2m, rb1e, rb2e,r1e]
                            case fp =>
                              refine ⟨?_, ?_, ?_, ?_, ?_⟩
                              all_goals
                                simp (disch := omega) only [sI_off, bI_off, sL_off, bL_off, r1l, r2l, rb1l, rb2l, r1m, r2m, rb1e, rb2e,r1e]
                            case fm =>
                              refine ⟨?_, ?_, fun q_ ha_ hb_ => ?_⟩
                              all_goals
                                simp (disch := omega) only [sI_off, bI_off, sL_off, bL_off, r1l, r2l, rb1l, rb2l, r1m, r2m, rb1e, rb2e,r1e]
                            case relw =>
                              refine ⟨x_ + 1, c_, a_, by omega, by omega, by omega, by omega, ?_, ?_, ?_, ?_, ?_, ?_, ?_, ?_, ?_, ?_⟩
                              all_goals simp (disch := omega) only [sI_off, r1e, r1m, w1_, w2_, w3_, w4_, w5_, w6_, w7_, w8_, w9_, w10_, nI_add]
                      · try simp (disch := omega) only [nI_toInt, Int32.toInt_toInt64, not_true_eq_false, sI_off, r1e, r1m, w1_, w2_, w3_, w4_, w5_, w6_, w7_, w8_, w9_, w10_] at c73_7
                        try (exfalso; omega)
                        all_goals
                          skip
                          refine wa_iload_n dX6_hear_76 rfl ?_
                          refine wa_if_neT 103 dX6_hear_77 (by decide) (by decide) ?_
                          refine wa_aload_n dX6_hear_103 rfl ?_
                          refine wa_getI dX6_hear_104 fgX6_201 (by first | assumption | rfl) (by rfl) ?_
                          refine wa_iret dX6_hear_107 rfl ?_
                          refine ⟨?_, ?_⟩
                          · simp (disch := omega) only [sI_off, r1e, r1m, w4_]
                          · skip
                            refine Rel_W hrel ?relw ?fs ?fr ?fp ?fm
                            case fs =>
                              intro j_ hj_
                              refine ⟨?_, ?_, ?_, ?_, ?_, ?_, fun i_ hi_ => ?_, fun i_ hi_ => ?_⟩
                              all_goals
                                simp (disch := omega) only [sI_off, bI_off, sL_off, bL_off, r1l, r2l, rb1l, rb2l, r1m, r2m, rb1e, rb2e,r1e]
                            case fr =>
                              intro r_ hr_
                              refine ⟨?_, ?_, ?_, fun i_ hi_ => ?_⟩
                              all_goals
                                simp (disch := omega) only [sI_off, bI_off, sL_off, bL_off, r1l, r2l, rb1l, rb2l, r1m, r2m, rb1e, rb2e,r1e]
                            case fp =>
                              refine ⟨?_, ?_, ?_, ?_, ?_⟩
                              all_goals
                                simp (disch := omega) only [sI_off, bI_off, sL_off, bL_off, r1l, r2l, rb1l, rb2l, r1m, r2m, rb1e, rb2e,r1e]
                            case fm =>
                              refine ⟨?_, ?_, fun q_ ha_ hb_ => ?_⟩
                              all_goals
                                simp (disch := omega) only [sI_off, bI_off, sL_off, bL_off, r1l, r2l, rb1l, rb2l, r1m, r2m, rb1e, rb2e,r1e]
                            case relw =>
                              refine ⟨x_ + 1, c_, a_, by omega, by omega, by omega, by omega, ?_, ?_, ?_, ?_, ?_, ?_, ?_, ?_, ?_, ?_⟩
                              all_goals simp (disch := omega) only [sI_off, r1e, r1m, w1_, w2_, w3_, w4_, w5_, w6_, w7_, w8_, w9_, w10_, nI_add]
          · try simp (disch := omega) only [nI_toInt, Int32.toInt_toInt64, not_true_eq_false, sI_off, r1e, r1m, w1_, w2_, w3_, w4_, w5_, w6_, w7_, w8_, w9_, w10_] at c27_2
            try (exfalso; omega)
            all_goals
              skip
              refine wa_iconst (nI 0) dX6_hear_30 (by decide) ?_
              refine wa_goto 38 dX6_hear_31 (by decide) ?_
              refine wa_istore_n dX6_hear_38 (by decide) ?_
              refine wa_aload_n dX6_hear_39 rfl ?_
              refine wa_getI dX6_hear_40 fgX6_198 (by first | assumption | rfl) (by rfl) ?_
              refine wa_if_le 66 dX6_hear_43 (by decide) (fun c43_8 => ?_) (fun c43_8 => ?_)
              · try simp (disch := omega) only [nI_toInt, Int32.toInt_toInt64, not_true_eq_false, sI_off, r1e, r1m, w1_, w2_, w3_, w4_, w5_, w6_, w7_, w8_, w9_, w10_] at c43_8
                try (exfalso; omega)
                all_goals
                  skip
                  refine wa_iconst (nI 0) dX6_hear_66 (by decide) ?_
                  refine wa_istore_n dX6_hear_67 (by decide) ?_
                  refine wa_iload_n dX6_hear_68 rfl ?_
                  refine wa_aload_n dX6_hear_69 rfl ?_
                  refine wa_getI dX6_hear_70 fgX6_201 (by first | assumption | rfl) (by rfl) ?_
                  refine wa_ic_eq 103 dX6_hear_73 (by decide) (fun c73_9 => ?_) (fun c73_9 => ?_)
                  · try simp (disch := omega) only [nI_toInt, Int32.toInt_toInt64, not_true_eq_false, sI_off, r1e, r1m, w1_, w2_, w3_, w4_, w5_, w6_, w7_, w8_, w9_, w10_] at c73_9
                    try (exfalso; omega)
                    all_goals
                      skip
                      refine wa_aload_n dX6_hear_103 rfl ?_
                      refine wa_getI dX6_hear_104 fgX6_201 (by first | assumption | rfl) (by rfl) ?_
                      refine wa_iret dX6_hear_107 rfl ?_
                      refine ⟨?_, ?_⟩
                      · simp (disch := omega) only [sI_off, r1e, r1m, w4_]
                      · skip
                        refine Rel_W hrel ?relw ?fs ?fr ?fp ?fm
                        case fs =>
                          intro j_ hj_
                          refine ⟨?_, ?_, ?_, ?_, ?_, ?_, fun i_ hi_ => ?_, fun i_ hi_ => ?_⟩
                          all_goals
                            simp (disch := omega) only [sI_off, bI_off, sL_off, bL_off, r1l, r2l, rb1l, rb2l, r1m, r2m, rb1e, rb2e,r1e]
                        case fr =>
                          intro r_ hr_
                          refine ⟨?_, ?_, ?_, fun i_ hi_ => ?_⟩
                          all_goals
                            simp (disch := omega) only [sI_off, bI_off, sL_off, bL_off, r1l, r2l, rb1l, rb2l, r1m, r2m, rb1e, rb2e,r1e]
                        case fp =>
                          refine ⟨?_, ?_, ?_, ?_, ?_⟩
                          all_goals
                            simp (disch := omega) only [sI_off, bI_off, sL_off, bL_off, r1l, r2l, rb1l, rb2l, r1m, r2m, rb1e, rb2e,r1e]
                        case fm =>
                          refine ⟨?_, ?_, fun q_ ha_ hb_ => ?_⟩
                          all_goals
                            simp (disch := omega) only [sI_off, bI_off, sL_off, bL_off, r1l, r2l, rb1l, rb2l, r1m, r2m, rb1e, rb2e,r1e]
                        case relw =>
                          refine ⟨x_ + 1, c_, a_, by omega, by omega, by omega, by omega, ?_, ?_, ?_, ?_, ?_, ?_, ?_, ?_, ?_, ?_⟩
                          all_goals simp (disch := omega) only [sI_off, r1e, r1m, w1_, w2_, w3_, w4_, w5_, w6_, w7_, w8_, w9_, w10_, nI_add]
                  · try simp (disch := omega) only [nI_toInt, Int32.toInt_toInt64, not_true_eq_false, sI_off, r1e, r1m, w1_, w2_, w3_, w4_, w5_, w6_, w7_, w8_, w9_, w10_] at c73_9
                    try (exfalso; omega)
                    all_goals
                      skip
                      refine wa_iload_n dX6_hear_76 rfl ?_
                      refine wa_if_neF 103 dX6_hear_77 (by decide) (by decide) ?_
                      refine wa_aload_n dX6_hear_80 rfl ?_
                      refine wa_iload_n dX6_hear_81 rfl ?_
                      refine wa_putI dX6_hear_82 fgX6_201 fw6_17 (by first | assumption | rfl) (by rfl) ?_
                      refine wa_aload_n dX6_hear_85 rfl ?_
                      refine wa_aload_n dX6_hear_86 rfl ?_
                      refine wa_getI dX6_hear_87 fgX6_192 (by first | assumption | rfl) (by rfl) ?_
                      refine wa_putI dX6_hear_90 fgX6_198 fw6_16 (by first | assumption | rfl) (by rfl) ?_
                      refine wa_aload_n dX6_hear_93 rfl ?_
                      first | refine wa_dupr dX6_hear_94 ?_ | refine wa_dupi dX6_hear_94 ?_
                      refine wa_getI dX6_hear_95 fgX6_195 (by first | assumption | rfl) (by rfl) ?_
                      refine wa_iconst (nI 1) dX6_hear_98 (by decide) ?_
                      refine wa_iadd dX6_hear_99 ?_
                      refine wa_putI dX6_hear_100 fgX6_195 fw6_15 (by first | assumption | rfl) (by rfl) ?_
                      refine wa_aload_n dX6_hear_103 rfl ?_
                      refine wa_getI dX6_hear_104 fgX6_201 (by first | assumption | rfl) (by rfl) ?_
                      refine wa_iret dX6_hear_107 rfl ?_
                      refine ⟨?_, ?_⟩
                      · simp (disch := omega) only [sI_off, r1e, r1m, w4_]
                      · skip
                        refine Rel_W hrel ?relw ?fs ?fr ?fp ?fm
                        case fs =>
                          intro j_ hj_
                          refine ⟨?_, ?_, ?_, ?_, ?_, ?_, fun i_ hi_ => ?_, fun i_ hi_ => ?_⟩
                          all_goals
                            simp (disch := omega) only [sI_off, bI_off, sL_off, bL_off, r1l, r2l, rb1l, rb2l, r1m, r2m, rb1e, rb2e,r1e]
                        case fr =>
                          intro r_ hr_
                          refine ⟨?_, ?_, ?_, fun i_ hi_ => ?_⟩
                          all_goals
                            simp (disch := omega) only [sI_off, bI_off, sL_off, bL_off, r1l, r2l, rb1l, rb2l, r1m, r2m, rb1e, rb2e,r1e]
                        case fp =>
                          refine ⟨?_, ?_, ?_, ?_, ?_⟩
                          all_goals
                            simp (disch := omega) only [sI_off, bI_off, sL_off, bL_off, r1l, r2l, rb1l, rb2l, r1m, r2m, rb1e, rb2e,r1e]
                        case fm =>
                          refine ⟨?_, ?_, fun q_ ha_ hb_ => ?_⟩
                          all_goals
                            simp (disch := omega) only [sI_off, bI_off, sL_off, bL_off, r1l, r2l, rb1l, rb2l, r1m, r2m, rb1e, rb2e,r1e]
                        case relw =>
                          refine ⟨x_ + 1, c_, a_, by omega, by omega, by omega, by omega, ?_, ?_, ?_, ?_, ?_, ?_, ?_, ?_, ?_, ?_⟩
                          all_goals simp (disch := omega) only [sI_off, r1e, r1m, w1_, w2_, w3_, w4_, w5_, w6_, w7_, w8_, w9_, w10_, nI_add]
              · try simp (disch := omega) only [nI_toInt, Int32.toInt_toInt64, not_true_eq_false, sI_off, r1e, r1m, w1_, w2_, w3_, w4_, w5_, w6_, w7_, w8_, w9_, w10_] at c43_8
                try (exfalso; omega)
                all_goals
                  skip
                  refine wa_aload_n dX6_hear_46 rfl ?_
                  refine wa_getI dX6_hear_47 fgX6_192 (by first | assumption | rfl) (by rfl) ?_
                  refine wa_aload_n dX6_hear_50 rfl ?_
                  refine wa_getI dX6_hear_51 fgX6_198 (by first | assumption | rfl) (by rfl) ?_
                  refine wa_isub dX6_hear_54 ?_
                  refine wa_aload_n dX6_hear_55 rfl ?_
                  refine wa_getI dX6_hear_56 fgX6_189 (by first | assumption | rfl) (by rfl) ?_
                  refine wa_ic_gt 66 dX6_hear_59 (by decide) (fun c59_10 => ?_) (fun c59_10 => ?_)
                  · try simp (disch := omega) only [nI_toInt, Int32.toInt_toInt64, not_true_eq_false, sI_off, r1e, r1m, w1_, w2_, w3_, w4_, w5_, w6_, w7_, w8_, w9_, w10_] at c59_10
                    try (exfalso; omega)
                    all_goals
                      skip
                      refine wa_iconst (nI 0) dX6_hear_66 (by decide) ?_
                      refine wa_istore_n dX6_hear_67 (by decide) ?_
                      refine wa_iload_n dX6_hear_68 rfl ?_
                      refine wa_aload_n dX6_hear_69 rfl ?_
                      refine wa_getI dX6_hear_70 fgX6_201 (by first | assumption | rfl) (by rfl) ?_
                      refine wa_ic_eq 103 dX6_hear_73 (by decide) (fun c73_11 => ?_) (fun c73_11 => ?_)
                      · try simp (disch := omega) only [nI_toInt, Int32.toInt_toInt64, not_true_eq_false, sI_off, r1e, r1m, w1_, w2_, w3_, w4_, w5_, w6_, w7_, w8_, w9_, w10_] at c73_11
                        try (exfalso; omega)
                        all_goals
                          skip
                          refine wa_aload_n dX6_hear_103 rfl ?_
                          refine wa_getI dX6_hear_104 fgX6_201 (by first | assumption | rfl) (by rfl) ?_
                          refine wa_iret dX6_hear_107 rfl ?_
                          refine ⟨?_, ?_⟩
                          · simp (disch := omega) only [sI_off, r1e, r1m, w4_]
                          · skip
                            refine Rel_W hrel ?relw ?fs ?fr ?fp ?fm
                            case fs =>
                              intro j_ hj_
                              refine ⟨?_, ?_, ?_, ?_, ?_, ?_, fun i_ hi_ => ?_, fun i_ hi_ => ?_⟩
                              all_goals
                                simp (disch := omega) only [sI_off, bI_off, sL_off, bL_off, r1l, r2l, rb1l, rb2l, r1m, r2m, rb1e, rb2e,r1e]
                            case fr =>
                              intro r_ hr_
                              refine ⟨?_, ?_, ?_, fun i_ hi_ => ?_⟩
                              all_goals
                                simp (disch := omega) only [sI_off, bI_off, sL_off, bL_off, r1l, r2l, rb1l, rb2l, r1m, r2m, rb1e, rb2e,r1e]
                            case fp =>
                              refine ⟨?_, ?_, ?_, ?_, ?_⟩
                              all_goals
                                simp (disch := omega) only [sI_off, bI_off, sL_off, bL_off, r1l, r2l, rb1l, rb2l, r1m, r2m, rb1e, rb2e,r1e]
                            case fm =>
                              refine ⟨?_, ?_, fun q_ ha_ hb_ => ?_⟩
                              all_goals
                                simp (disch := omega) only [sI_off, bI_off, sL_off, bL_off, r1l, r2l, rb1l, rb2l, r1m, r2m, rb1e, rb2e,r1e]
                            case relw =>
                              refine ⟨x_ + 1, c_, a_, by omega, by omega, by omega, by omega, ?_, ?_, ?_, ?_, ?_, ?_, ?_, ?_, ?_, ?_⟩
                              all_goals simp (disch := omega) only [sI_off, r1e, r1m, w1_, w2_, w3_, w4_, w5_, w6_, w7_, w8_, w9_, w10_, nI_add]
                      · try simp (disch := omega) only [nI_toInt, Int32.toInt_toInt64, not_true_eq_false, sI_off, r1e, r1m, w1_, w2_, w3_, w4_, w5_, w6_, w7_, w8_, w9_, w10_] at c73_11
                        try (exfalso; omega)
                        all_goals
                          skip
                          refine wa_iload_n dX6_hear_76 rfl ?_
                          refine wa_if_neF 103 dX6_hear_77 (by decide) (by decide) ?_
                          refine wa_aload_n dX6_hear_80 rfl ?_
                          refine wa_iload_n dX6_hear_81 rfl ?_
                          refine wa_putI dX6_hear_82 fgX6_201 fw6_17 (by first | assumption | rfl) (by rfl) ?_
                          refine wa_aload_n dX6_hear_85 rfl ?_
                          refine wa_aload_n dX6_hear_86 rfl ?_
                          refine wa_getI dX6_hear_87 fgX6_192 (by first | assumption | rfl) (by rfl) ?_
                          refine wa_putI dX6_hear_90 fgX6_198 fw6_16 (by first | assumption | rfl) (by rfl) ?_
                          refine wa_aload_n dX6_hear_93 rfl ?_
                          first | refine wa_dupr dX6_hear_94 ?_ | refine wa_dupi dX6_hear_94 ?_
                          refine wa_getI dX6_hear_95 fgX6_195 (by first | assumption | rfl) (by rfl) ?_
                          refine wa_iconst (nI 1) dX6_hear_98 (by decide) ?_
                          refine wa_iadd dX6_hear_99 ?_
                          refine wa_putI dX6_hear_100 fgX6_195 fw6_15 (by first | assumption | rfl) (by rfl) ?_
                          refine wa_aload_n dX6_hear_103 rfl ?_
                          refine wa_getI dX6_hear_104 fgX6_201 (by first | assumption | rfl) (by rfl) ?_
                          refine wa_iret dX6_hear_107 rfl ?_
                          refine ⟨?_, ?_⟩
                          · simp (disch := omega) only [sI_off, r1e, r1m, w4_]
                          · skip
                            refine Rel_W hrel ?relw ?fs ?fr ?fp ?fm
                            case fs =>
                              intro j_ hj_
                              refine ⟨?_, ?_, ?_, ?_, ?_, ?_, fun i_ hi_ => ?_, fun i_ hi_ => ?_⟩
                              all_goals
                                simp (disch := omega) only [sI_off, bI_off, sL_off, bL_off, r1l, r2l, rb1l, rb2l, r1m, r2m, rb1e, rb2e,r1e]
                            case fr =>
                              intro r_ hr_
                              refine ⟨?_, ?_, ?_, fun i_ hi_ => ?_⟩
                              all_goals
                                simp (disch := omega) only [sI_off, bI_off, sL_off, bL_off, r1l, r2l, rb1l, rb2l, r1m, r2m, rb1e, rb2e,r1e]
                            case fp =>
                              refine ⟨?_, ?_, ?_, ?_, ?_⟩
                              all_goals
                                simp (disch := omega) only [sI_off, bI_off, sL_off, bL_off, r1l, r2l, rb1l, rb2l, r1m, r2m, rb1e, rb2e,r1e]
                            case fm =>
                              refine ⟨?_, ?_, fun q_ ha_ hb_ => ?_⟩
                              all_goals
                                simp (disch := omega) only [sI_off, bI_off, sL_off, bL_off, r1l, r2l, rb1l, rb2l, r1m, r2m, rb1e, rb2e,r1e]
                            case relw =>
                              refine ⟨x_ + 1, c_, a_, by omega, by omega, by omega, by omega, ?_, ?_, ?_, ?_, ?_, ?_, ?_, ?_, ?_, ?_⟩
                              all_goals simp (disch := omega) only [sI_off, r1e, r1m, w1_, w2_, w3_, w4_, w5_, w6_, w7_, w8_, w9_, w10_, nI_add]
                  · try simp (disch := omega) only [nI_toInt, Int32.toInt_toInt64, not_true_eq_false, sI_off, r1e, r1m, w1_, w2_, w3_, w4_, w5_, w6_, w7_, w8_, w9_, w10_] at c59_10
                    try (exfalso; omega)
                    all_goals
                      skip
                      refine wa_iconst (nI 1) dX6_hear_62 (by decide) ?_
                      refine wa_goto 67 dX6_hear_63 (by decide) ?_
                      refine wa_istore_n dX6_hear_67 (by decide) ?_
                      refine wa_iload_n dX6_hear_68 rfl ?_
                      refine wa_aload_n dX6_hear_69 rfl ?_
                      refine wa_getI dX6_hear_70 fgX6_201 (by first | assumption | rfl) (by rfl) ?_
                      refine wa_ic_eq 103 dX6_hear_73 (by decide) (fun c73_12 => ?_) (fun c73_12 => ?_)
                      · try simp (disch := omega) only [nI_toInt, Int32.toInt_toInt64, not_true_eq_false, sI_off, r1e, r1m, w1_, w2_, w3_, w4_, w5_, w6_, w7_, w8_, w9_, w10_] at c73_12
                        try (exfalso; omega)
                        all_goals
                          skip
                          refine wa_aload_n dX6_hear_103 rfl ?_
                          refine wa_getI dX6_hear_104 fgX6_201 (by first | assumption | rfl) (by rfl) ?_
                          refine wa_iret dX6_hear_107 rfl ?_
                          refine ⟨?_, ?_⟩
                          · simp (disch := omega) only [sI_off, r1e, r1m, w4_]
                          · skip
                            refine Rel_W hrel ?relw ?fs ?fr ?fp ?fm
                            case fs =>
                              intro j_ hj_
                              refine ⟨?_, ?_, ?_, ?_, ?_, ?_, fun i_ hi_ => ?_, fun i_ hi_ => ?_⟩
                              all_goals
                                simp (disch := omega) only [sI_off, bI_off, sL_off, bL_off, r1l, r2l, rb1l, rb2l, r1m, r2m, rb1e, rb2e,r1e]
                            case fr =>
                              intro r_ hr_
                              refine ⟨?_, ?_, ?_, fun i_ hi_ => ?_⟩
                              all_goals
                                simp (disch := omega) only [sI_off, bI_off, sL_off, bL_off, r1l, r2l, rb1l, rb2l, r1m, r2m, rb1e, rb2e,r1e]
                            case fp =>
                              refine ⟨?_, ?_, ?_, ?_, ?_⟩
                              all_goals
                                simp (disch := omega) only [sI_off, bI_off, sL_off, bL_off, r1l, r2l, rb1l, rb2l, r1m, r2m, rb1e, rb2e,r1e]
                            case fm =>
                              refine ⟨?_, ?_, fun q_ ha_ hb_ => ?_⟩
                              all_goals
                                simp (disch := omega) only [sI_off, bI_off, sL_off, bL_off, r1l, r2l, rb1l, rb2l, r1m, r2m, rb1e, rb2e,r1e]
                            case relw =>
                              refine ⟨x_ + 1, c_, a_, by omega, by omega, by omega, by omega, ?_, ?_, ?_, ?_, ?_, ?_, ?_, ?_, ?_, ?_⟩
                              all_goals simp (disch := omega) only [sI_off, r1e, r1m, w1_, w2_, w3_, w4_, w5_, w6_, w7_, w8_, w9_, w10_, nI_add]
                      · try simp (disch := omega) only [nI_toInt, Int32.toInt_toInt64, not_true_eq_false, sI_off, r1e, r1m, w1_, w2_, w3_, w4_, w5_, w6_, w7_, w8_, w9_, w10_] at c73_12
                        try (exfalso; omega)
                        all_goals
                          skip
                          refine wa_iload_n dX6_hear_76 rfl ?_
                          refine wa_if_neT 103 dX6_hear_77 (by decide) (by decide) ?_
                          refine wa_aload_n dX6_hear_103 rfl ?_
                          refine wa_getI dX6_hear_104 fgX6_201 (by first | assumption | rfl) (by rfl) ?_
                          refine wa_iret dX6_hear_107 rfl ?_
                          refine ⟨?_, ?_⟩
                          · simp (disch := omega) only [sI_off, r1e, r1m, w4_]
                          · skip
                            refine Rel_W hrel ?relw ?fs ?fr ?fp ?fm
                            case fs =>
                              intro j_ hj_
                              refine ⟨?_, ?_, ?_, ?_, ?_, ?_, fun i_ hi_ => ?_, fun i_ hi_ => ?_⟩
                              all_goals
                                simp (disch := omega) only [sI_off, bI_off, sL_off, bL_off, r1l, r2l, rb1l, rb2l, r1m, r2m, rb1e, rb2e,r1e]
                            case fr =>
                              intro r_ hr_
                              refine ⟨?_, ?_, ?_, fun i_ hi_ => ?_⟩
                              all_goals
                                simp (disch := omega) only [sI_off, bI_off, sL_off, bL_off, r1l, r2l, rb1l, rb2l, r1m, r2m, rb1e, rb2e,r1e]
                            case fp =>
                              refine ⟨?_, ?_, ?_, ?_, ?_⟩
                              all_goals
                                simp (disch := omega) only [sI_off, bI_off, sL_off, bL_off, r1l, r2l, rb1l, rb2l, r1m, r2m, rb1e, rb2e,r1e]
                            case fm =>
                              refine ⟨?_, ?_, fun q_ ha_ hb_ => ?_⟩
                              all_goals
                                simp (disch := omega) only [sI_off, bI_off, sL_off, bL_off, r1l, r2l, rb1l, rb2l, r1m, r2m, rb1e, rb2e,r1e]
                            case relw =>
                              refine ⟨x_ + 1, c_, a_, by omega, by omega, by omega, by omega, ?_, ?_, ?_, ?_, ?_, ?_, ?_, ?_, ?_, ?_⟩
                              all_goals simp (disch := omega) only [sI_off, r1e, r1m, w1_, w2_, w3_, w4_, w5_, w6_, w7_, w8_, w9_, w10_, nI_add]
      · try simp (disch := omega) only [nI_toInt, Int32.toInt_toInt64, not_true_eq_false, sI_off, r1e, r1m, w1_, w2_, w3_, w4_, w5_, w6_, w7_, w8_, w9_, w10_] at c15_1
        try (exfalso; omega)
        all_goals
          skip
          refine wa_iconst (nI 1) dX6_hear_18 (by decide) ?_
          refine wa_goto 38 dX6_hear_19 (by decide) ?_
          refine wa_istore_n dX6_hear_38 (by decide) ?_
          refine wa_aload_n dX6_hear_39 rfl ?_
          refine wa_getI dX6_hear_40 fgX6_198 (by first | assumption | rfl) (by rfl) ?_
          refine wa_if_le 66 dX6_hear_43 (by decide) (fun c43_13 => ?_) (fun c43_13 => ?_)
          · try simp (disch := omega) only [nI_toInt, Int32.toInt_toInt64, not_true_eq_false, sI_off, r1e, r1m, w1_, w2_, w3_, w4_, w5_, w6_, w7_, w8_, w9_, w10_] at c43_13
            try (exfalso; omega)
            all_goals
              skip
              refine wa_iconst (nI 0) dX6_hear_66 (by decide) ?_
              refine wa_istore_n dX6_hear_67 (by decide) ?_
              refine wa_iload_n dX6_hear_68 rfl ?_
              refine wa_aload_n dX6_hear_69 rfl ?_
              refine wa_getI dX6_hear_70 fgX6_201 (by first | assumption | rfl) (by rfl) ?_
              refine wa_ic_eq 103 dX6_hear_73 (by decide) (fun c73_14 => ?_) (fun c73_14 => ?_)
              · try simp (disch := omega) only [nI_toInt, Int32.toInt_toInt64, not_true_eq_false, sI_off, r1e, r1m, w1_, w2_, w3_, w4_, w5_, w6_, w7_, w8_, w9_, w10_] at c73_14
                try (exfalso; omega)
                all_goals
                  skip
                  refine wa_aload_n dX6_hear_103 rfl ?_
                  refine wa_getI dX6_hear_104 fgX6_201 (by first | assumption | rfl) (by rfl) ?_
                  refine wa_iret dX6_hear_107 rfl ?_
                  refine ⟨?_, ?_⟩
                  · simp (disch := omega) only [sI_off, r1e, r1m, w4_]
                  · skip
                    refine Rel_W hrel ?relw ?fs ?fr ?fp ?fm
                    case fs =>
                      intro j_ hj_
                      refine ⟨?_, ?_, ?_, ?_, ?_, ?_, fun i_ hi_ => ?_, fun i_ hi_ => ?_⟩
                      all_goals
                        simp (disch := omega) only [sI_off, bI_off, sL_off, bL_off, r1l, r2l, rb1l, rb2l, r1m, r2m, rb1e, rb2e,r1e]
                    case fr =>
                      intro r_ hr_
                      refine ⟨?_, ?_, ?_, fun i_ hi_ => ?_⟩
                      all_goals
                        simp (disch := omega) only [sI_off, bI_off, sL_off, bL_off, r1l, r2l, rb1l, rb2l, r1m, r2m, rb1e, rb2e,r1e]
                    case fp =>
                      refine ⟨?_, ?_, ?_, ?_, ?_⟩
                      all_goals
                        simp (disch := omega) only [sI_off, bI_off, sL_off, bL_off, r1l, r2l, rb1l, rb2l, r1m, r2m, rb1e, rb2e,r1e]
                    case fm =>
                      refine ⟨?_, ?_, fun q_ ha_ hb_ => ?_⟩
                      all_goals
                        simp (disch := omega) only [sI_off, bI_off, sL_off, bL_off, r1l, r2l, rb1l, rb2l, r1m, r2m, rb1e, rb2e,r1e]
                    case relw =>
                      refine ⟨x_ + 1, c_, a_, by omega, by omega, by omega, by omega, ?_, ?_, ?_, ?_, ?_, ?_, ?_, ?_, ?_, ?_⟩
                      all_goals simp (disch := omega) only [sI_off, r1e, r1m, w1_, w2_, w3_, w4_, w5_, w6_, w7_, w8_, w9_, w10_, nI_add]
              · try simp (disch := omega) only [nI_toInt, Int32.toInt_toInt64, not_true_eq_false, sI_off, r1e, r1m, w1_, w2_, w3_, w4_, w5_, w6_, w7_, w8_, w9_, w10_] at c73_14
                try (exfalso; omega)
                all_goals
                  skip
                  refine wa_iload_n dX6_hear_76 rfl ?_
                  refine wa_if_neF 103 dX6_hear_77 (by decide) (by decide) ?_
                  refine wa_aload_n dX6_hear_80 rfl ?_
                  refine wa_iload_n dX6_hear_81 rfl ?_
                  refine wa_putI dX6_hear_82 fgX6_201 fw6_17 (by first | assumption | rfl) (by rfl) ?_
                  refine wa_aload_n dX6_hear_85 rfl ?_
                  refine wa_aload_n dX6_hear_86 rfl ?_
                  refine wa_getI dX6_hear_87 fgX6_192 (by first | assumption | rfl) (by rfl) ?_
                  refine wa_putI dX6_hear_90 fgX6_198 fw6_16 (by first | assumption | rfl) (by rfl) ?_
                  refine wa_aload_n dX6_hear_93 rfl ?_
                  first | refine wa_dupr dX6_hear_94 ?_ | refine wa_dupi dX6_hear_94 ?_
                  refine wa_getI dX6_hear_95 fgX6_195 (by first | assumption | rfl) (by rfl) ?_
                  refine wa_iconst (nI 1) dX6_hear_98 (by decide) ?_
                  refine wa_iadd dX6_hear_99 ?_
                  refine wa_putI dX6_hear_100 fgX6_195 fw6_15 (by first | assumption | rfl) (by rfl) ?_
                  refine wa_aload_n dX6_hear_103 rfl ?_
                  refine wa_getI dX6_hear_104 fgX6_201 (by first | assumption | rfl) (by rfl) ?_
                  refine wa_iret dX6_hear_107 rfl ?_
                  refine ⟨?_, ?_⟩
                  · simp (disch := omega) only [sI_off, r1e, r1m, w4_]
                  · skip
                    refine Rel_W hrel ?relw ?fs ?fr ?fp ?fm
                    case fs =>
                      intro j_ hj_
                      refine ⟨?_, ?_, ?_, ?_, ?_, ?_, fun i_ hi_ => ?_, fun i_ hi_ => ?_⟩
                      all_goals
                        simp (disch := omega) only [sI_off, bI_off, sL_off, bL_off, r1l, r2l, rb1l, rb2l, r1m, r2m, rb1e, rb2e,r1e]
                    case fr =>
                      intro r_ hr_
                      refine ⟨?_, ?_, ?_, fun i_ hi_ => ?_⟩
                      all_goals
                        simp (disch := omega) only [sI_off, bI_off, sL_off, bL_off, r1l, r2l, rb1l, rb2l, r1m, r2m, rb1e, rb2e,r1e]
                    case fp =>
                      refine ⟨?_, ?_, ?_, ?_, ?_⟩
                      all_goals
                        simp (disch := omega) only [sI_off, bI_off, sL_off, bL_off, r1l, r2l, rb1l, rb2l, r1m, r2m, rb1e, rb2e,r1e]
                    case fm =>
                      refine ⟨?_, ?_, fun q_ ha_ hb_ => ?_⟩
                      all_goals
                        simp (disch := omega) only [sI_off, bI_off, sL_off, bL_off, r1l, r2l, rb1l, rb2l, r1m, r2m, rb1e, rb2e,r1e]
                    case relw =>
                      refine ⟨x_ + 1, c_, a_, by omega, by omega, by omega, by omega, ?_, ?_, ?_, ?_, ?_, ?_, ?_, ?_, ?_, ?_⟩
                      all_goals simp (disch := omega) only [sI_off, r1e, r1m, w1_, w2_, w3_, w4_, w5_, w6_, w7_, w8_, w9_, w10_, nI_add]
          · try simp (disch := omega) only [nI_toInt, Int32.toInt_toInt64, not_true_eq_false, sI_off, r1e, r1m, w1_, w2_, w3_, w4_, w5_, w6_, w7_, w8_, w9_, w10_] at c43_13
            try (exfalso; omega)
            all_goals
              skip
              refine wa_aload_n dX6_hear_46 rfl ?_
              refine wa_getI dX6_hear_47 fgX6_192 (by first | assumption | rfl) (by rfl) ?_
              refine wa_aload_n dX6_hear_50 rfl ?_
              refine wa_getI dX6_hear_51 fgX6_198 (by first | assumption | rfl) (by rfl) ?_
              refine wa_isub dX6_hear_54 ?_
              refine wa_aload_n dX6_hear_55 rfl ?_
              refine wa_getI dX6_hear_56 fgX6_189 (by first | assumption | rfl) (by rfl) ?_
              refine wa_ic_gt 66 dX6_hear_59 (by decide) (fun c59_15 => ?_) (fun c59_15 => ?_)
              · try simp (disch := omega) only [nI_toInt, Int32.toInt_toInt64, not_true_eq_false, sI_off, r1e, r1m, w1_, w2_, w3_, w4_, w5_, w6_, w7_, w8_, w9_, w10_] at c59_15
                try (exfalso; omega)
                all_goals
                  skip
                  refine wa_iconst (nI 0) dX6_hear_66 (by decide) ?_
                  refine wa_istore_n dX6_hear_67 (by decide) ?_
                  refine wa_iload_n dX6_hear_68 rfl ?_
                  refine wa_aload_n dX6_hear_69 rfl ?_
                  refine wa_getI dX6_hear_70 fgX6_201 (by first | assumption | rfl) (by rfl) ?_
                  refine wa_ic_eq 103 dX6_hear_73 (by decide) (fun c73_16 => ?_) (fun c73_16 => ?_)
                  · try simp (disch := omega) only [nI_toInt, Int32.toInt_toInt64, not_true_eq_false, sI_off, r1e, r1m, w1_, w2_, w3_, w4_, w5_, w6_, w7_, w8_, w9_, w10_] at c73_16
                    try (exfalso; omega)
                    all_goals
                      skip
                      refine wa_aload_n dX6_hear_103 rfl ?_
                      refine wa_getI dX6_hear_104 fgX6_201 (by first | assumption | rfl) (by rfl) ?_
                      refine wa_iret dX6_hear_107 rfl ?_
                      refine ⟨?_, ?_⟩
                      · simp (disch := omega) only [sI_off, r1e, r1m, w4_]
                      · skip
                        refine Rel_W hrel ?relw ?fs ?fr ?fp ?fm
                        case fs =>
                          intro j_ hj_
                          refine ⟨?_, ?_, ?_, ?_, ?_, ?_, fun i_ hi_ => ?_, fun i_ hi_ => ?_⟩
                          all_goals
                            simp (disch := omega) only [sI_off, bI_off, sL_off, bL_off, r1l, r2l, rb1l, rb2l, r1m, r2m, rb1e, rb2e,r1e]
                        case fr =>
                          intro r_ hr_
                          refine ⟨?_, ?_, ?_, fun i_ hi_ => ?_⟩
                          all_goals
                            simp (disch := omega) only [sI_off, bI_off, sL_off, bL_off, r1l, r2l, rb1l, rb2l, r1m, r2m, rb1e, rb2e,r1e]
                        case fp =>
                          refine ⟨?_, ?_, ?_, ?_, ?_⟩
                          all_goals
                            simp (disch := omega) only [sI_off, bI_off, sL_off, bL_off, r1l, r2l, rb1l, rb2l, r1m, r2m, rb1e, rb2e,r1e]
                        case fm =>
                          refine ⟨?_, ?_, fun q_ ha_ hb_ => ?_⟩
                          all_goals
                            simp (disch := omega) only [sI_off, bI_off, sL_off, bL_off, r1l, r2l, rb1l, rb2l, r1m, r2m, rb1e, rb2e,r1e]
                        case relw =>
                          refine ⟨x_ + 1, c_, a_, by omega, by omega, by omega, by omega, ?_, ?_, ?_, ?_, ?_, ?_, ?_, ?_, ?_, ?_⟩
                          all_goals simp (disch := omega) only [sI_off, r1e, r1m, w1_, w2_, w3_, w4_, w5_, w6_, w7_, w8_, w9_, w10_, nI_add]
                  · try simp (disch := omega) only [nI_toInt, Int32.toInt_toInt64, not_true_eq_false, sI_off, r1e, r1m, w1_, w2_, w3_, w4_, w5_, w6_, w7_, w8_, w9_, w10_] at c73_16
                    try (exfalso; omega)
                    all_goals
                      skip
                      refine wa_iload_n dX6_hear_76 rfl ?_
                      refine wa_if_neF 103 dX6_hear_77 (by decide) (by decide) ?_
                      refine wa_aload_n dX6_hear_80 rfl ?_
                      refine wa_iload_n dX6_hear_81 rfl ?_
                      refine wa_putI dX6_hear_82 fgX6_201 fw6_17 (by first | assumption | rfl) (by rfl) ?_
                      refine wa_aload_n dX6_hear_85 rfl ?_
                      refine wa_aload_n dX6_hear_86 rfl ?_
                      refine wa_getI dX6_hear_87 fgX6_192 (by first | assumption | rfl) (by rfl) ?_
                      refine wa_putI dX6_hear_90 fgX6_198 fw6_16 (by first | assumption | rfl) (by rfl) ?_
                      refine wa_aload_n dX6_hear_93 rfl ?_
                      first | refine wa_dupr dX6_hear_94 ?_ | refine wa_dupi dX6_hear_94 ?_
                      refine wa_getI dX6_hear_95 fgX6_195 (by first | assumption | rfl) (by rfl) ?_
                      refine wa_iconst (nI 1) dX6_hear_98 (by decide) ?_
                      refine wa_iadd dX6_hear_99 ?_
                      refine wa_putI dX6_hear_100 fgX6_195 fw6_15 (by first | assumption | rfl) (by rfl) ?_
                      refine wa_aload_n dX6_hear_103 rfl ?_
                      refine wa_getI dX6_hear_104 fgX6_201 (by first | assumption | rfl) (by rfl) ?_
                      refine wa_iret dX6_hear_107 rfl ?_
                      refine ⟨?_, ?_⟩
                      · simp (disch := omega) only [sI_off, r1e, r1m, w4_]
                      · skip
                        refine Rel_W hrel ?relw ?fs ?fr ?fp ?fm
                        case fs =>
                          intro j_ hj_
                          refine ⟨?_, ?_, ?_, ?_, ?_, ?_, fun i_ hi_ => ?_, fun i_ hi_ => ?_⟩
                          all_goals
                            simp (disch := omega) only [sI_off, bI_off, sL_off, bL_off, r1l, r2l, rb1l, rb2l, r1m, r2m, rb1e, rb2e,r1e]
                        case fr =>
                          intro r_ hr_
                          refine ⟨?_, ?_, ?_, fun i_ hi_ => ?_⟩
                          all_goals
                            simp (disch := omega) only [sI_off, bI_off, sL_off, bL_off, r1l, r2l, rb1l, rb2l, r1m, r2m, rb1e, rb2e,r1e]
                        case fp =>
                          refine ⟨?_, ?_, ?_, ?_, ?_⟩
                          all_goals
                            simp (disch := omega) only [sI_off, bI_off, sL_off, bL_off, r1l, r2l, rb1l, rb2l, r1m, r2m, rb1e, rb2e,r1e]
                        case fm =>
                          refine ⟨?_, ?_, fun q_ ha_ hb_ => ?_⟩
                          all_goals
                            simp (disch := omega) only [sI_off, bI_off, sL_off, bL_off, r1l, r2l, rb1l, rb2l, r1m, r2m, rb1e, rb2e,r1e]
                        case relw =>
                          refine ⟨x_ + 1, c_, a_, by omega, by omega, by omega, by omega, ?_, ?_, ?_, ?_, ?_, ?_, ?_, ?_, ?_, ?_⟩
                          all_goals simp (disch := omega) only [sI_off, r1e, r1m, w1_, w2_, w3_, w4_, w5_, w6_, w7_, w8_, w9_, w10_, nI_add]
              · try simp (disch := omega) only [nI_toInt, Int32.toInt_toInt64, not_true_eq_false, sI_off, r1e, r1m, w1_, w2_, w3_, w4_, w5_, w6_, w7_, w8_, w9_, w10_] at c59_15
                try (exfalso; omega)
                all_goals
                  skip
                  refine wa_iconst (nI 1) dX6_hear_62 (by decide) ?_
                  refine wa_goto 67 dX6_hear_63 (by decide) ?_
                  refine wa_istore_n dX6_hear_67 (by decide) ?_
                  refine wa_iload_n dX6_hear_68 rfl ?_
                  refine wa_aload_n dX6_hear_69 rfl ?_
                  refine wa_getI dX6_hear_70 fgX6_201 (by first | assumption | rfl) (by rfl) ?_
                  refine wa_ic_eq 103 dX6_hear_73 (by decide) (fun c73_17 => ?_) (fun c73_17 => ?_)
                  · try simp (disch := omega) only [nI_toInt, Int32.toInt_toInt64, not_true_eq_false, sI_off, r1e, r1m, w1_, w2_, w3_, w4_, w5_, w6_, w7_, w8_, w9_, w10_] at c73_17
                    try (exfalso; omega)
                    all_goals
                      skip
                      refine wa_aload_n dX6_hear_103 rfl ?_
                      refine wa_getI dX6_hear_104 fgX6_201 (by first | assumption | rfl) (by rfl) ?_
                      refine wa_iret dX6_hear_107 rfl ?_
                      refine ⟨?_, ?_⟩
                      · simp (disch := omega) only [sI_off, r1e, r1m, w4_]
                      · skip
                        refine Rel_W hrel ?relw ?fs ?fr ?fp ?fm
                        case fs =>
                          intro j_ hj_
                          refine ⟨?_, ?_, ?_, ?_, ?_, ?_, fun i_ hi_ => ?_, fun i_ hi_ => ?_⟩
                          all_goals
                            simp (disch := omega) only [sI_off, bI_off, sL_off, bL_off, r1l, r2l, rb1l, rb2l, r1m, r2m, rb1e, rb2e,r1e]
                        case fr =>
                          intro r_ hr_
                          refine ⟨?_, ?_, ?_, fun i_ hi_ => ?_⟩
                          all_goals
                            simp (disch := omega) only [sI_off, bI_off, sL_off, bL_off, r1l, r2l, rb1l, rb2l, r1m, r2m, rb1e, rb2e,r1e]
                        case fp =>
                          refine ⟨?_, ?_, ?_, ?_, ?_⟩
                          all_goals
                            simp (disch := omega) only [sI_off, bI_off, sL_off, bL_off, r1l, r2l, rb1l, rb2l, r1m, r2m, rb1e, rb2e,r1e]
                        case fm =>
                          refine ⟨?_, ?_, fun q_ ha_ hb_ => ?_⟩
                          all_goals
                            simp (disch := omega) only [sI_off, bI_off, sL_off, bL_off, r1l, r2l, rb1l, rb2l, r1m, r2m, rb1e, rb2e,r1e]
                        case relw =>
                          refine ⟨x_ + 1, c_, a_, by omega, by omega, by omega, by omega, ?_, ?_, ?_, ?_, ?_, ?_, ?_, ?_, ?_, ?_⟩
                          all_goals simp (disch := omega) only [sI_off, r1e, r1m, w1_, w2_, w3_, w4_, w5_, w6_, w7_, w8_, w9_, w10_, nI_add]
                  · try simp (disch := omega) only [nI_toInt, Int32.toInt_toInt64, not_true_eq_false, sI_off, r1e, r1m, w1_, w2_, w3_, w4_, w5_, w6_, w7_, w8_, w9_, w10_] at c73_17
                    try (exfalso; omega)
                    all_goals
                      skip
                      refine wa_iload_n dX6_hear_76 rfl ?_
                      refine wa_if_neT 103 dX6_hear_77 (by decide) (by decide) ?_
                      refine wa_aload_n dX6_hear_103 rfl ?_
                      refine wa_getI dX6_hear_104 fgX6_201 (by first | assumption | rfl) (by rfl) ?_
                      refine wa_iret dX6_hear_107 rfl ?_
                      refine ⟨?_, ?_⟩
                      · simp (disch := omega) only [sI_off, r1e, r1m, w4_]
                      · skip
                        refine Rel_W hrel ?relw ?fs ?fr ?fp ?fm
                        case fs =>
                          intro j_ hj_
                          refine ⟨?_, ?_, ?_, ?_, ?_, ?_, fun i_ hi_ => ?_, fun i_ hi_ => ?_⟩
                          all_goals
                            simp (disch := omega) only [sI_off, bI_off, sL_off, bL_off, r1l, r2l, rb1l, rb2l, r1m, r2m, rb1e, rb2e,r1e]
                        case fr =>
                          intro r_ hr_
                          refine ⟨?_, ?_, ?_, fun i_ hi_ => ?_⟩
                          all_goals
                            simp (disch := omega) only [sI_off, bI_off, sL_off, bL_off, r1l, r2l, rb1l, rb2l, r1m, r2m, rb1e, rb2e,r1e]
                        case fp =>
                          refine ⟨?_, ?_, ?_, ?_, ?_⟩
                          all_goals
                            simp (disch := omega) only [sI_off, bI_off, sL_off, bL_off, r1l, r2l, rb1l, rb2l, r1m, r2m, rb1e, rb2e,r1e]
                        case fm =>
                          refine ⟨?_, ?_, fun q_ ha_ hb_ => ?_⟩
                          all_goals
                            simp (disch := omega) only [sI_off, bI_off, sL_off, bL_off, r1l, r2l, rb1l, rb2l, r1m, r2m, rb1e, rb2e,r1e]
                        case relw =>
                          refine ⟨x_ + 1, c_, a_, by omega, by omega, by omega, by omega, ?_, ?_, ?_, ?_, ?_, ?_, ?_, ?_, ?_, ?_⟩
                          all_goals simp (disch := omega) only [sI_off, r1e, r1m, w1_, w2_, w3_, w4_, w5_, w6_, w7_, w8_, w9_, w10_, nI_add]
    · skip
      try simp (disch := omega) only [nI_toInt] at ha_
      try simp (disch := omega) only [nI_toInt] at hb_
      refine MW_of (by decide) [some (.ref 73), some (.int v), none, none] rfl (Nat.le_of_ble_eq_true rfl) ?_
      refine wa_aload_n dX6_hear_0 rfl ?_
      first | refine wa_dupr dX6_hear_1 ?_ | refine wa_dupi dX6_hear_1 ?_
      refine wa_getI dX6_hear_2 fgX6_192 (by first | assumption | rfl) (by rfl) ?_
      refine wa_iconst (nI 1) dX6_hear_5 (by decide) ?_
      refine wa_iadd dX6_hear_6 ?_
      refine wa_putI dX6_hear_7 fgX6_192 fw6_14 (by first | assumption | rfl) (by rfl) ?_
      refine wa_iload_n dX6_hear_10 rfl ?_
      refine wa_aload_n dX6_hear_11 rfl ?_
      refine wa_getI dX6_hear_12 fgX6_39 (by first | assumption | rfl) (by rfl) ?_
      refine wa_ic_lt 22 dX6_hear_15 (by decide) (fun c15_1 => ?_) (fun c15_1 => ?_)
      · try simp (disch := omega) only [nI_toInt, Int32.toInt_toInt64, not_true_eq_false, sI_off, r1e, r1m, w1_, w2_, w3_, w4_, w5_, w6_, w7_, w8_, w9_, w10_] at c15_1
        try (exfalso; omega)
        all_goals
          skip
          refine wa_iload_n dX6_hear_22 rfl ?_
          refine wa_aload_n dX6_hear_23 rfl ?_
          refine wa_getI dX6_hear_24 fgX6_43 (by first | assumption | rfl) (by rfl) ?_
          refine wa_ic_gt 34 dX6_hear_27 (by decide) (fun c27_2 => ?_) (fun c27_2 => ?_)
          · try simp (disch := omega) only [nI_toInt, Int32.toInt_toInt64, not_true_eq_false, sI_off, r1e, r1m, w1_, w2_, w3_, w4_, w5_, w6_, w7_, w8_, w9_, w10_] at c27_2
            try (exfalso; omega)
            all_goals
              skip
              refine wa_aload_n dX6_hear_34 rfl ?_
              refine wa_getI dX6_hear_35 fgX6_201 (by first | assumption | rfl) (by rfl) ?_
              refine wa_istore_n dX6_hear_38 (by decide) ?_
              refine wa_aload_n dX6_hear_39 rfl ?_
              refine wa_getI dX6_hear_40 fgX6_198 (by first | assumption | rfl) (by rfl) ?_
              refine wa_if_le 66 dX6_hear_43 (by decide) (fun c43_3 => ?_) (fun c43_3 => ?_)
              · try simp (disch := omega) only [nI_toInt, Int32.toInt_toInt64, not_true_eq_false, sI_off, r1e, r1m, w1_, w2_, w3_, w4_, w5_, w6_, w7_, w8_, w9_, w10_] at c43_3
                try (exfalso; omega)
                all_goals
                  skip
                  refine wa_iconst (nI 0) dX6_hear_66 (by decide) ?_
                  refine wa_istore_n dX6_hear_67 (by decide) ?_
                  refine wa_iload_n dX6_hear_68 rfl ?_
                  refine wa_aload_n dX6_hear_69 rfl ?_
                  refine wa_getI dX6_hear_70 fgX6_201 (by first | assumption | rfl) (by rfl) ?_
                  refine wa_ic_eq 103 dX6_hear_73 (by decide) (fun c73_4 => ?_) (fun c73_4 => ?_)
                  · try simp (disch := omega) only [nI_toInt, Int32.toInt_toInt64, not_true_eq_false, sI_off, r1e, r1m, w1_, w2_, w3_, w4_, w5_, w6_, w7_, w8_, w9_, w10_] at c73_4
                    try (exfalso; omega)
                    all_goals
                      skip
                      refine wa_aload_n dX6_hear_103 rfl ?_
                      refine wa_getI dX6_hear_104 fgX6_201 (by first | assumption | rfl) (by rfl) ?_
                      refine wa_iret dX6_hear_107 rfl ?_
                      refine ⟨?_, ?_⟩
                      · simp (disch := omega) only [sI_off, r1e, r1m, w4_]
                      · skip
                        refine Rel_W hrel ?relw ?fs ?fr ?fp ?fm
                        case fs =>
                          intro j_ hj_
                          refine ⟨?_, ?_, ?_, ?_, ?_, ?_, fun i_ hi_ => ?_, fun i_ hi_ => ?_⟩
                          all_goals
                            simp (disch := omega) only [sI_off, bI_off, sL_off, bL_off, r1l, r2l, rb1l, rb2l, r1m, r2m, rb1e, rb2e,r1e]
                        case fr =>
                          intro r_ hr_
                          refine ⟨?_, ?_, ?_, fun i_ hi_ => ?_⟩
                          all_goals
                            simp (disch := omega) only [sI_off, bI_off, sL_off, bL_off, r1l, r2l, rb1l, rb2l, r1m, r2m, rb1e, rb2e,r1e]
                        case fp =>
                          refine ⟨?_, ?_, ?_, ?_, ?_⟩
                          all_goals
                            simp (disch := omega) only [sI_off, bI_off, sL_off, bL_off, r1l, r2l, rb1l, rb2l, r1m, r2m, rb1e, rb2e,r1e]
                        case fm =>
                          refine ⟨?_, ?_, fun q_ ha_ hb_ => ?_⟩
                          all_goals
                            simp (disch := omega) only [sI_off, bI_off, sL_off, bL_off, r1l, r2l, rb1l, rb2l, r1m, r2m, rb1e, rb2e,r1e]
                        case relw =>
                          refine ⟨x_ + 1, c_, a_, by omega, by omega, by omega, by omega, ?_, ?_, ?_, ?_, ?_, ?_, ?_, ?_, ?_, ?_⟩
                          all_goals simp (disch := omega) only [sI_off, r1e, r1m, w1_, w2_, w3_, w4_, w5_, w6_, w7_, w8_, w9_, w10_, nI_add]
                  · try simp (disch := omega) only [nI_toInt, Int32.toInt_toInt64, not_true_eq_false, sI_off, r1e, r1m, w1_, w2_, w3_, w4_, w5_, w6_, w7_, w8_, w9_, w10_] at c73_4
                    try (exfalso; omega)
                    all_goals
                      skip
                      refine wa_iload_n dX6_hear_76 rfl ?_
                      refine wa_if_neF 103 dX6_hear_77 (by decide) (by decide) ?_
                      refine wa_aload_n dX6_hear_80 rfl ?_
                      refine wa_iload_n dX6_hear_81 rfl ?_
                      refine wa_putI dX6_hear_82 fgX6_201 fw6_17 (by first | assumption | rfl) (by rfl) ?_
                      refine wa_aload_n dX6_hear_85 rfl ?_
                      refine wa_aload_n dX6_hear_86 rfl ?_
                      refine wa_getI dX6_hear_87 fgX6_192 (by first | assumption | rfl) (by rfl) ?_
                      refine wa_putI dX6_hear_90 fgX6_198 fw6_16 (by first | assumption | rfl) (by rfl) ?_
                      refine wa_aload_n dX6_hear_93 rfl ?_
                      first | refine wa_dupr dX6_hear_94 ?_ | refine wa_dupi dX6_hear_94 ?_
                      refine wa_getI dX6_hear_95 fgX6_195 (by first | assumption | rfl) (by rfl) ?_
                      refine wa_iconst (nI 1) dX6_hear_98 (by decide) ?_
                      refine wa_iadd dX6_hear_99 ?_
                      refine wa_putI dX6_hear_100 fgX6_195 fw6_15 (by first | assumption | rfl) (by rfl) ?_
                      refine wa_aload_n dX6_hear_103 rfl ?_
                      refine wa_getI dX6_hear_104 fgX6_201 (by first | assumption | rfl) (by rfl) ?_
                      refine wa_iret dX6_hear_107 rfl ?_
                      refine ⟨?_, ?_⟩
                      · simp (disch := omega) only [sI_off, r1e, r1m, w4_]
                      · skip
                        refine Rel_W hrel ?relw ?fs ?fr ?fp ?fm
                        case fs =>
                          intro j_ hj_
                          refine ⟨?_, ?_, ?_, ?_, ?_, ?_, fun i_ hi_ => ?_, fun i_ hi_ => ?_⟩
                          all_goals
                            simp (disch := omega) only [sI_off, bI_off, sL_off, bL_off, r1l, r2l, rb1l, rb2l, r1m, r2m, rb1e, rb2e,r1e]
                        case fr =>
                          intro r_ hr_
                          refine ⟨?_, ?_, ?_, fun i_ hi_ => ?_⟩
                          all_goals
                            simp (disch := omega) only [sI_off, bI_off, sL_off, bL_off, r1l, r2l, rb1l, rb2l, r1m, r2m, rb1e, rb2e,r1e]
                        case fp =>
                          refine ⟨?_, ?_, ?_, ?_, ?_⟩
                          all_goals
                            simp (disch := omega) only [sI_off, bI_off, sL_off, bL_off, r1l, r2l, rb1l, rb2l, r1m, r2m, rb1e, rb2e,r1e]
                        case fm =>
                          refine ⟨?_, ?_, fun q_ ha_ hb_ => ?_⟩
                          all_goals
                            simp (disch := omega) only [sI_off, bI_off, sL_off, bL_off, r1l, r2l, rb1l, rb2l, r1m, r2m, rb1e, rb2e,r1e]
                        case relw =>
                          refine ⟨x_ + 1, c_, a_, by omega, by omega, by omega, by omega, ?_, ?_, ?_, ?_, ?_, ?_, ?_, ?_, ?_, ?_⟩
                          all_goals simp (disch := omega) only [sI_off, r1e, r1m, w1_, w2_, w3_, w4_, w5_, w6_, w7_, w8_, w9_, w10_, nI_add]
              · try simp (disch := omega) only [nI_toInt, Int32.toInt_toInt64, not_true_eq_false, sI_off, r1e, r1m, w1_, w2_, w3_, w4_, w5_, w6_, w7_, w8_, w9_, w10_] at c43_3
                try (exfalso; omega)
                all_goals
                  skip
                  refine wa_aload_n dX6_hear_46 rfl ?_
                  refine wa_getI dX6_hear_47 fgX6_192 (by first | assumption | rfl) (by rfl) ?_
                  refine wa_aload_n dX6_hear_50 rfl ?_
                  refine wa_getI dX6_hear_51 fgX6_198 (by first | assumption | rfl) (by rfl) ?_
                  refine wa_isub dX6_hear_54 ?_
                  refine wa_aload_n dX6_hear_55 rfl ?_
                  refine wa_getI dX6_hear_56 fgX6_189 (by first | assumption | rfl) (by rfl) ?_
                  refine wa_ic_gt 66 dX6_hear_59 (by decide) (fun c59_5 => ?_) (fun c59_5 => ?_)
                  · try simp (disch := omega) only [nI_toInt, Int32.toInt_toInt64, not_true_eq_false, sI_off, r1e, r1m, w1_, w2_, w3_, w4_, w5_, w6_, w7_, w8_, w9_, w10_] at c59_5
                    try (exfalso; omega)
                    all_goals
                      skip
                      refine wa_iconst (nI 0) dX6_hear_66 (by decide) ?_
                      refine wa_istore_n dX6_hear_67 (by decide) ?_
                      refine wa_iload_n dX6_hear_68 rfl ?_
                      refine wa_aload_n dX6_hear_69 rfl ?_
                      refine wa_getI dX6_hear_70 fgX6_201 (by first | assumption | rfl) (by rfl) ?_
                      refine wa_ic_eq 103 dX6_hear_73 (by decide) (fun c73_6 => ?_) (fun c73_6 => ?_)
                      · try simp (disch := omega) only [nI_toInt, Int32.toInt_toInt64, not_true_eq_false, sI_off, r1e, r1m, w1_, w2_, w3_, w4_, w5_, w6_, w7_, w8_, w9_, w10_] at c73_6
                        try (exfalso; omega)
                        all_goals
                          skip
                          refine wa_aload_n dX6_hear_103 rfl ?_
                          refine wa_getI dX6_hear_104 fgX6_201 (by first | assumption | rfl) (by rfl) ?_
                          refine wa_iret dX6_hear_107 rfl ?_
                          refine ⟨?_, ?_⟩
                          · simp (disch := omega) only [sI_off, r1e, r1m, w4_]
                          · skip
                            refine Rel_W hrel ?relw ?fs ?fr ?fp ?fm
                            case fs =>
                              intro j_ hj_
                              refine ⟨?_, ?_, ?_, ?_, ?_, ?_, fun i_ hi_ => ?_, fun i_ hi_ => ?_⟩
                              all_goals
                                simp (disch := omega) only [sI_off, bI_off, sL_off, bL_off, r1l, r2l, rb1l, rb2l, r1m, r2m, rb1e, rb2e,r1e]
                            case fr =>
                              intro r_ hr_
                              refine ⟨?_, ?_, ?_, fun i_ hi_ => ?_⟩
                              all_goals
                                simp (disch := omega) only [sI_off, bI_off, sL_off, bL_off, r1l, r2l, rb1l, rb2l, r1m, r2m, rb1e, rb2e,r1e]
                            case fp =>
                              refine ⟨?_, ?_, ?_, ?_, ?_⟩
                              all_goals
                                simp (disch := omega) only [sI_off, bI_off, sL_off, bL_off, r1l, r2l, rb1l, rb2l, r1m, r2m, rb1e, rb2e,r1e]
                            case fm =>
                              refine ⟨?_, ?_, fun q_ ha_ hb_ => ?_⟩
                              all_goals
                                simp (disch := omega) only [sI_off, bI_off, sL_off, bL_off, r1l, r2l, rb1l, rb2l, r1m, r2m, rb1e, rb2e,r1e]
                            case relw =>
                              refine ⟨x_ + 1, c_, a_, by omega, by omega, by omega, by omega, ?_, ?_, ?_, ?_, ?_, ?_, ?_, ?_, ?_, ?_⟩
                              all_goals simp (disch := omega) only [sI_off, r1e, r1m, w1_, w2_, w3_, w4_, w5_, w6_, w7_, w8_, w9_, w10_, nI_add]
                      · try simp (disch := omega) only [nI_toInt, Int32.toInt_toInt64, not_true_eq_false, sI_off, r1e, r1m, w1_, w2_, w3_, w4_, w5_, w6_, w7_, w8_, w9_, w10_] at c73_6
                        try (exfalso; omega)
                        all_goals
                          skip
                          refine wa_iload_n dX6_hear_76 rfl ?_
                          refine wa_if_neF 103 dX6_hear_77 (by decide) (by decide) ?_
                          refine wa_aload_n dX6_hear_80 rfl ?_
                          refine wa_iload_n dX6_hear_81 rfl ?_
                          refine wa_putI dX6_hear_82 fgX6_201 fw6_17 (by first | assumption | rfl) (by rfl) ?_
                          refine wa_aload_n dX6_hear_85 rfl ?_
                          refine wa_aload_n dX6_hear_86 rfl ?_
                          refine wa_getI dX6_hear_87 fgX6_192 (by first | assumption | rfl) (by rfl) ?_
                          refine wa_putI dX6_hear_90 fgX6_198 fw6_16 (by first | assumption | rfl) (by rfl) ?_
                          refine wa_aload_n dX6_hear_93 rfl ?_
                          first | refine wa_dupr dX6_hear_94 ?_ | refine wa_dupi dX6_hear_94 ?_
                          refine wa_getI dX6_hear_95 fgX6_195 (by first | assumption | rfl) (by rfl) ?_
                          refine wa_iconst (nI 1) dX6_hear_98 (by decide) ?_
                          refine wa_iadd dX6_hear_99 ?_
                          refine wa_putI dX6_hear_100 fgX6_195 fw6_15 (by first | assumption | rfl) (by rfl) ?_
                          refine wa_aload_n dX6_hear_103 rfl ?_
                          refine wa_getI dX6_hear_104 fgX6_201 (by first | assumption | rfl) (by rfl) ?_
                          refine wa_iret dX6_hear_107 rfl ?_
                          refine ⟨?_, ?_⟩
                          · simp (disch := omega) only [sI_off, r1e, r1m, w4_]
                          · skip
                            refine Rel_W hrel ?relw ?fs ?fr ?fp ?fm
                            case fs =>
                              intro j_ hj_
                              refine ⟨?_, ?_, ?_, ?_, ?_, ?_, fun i_ hi_ => ?_, fun i_ hi_ => ?_⟩
                              all_goals
                                simp (disch := omega) only [sI_off, bI_off, sL_off, bL_off, r1l, r2l, rb1l, rb2l, r1m, r2m, rb1e, rb2e,r1e]
                            case fr =>
                              intro r_ hr_
                              refine ⟨?_, ?_, ?_, fun i_ hi_ => ?_⟩
                              all_goals
                                simp (disch := omega) only [sI_off, bI_off, sL_off, bL_off, r1l, r2l, rb1l, rb2l, r1m, r2m, rb1e, rb2e,r1e]
                            case fp =>
                              refine ⟨?_, ?_, ?_, ?_, ?_⟩
                              all_goals
                                simp (disch := omega) only [sI_off, bI_off, sL_off, bL_off, r1l, r2l, rb1l, rb2l, r1m, r2m, rb1e, rb2e,r1e]
                            case fm =>
                              refine ⟨?_, ?_, fun q_ ha_ hb_ => ?_⟩
                              all_goals
                                simp (disch := omega) only [sI_off, bI_off, sL_off, bL_off, r1l, r2l, rb1l, rb2l, r1m, r2m, rb1e, rb2e,r1e]
                            case relw =>
                              refine ⟨x_ + 1, c_, a_, by omega, by omega, by omega, by omega, ?_, ?_, ?_, ?_, ?_, ?_, ?_, ?_, ?_, ?_⟩
                              all_goals simp (disch := omega) only [sI_off, r1e, r1m, w1_, w2_, w3_, w4_, w5_, w6_, w7_, w8_, w9_, w10_, nI_add]
                  · try simp (disch := omega) only [nI_toInt, Int32.toInt_toInt64, not_true_eq_false, sI_off, r1e, r1m, w1_, w2_, w3_, w4_, w5_, w6_, w7_, w8_, w9_, w10_] at c59_5
                    try (exfalso; omega)
                    all_goals
                      skip
                      refine wa_iconst (nI 1) dX6_hear_62 (by decide) ?_
                      refine wa_goto 67 dX6_hear_63 (by decide) ?_
                      refine wa_istore_n dX6_hear_67 (by decide) ?_
                      refine wa_iload_n dX6_hear_68 rfl ?_
                      refine wa_aload_n dX6_hear_69 rfl ?_
                      refine wa_getI dX6_hear_70 fgX6_201 (by first | assumption | rfl) (by rfl) ?_
                      refine wa_ic_eq 103 dX6_hear_73 (by decide) (fun c73_7 => ?_) (fun c73_7 => ?_)
                      · try simp (disch := omega) only [nI_toInt, Int32.toInt_toInt64, not_true_eq_false, sI_off, r1e, r1m, w1_, w2_, w3_, w4_, w5_, w6_, w7_, w8_, w9_, w10_] at c73_7
                        try (exfalso; omega)
                        all_goals
                          skip
                          refine wa_aload_n dX6_hear_103 rfl ?_
                          refine wa_getI dX6_hear_104 fgX6_201 (by first | assumption | rfl) (by rfl) ?_
                          refine wa_iret dX6_hear_107 rfl ?_
                          refine ⟨?_, ?_⟩
                          · simp (disch := omega) only [sI_off, r1e, r1m, w4_]
                          · skip
                            refine Rel_W hrel ?relw ?fs ?fr ?fp ?fm
                            case fs =>
                              intro j_ hj_
                              refine ⟨?_, ?_, ?_, ?_, ?_, ?_, fun i_ hi_ => ?_, fun i_ hi_ => ?_⟩
                              all_goals
                                simp (disch := omega) only [sI_off, bI_off, sL_off, bL_off, r1l, r2l, rb1l, rb2l, r1m, r2m, rb1e, rb2e,r1e]
                            case fr =>
                              intro r_ hr_
                              refine ⟨?_, ?_, ?_, fun i_ hi_ => ?_⟩
                              all_goals
                                simp (disch := omega) only [sI_off, bI_off, sL_off, bL_off, r1l, r2l, rb1l, rb2l, r1m, r2m, rb1e, rb2e,r1e]
                            case fp =>
                              refine ⟨?_, ?_, ?_, ?_, ?_⟩
                              all_goals
                                simp (disch := omega) only [sI_off, bI_off, sL_off, bL_off, r1l, r2l, rb1l, rb2l, r1m, r2m, rb1e, rb2e,r1e]
                            case fm =>
                              refine ⟨?_, ?_, fun q_ ha_ hb_ => ?_⟩
                              all_goals
                                simp (disch := omega) only [sI_off, bI_off, sL_off, bL_off, r1l, r2l, rb1l, rb2l, r1m, r2m, rb1e, rb2e,r1e]
                            case relw =>
                              refine ⟨x_ + 1, c_, a_, by omega, by omega, by omega, by omega, ?_, ?_, ?_, ?_, ?_, ?_, ?_, ?_, ?_, ?_⟩
                              all_goals simp (disch := omega) only [sI_off, r1e, r1m, w1_, w2_, w3_, w4_, w5_, w6_, w7_, w8_, w9_, w10_, nI_add]
                      · try simp (disch := omega) only [nI_toInt, Int32.toInt_toInt64, not_true_eq_false, sI_off, r1e, r1m, w1_, w2_, w3_, w4_, w5_, w6_, w7_, w8_, w9_, w10_] at c73_7
                        try (exfalso; omega)
                        all_goals
                          skip
                          refine wa_iload_n dX6_hear_76 rfl ?_
                          refine wa_if_neT 103 dX6_hear_77 (by decide) (by decide) ?_
                          refine wa_aload_n dX6_hear_103 rfl ?_
                          refine wa_getI dX6_hear_104 fgX6_201 (by first | assumption | rfl) (by rfl) ?_
                          refine wa_iret dX6_hear_107 rfl ?_
                          refine ⟨?_, ?_⟩
                          · simp (disch := omega) only [sI_off, r1e, r1m, w4_]
                          · skip
                            refine Rel_W hrel ?relw ?fs ?fr ?fp ?fm
                            case fs =>
                              intro j_ hj_
                              refine ⟨?_, ?_, ?_, ?_, ?_, ?_, fun i_ hi_ => ?_, fun i_ hi_ => ?_⟩
                              all_goals
                                simp (disch := omega) only [sI_off, bI_off, sL_off, bL_off, r1l, r2l, rb1l, rb2l, r1m, r2m, rb1e, rb2e,r1e]
                            case fr =>
                              intro r_ hr_
                              refine ⟨?_, ?_, ?_, fun i_ hi_ => ?_⟩
                              all_goals
                                simp (disch := omega) only [sI_off, bI_off, sL_off, bL_off, r1l, r2l, rb1l, rb2l, r1m, r2m, rb1e, rb2e,r1e]
                            case fp =>
                              refine ⟨?_, ?_, ?_, ?_, ?_⟩
                              all_goals
                                simp (disch := omega) only [sI_off, bI_off, sL_off, bL_off, r1l, r2l, rb1l, rb2l, r1m, r2m, rb1e, rb2e,r1e]
                            case fm =>
                              refine ⟨?_, ?_, fun q_ ha_ hb_ => ?_⟩
                              all_goals
                                simp (disch := omega) only [sI_off, bI_off, sL_off, bL_off, r1l, r2l, rb1l, rb2l, r1m, r2m, rb1e, rb2e,r1e]
                            case relw =>
                              refine ⟨x_ + 1, c_, a_, by omega, by omega, by omega, by omega, ?_, ?_, ?_, ?_, ?_, ?_, ?_, ?_, ?_, ?_⟩
                              all_goals simp (disch := omega) only [sI_off, r1e, r1m, w1_, w2_, w3_, w4_, w5_, w6_, w7_, w8_, w9_, w10_, nI_add]
          · try simp (disch := omega) only [nI_toInt, Int32.toInt_toInt64, not_true_eq_false, sI_off, r1e, r1m, w1_, w2_, w3_, w4_, w5_, w6_, w7_, w8_, w9_, w10_] at c27_2
            try (exfalso; omega)
            all_goals
              skip
              refine wa_iconst (nI 0) dX6_hear_30 (by decide) ?_
              refine wa_goto 38 dX6_hear_31 (by decide) ?_
              refine wa_istore_n dX6_hear_38 (by decide) ?_
              refine wa_aload_n dX6_hear_39 rfl ?_
              refine wa_getI dX6_hear_40 fgX6_198 (by first | assumption | rfl) (by rfl) ?_
              refine wa_if_le 66 dX6_hear_43 (by decide) (fun c43_8 => ?_) (fun c43_8 => ?_)
              · try simp (disch := omega) only [nI_toInt, Int32.toInt_toInt64, not_true_eq_false, sI_off, r1e, r1m, w1_, w2_, w3_, w4_, w5_, w6_, w7_, w8_, w9_, w10_] at c43_8
                try (exfalso; omega)
                all_goals
                  skip
                  refine wa_iconst (nI 0) dX6_hear_66 (by decide) ?_
                  refine wa_istore_n dX6_hear_67 (by decide) ?_
                  refine wa_iload_n dX6_hear_68 rfl ?_
                  refine wa_aload_n dX6_hear_69 rfl ?_
                  refine wa_getI dX6_hear_70 fgX6_201 (by first | assumption | rfl) (by rfl) ?_
                  refine wa_ic_eq 103 dX6_hear_73 (by decide) (fun c73_9 => ?_) (fun c73_9 => ?_)
                  · try simp (disch := omega) only [nI_toInt, Int32.toInt_toInt64, not_true_eq_false, sI_off, r1e, r1m, w1_, w2_, w3_, w4_, w5_, w6_, w7_, w8_, w9_, w10_] at c73_9
                    try (exfalso; omega)
                    all_goals
                      skip
                      refine wa_aload_n dX6_hear_103 rfl ?_
                      refine wa_getI dX6_hear_104 fgX6_201 (by first | assumption | rfl) (by rfl) ?_
                      refine wa_iret dX6_hear_107 rfl ?_
                      refine ⟨?_, ?_⟩
                      · simp (disch := omega) only [sI_off, r1e, r1m, w4_]
                      · skip
                        refine Rel_W hrel ?relw ?fs ?fr ?fp ?fm
                        case fs =>
                          intro j_ hj_
                          refine ⟨?_, ?_, ?_, ?_, ?_, ?_, fun i_ hi_ => ?_, fun i_ hi_ => ?_⟩
                          all_goals
                            simp (disch := omega) only [sI_off, bI_off, sL_off, bL_off, r1l, r2l, rb1l, rb2l, r1m, r2m, rb1e, rb2e,r1e]
                        case fr =>
                          intro r_ hr_
                          refine ⟨?_, ?_, ?_, fun i_ hi_ => ?_⟩
                          all_goals
                            simp (disch := omega) only [sI_off, bI_off, sL_off, bL_off, r1l, r2l, rb1l, rb2l, r1m, r2m, rb1e, rb2e,r1e]
                        case fp =>
                          refine ⟨?_, ?_, ?_, ?_, ?_⟩
                          all_goals
                            simp (disch := omega) only [sI_off, bI_off, sL_off, bL_off, r1l, r2l, rb1l, rb2l, r1m, r2m, rb1e, rb2e,r1e]
                        case fm =>
                          refine ⟨?_, ?_, fun q_ ha_ hb_ => ?_⟩
                          all_goals
                            simp (disch := omega) only [sI_off, bI_off, sL_off, bL_off, r1l, r2l, rb1l, rb2l, r1m, r2m, rb1e, rb2e,r1e]
                        case relw =>
                          refine ⟨x_ + 1, c_, a_, by omega, by omega, by omega, by omega, ?_, ?_, ?_, ?_, ?_, ?_, ?_, ?_, ?_, ?_⟩
                          all_goals simp (disch := omega) only [sI_off, r1e, r1m, w1_, w2_, w3_, w4_, w5_, w6_, w7_, w8_, w9_, w10_, nI_add]
                  · try simp (disch := omega) only [nI_toInt, Int32.toInt_toInt64, not_true_eq_false, sI_off, r1e, r1m, w1_, w2_, w3_, w4_, w5_, w6_, w7_, w8_, w9_, w10_] at c73_9
                    try (exfalso; omega)
                    all_goals
                      skip
                      refine wa_iload_n dX6_hear_76 rfl ?_
                      refine wa_if_neF 103 dX6_hear_77 (by decide) (by decide) ?_
                      refine wa_aload_n dX6_hear_80 rfl ?_
                      refine wa_iload_n dX6_hear_81 rfl ?_
                      refine wa_putI dX6_hear_82 fgX6_201 fw6_17 (by first | assumption | rfl) (by rfl) ?_
                      refine wa_aload_n dX6_hear_85 rfl ?_
                      refine wa_aload_n dX6_hear_86 rfl ?_
                      refine wa_getI dX6_hear_87 fgX6_192 (by first | assumption | rfl) (by rfl) ?_
                      refine wa_putI dX6_hear_90 fgX6_198 fw6_16 (by first | assumption | rfl) (by rfl) ?_
                      refine wa_aload_n dX6_hear_93 rfl ?_
                      first | refine wa_dupr dX6_hear_94 ?_ | refine wa_dupi dX6_hear_94 ?_
                      refine wa_getI dX6_hear_95 fgX6_195 (by first | assumption | rfl) (by rfl) ?_
                      refine wa_iconst (nI 1) dX6_hear_98 (by decide) ?_
                      refine wa_iadd dX6_hear_99 ?_
                      refine wa_putI dX6_hear_100 fgX6_195 fw6_15 (by first | assumption | rfl) (by rfl) ?_
                      refine wa_aload_n dX6_hear_103 rfl ?_
                      refine wa_getI dX6_hear_104 fgX6_201 (by first | assumption | rfl) (by rfl) ?_
                      refine wa_iret dX6_hear_107 rfl ?_
                      refine ⟨?_, ?_⟩
                      · simp (disch := omega) only [sI_off, r1e, r1m, w4_]
                      · skip
                        refine Rel_W hrel ?relw ?fs ?fr ?fp ?fm
                        case fs =>
                          intro j_ hj_
                          refine ⟨?_, ?_, ?_, ?_, ?_, ?_, fun i_ hi_ => ?_, fun i_ hi_ => ?_⟩
                          all_goals
                            simp (disch := omega) only [sI_off, bI_off, sL_off, bL_off, r1l, r2l, rb1l, rb2l, r1m, r2m, rb1e, rb2e,r1e]
                        case fr =>
                          intro r_ hr_
                          refine ⟨?_, ?_, ?_, fun i_ hi_ => ?_⟩
                          all_goals
                            simp (disch := omega) only [sI_off, bI_off, sL_off, bL_off, r1l, r2l, rb1l, rb2l, r1m, r2m, rb1e, rb2e,r1e]
                        case fp =>
                          refine ⟨?_, ?_, ?_, ?_, ?_⟩
                          all_goals
                            simp (disch := omega) only [sI_off, bI_off, sL_off, bL_off, r1l, r2l, rb1l, rb2l, r1m, r2m, rb1e, rb2e,r1e]
                        case fm =>
                          refine ⟨?_, ?_, fun q_ ha_ hb_ => ?_⟩
                          all_goals
                            simp (disch := omega) only [sI_off, bI_off, sL_off, bL_off, r1l, r2l, rb1l, rb2l, r1m, r2m, rb1e, rb2e,r1e]
                        case relw =>
                          refine ⟨x_ + 1, c_, a_, by omega, by omega, by omega, by omega, ?_, ?_, ?_, ?_, ?_, ?_, ?_, ?_, ?_, ?_⟩
                          all_goals simp (disch := omega) only [sI_off, r1e, r1m, w1_, w2_, w3_, w4_, w5_, w6_, w7_, w8_, w9_, w10_, nI_add]
              · try simp (disch := omega) only [nI_toInt, Int32.toInt_toInt64, not_true_eq_false, sI_off, r1e, r1m, w1_, w2_, w3_, w4_, w5_, w6_, w7_, w8_, w9_, w10_] at c43_8
                try (exfalso; omega)
                all_goals
                  skip
                  refine wa_aload_n dX6_hear_46 rfl ?_
                  refine wa_getI dX6_hear_47 fgX6_192 (by first | assumption | rfl) (by rfl) ?_
                  refine wa_aload_n dX6_hear_50 rfl ?_
                  refine wa_getI dX6_hear_51 fgX6_198 (by first | assumption | rfl) (by rfl) ?_
                  refine wa_isub dX6_hear_54 ?_
                  refine wa_aload_n dX6_hear_55 rfl ?_
                  refine wa_getI dX6_hear_56 fgX6_189 (by first | assumption | rfl) (by rfl) ?_
                  refine wa_ic_gt 66 dX6_hear_59 (by decide) (fun c59_10 => ?_) (fun c59_10 => ?_)
                  · try simp (disch := omega) only [nI_toInt, Int32.toInt_toInt64, not_true_eq_false, sI_off, r1e, r1m, w1_, w2_, w3_, w4_, w5_, w6_, w7_, w8_, w9_, w10_] at c59_10
                    try (exfalso; omega)
                    all_goals
                      skip
                      refine wa_iconst (nI 0) dX6_hear_66 (by decide) ?_
                      refine wa_istore_n dX6_hear_67 (by decide) ?_
                      refine wa_iload_n dX6_hear_68 rfl ?_
                      refine wa_aload_n dX6_hear_69 rfl ?_
                      refine wa_getI dX6_hear_70 fgX6_201 (by first | assumption | rfl) (by rfl) ?_
                      refine wa_ic_eq 103 dX6_hear_73 (by decide) (fun c73_11 => ?_) (fun c73_11 => ?_)
                      · try simp (disch := omega) only [nI_toInt, Int32.toInt_toInt64, not_true_eq_false, sI_off, r1e, r1m, w1_, w2_, w3_, w4_, w5_, w6_, w7_, w8_, w9_, w10_] at c73_11
                        try (exfalso; omega)
                        all_goals
                          skip
                          refine wa_aload_n dX6_hear_103 rfl ?_
                          refine wa_getI dX6_hear_104 fgX6_201 (by first | assumption | rfl) (by rfl) ?_
                          refine wa_iret dX6_hear_107 rfl ?_
                          refine ⟨?_, ?_⟩
                          · simp (disch := omega) only [sI_off, r1e, r1m, w4_]
                          · skip
                            refine Rel_W hrel ?relw ?fs ?fr ?fp ?fm
                            case fs =>
                              intro j_ hj_
                              refine ⟨?_, ?_, ?_, ?_, ?_, ?_, fun i_ hi_ => ?_, fun i_ hi_ => ?_⟩
                              all_goals
                                simp (disch := omega) only [sI_off, bI_off, sL_off, bL_off, r1l, r2l, rb1l, rb2l, r1m, r2m, rb1e, rb2e,r1e]
                            case fr =>
                              intro r_ hr_
                              refine ⟨?_, ?_, ?_, fun i_ hi_ => ?_⟩
                              all_goals
                                simp (disch := omega) only [sI_off, bI_off, sL_off, bL_off, r1l, r2l, rb1l, rb2l, r1m, r2m, rb1e, rb2e,r1e]
                            case fp =>
                              refine ⟨?_, ?_, ?_, ?_, ?_⟩
                              all_goals
                                simp (disch := omega) only [sI_off, bI_off, sL_off, bL_off, r1l, r2l, rb1l, rb2l, r1m, r2m, rb1e, rb2e,r1e]
                            case fm =>
                              refine ⟨?_, ?_, fun q_ ha_ hb_ => ?_⟩
                              all_goals
                                simp (disch := omega) only [sI_off, bI_off, sL_off, bL_off, r1l, r2l, rb1l, rb2l, r1m, r2m, rb1e, rb2e,r1e]
                            case relw =>
                              refine ⟨x_ + 1, c_, a_, by omega, by omega, by omega, by omega, ?_, ?_, ?_, ?_, ?_, ?_, ?_, ?_, ?_, ?_⟩
                              all_goals simp (disch := omega) only [sI_off, r1e, r1m, w1_, w2_, w3_, w4_, w5_, w6_, w7_, w8_, w9_, w10_, nI_add]
                      · try simp (disch := omega) only [nI_toInt, Int32.toInt_toInt64, not_true_eq_false, sI_off, r1e, r1m, w1_, w2_, w3_, w4_, w5_, w6_, w7_, w8_, w9_, w10_] at c73_11
                        try (exfalso; omega)
                        all_goals
                          skip
                          refine wa_iload_n dX6_hear_76 rfl ?_
                          refine wa_if_neF 103 dX6_hear_77 (by decide) (by decide) ?_
                          refine wa_aload_n dX6_hear_80 rfl ?_
                          refine wa_iload_n dX6_hear_81 rfl ?_
                          refine wa_putI dX6_hear_82 fgX6_201 fw6_17 (by first | assumption | rfl) (by rfl) ?_
                          refine wa_aload_n dX6_hear_85 rfl ?_
                          refine wa_aload_n dX6_hear_86 rfl ?_
                          refine wa_getI dX6_hear_87 fgX6_192 (by first | assumption | rfl) (by rfl) ?_
                          refine wa_putI dX6_hear_90 fgX6_198 fw6_16 (by first | assumption | rfl) (by rfl) ?_
                          refine wa_aload_n dX6_hear_93 rfl ?_
                          first | refine wa_dupr dX6_hear_94 ?_ | refine wa_dupi dX6_hear_94 ?_
                          refine wa_getI dX6_hear_95 fgX6_195 (by first | assumption | rfl) (by rfl) ?_
                          refine wa_iconst (nI 1) dX6_hear_98 (by decide) ?_
                          refine wa_iadd dX6_hear_99 ?_
                          refine wa_putI dX6_hear_100 fgX6_195 fw6_15 (by first | assumption | rfl) (by rfl) ?_
                          refine wa_aload_n dX6_hear_103 rfl ?_
                          refine wa_getI dX6_hear_104 fgX6_201 (by first | assumption | rfl) (by rfl) ?_
                          refine wa_iret dX6_hear_107 rfl ?_
                          refine ⟨?_, ?_⟩
                          · simp (disch := omega) only [sI_off, r1e, r1m, w4_]
                          · skip
                            refine Rel_W hrel ?relw ?fs ?fr ?fp ?fm
                            case fs =>
                              intro j_ hj_
                              refine ⟨?_, ?_, ?_, ?_, ?_, ?_, fun i_ hi_ => ?_, fun i_ hi_ => ?_⟩
                              all_goals
                                simp (disch := omega) only [sI_off, bI_off, sL_off, bL_off, r1l, r2l, rb1l, rb2l, r1m, r2m, rb1e, rb2e,r1e]
                            case fr =>
                              intro r_ hr_
                              refine ⟨?_, ?_, ?_, fun i_ hi_ => ?_⟩
                              all_goals
                                simp (disch := omega) only [sI_off, bI_off, sL_off, bL_off, r1l, r2l, rb1l, rb2l, r1m, r2m, rb1e, rb2e,r1e]
                            case fp =>
                              refine ⟨?_, ?_, ?_, ?_, ?_⟩
                              all_goals
                                simp (disch := omega) only [sI_off, bI_off, sL_off, bL_off, r1l, r2l, rb1l, rb2l, r1m, r2m, rb1e, rb2e,r1e]
                            case fm =>
                              refine ⟨?_, ?_, fun q_ ha_ hb_ => ?_⟩
                              all_goals
                                simp (disch := omega) only [sI_off, bI_off, sL_off, bL_off, r1l, r2l, rb1l, rb2l, r1m, r2m, rb1e, rb2e,r1e]
                            case relw =>
                              refine ⟨x_ + 1, c_, a_, by omega, by omega, by omega, by omega, ?_, ?_, ?_, ?_, ?_, ?_, ?_, ?_, ?_, ?_⟩
                              all_goals simp (disch := omega) only [sI_off, r1e, r1m, w1_, w2_, w3_, w4_, w5_, w6_, w7_, w8_, w9_, w10_, nI_add]
                  · try simp (disch := omega) only [nI_toInt, Int32.toInt_toInt64, not_true_eq_false, sI_off, r1e, r1m, w1_, w2_, w3_, w4_, w5_, w6_, w7_, w8_, w9_, w10_] at c59_10
                    try (exfalso; omega)
                    all_goals
                      skip
                      refine wa_iconst (nI 1) dX6_hear_62 (by decide) ?_
                      refine wa_goto 67 dX6_hear_63 (by decide) ?_
                      refine wa_istore_n dX6_hear_67 (by decide) ?_
                      refine wa_iload_n dX6_hear_68 rfl ?_
                      refine wa_aload_n dX6_hear_69 rfl ?_
                      refine wa_getI dX6_hear_70 fgX6_201 (by first | assumption | rfl) (by rfl) ?_
                      refine wa_ic_eq 103 dX6_hear_73 (by decide) (fun c73_12 => ?_) (fun c73_12 => ?_)
                      · try simp (disch := omega) only [nI_toInt, Int32.toInt_toInt64, not_true_eq_false, sI_off, r1e, r1m, w1_, w2_, w3_, w4_, w5_, w6_, w7_, w8_, w9_, w10_] at c73_12
                        try (exfalso; omega)
                        all_goals
                          skip
                          refine wa_aload_n dX6_hear_103 rfl ?_
                          refine wa_getI dX6_hear_104 fgX6_201 (by first | assumption | rfl) (by rfl) ?_
                          refine wa_iret dX6_hear_107 rfl ?_
                          refine ⟨?_, ?_⟩
                          · simp (disch := omega) only [sI_off, r1e, r1m, w4_]
                          · skip
                            refine Rel_W hrel ?relw ?fs ?fr ?fp ?fm
                            case fs =>
                              intro j_ hj_
                              refine ⟨?_, ?_, ?_, ?_, ?_, ?_, fun i_ hi_ => ?_, fun i_ hi_ => ?_⟩
                              all_goals
                                simp (disch := omega) only [sI_off, bI_off, sL_off, bL_off, r1l, r2l, rb1l, rb2l, r1m, r2m, rb1e, rb2e,r1e]
                            case fr =>
                              intro r_ hr_
                              refine ⟨?_, ?_, ?_, fun i_ hi_ => ?_⟩
                              all_goals
                                simp (disch := omega) only [sI_off, bI_off, sL_off, bL_off, r1l, r2l, rb1l, rb2l, r1m, r2m, rb1e, rb2e,r1e]
                            case fp =>
                              refine ⟨?_, ?_, ?_, ?_, ?_⟩
                              all_goals
                                simp (disch := omega) only [sI_off, bI_off, sL_off, bL_off, r1l, r2l, rb1l, rb2l, r1m, r2m, rb1e, rb2e,r1e]
                            case fm =>
                              refine ⟨?_, ?_, fun q_ ha_ hb_ => ?_⟩
                              all_goals
                                simp (disch := omega) only [sI_off, bI_off, sL_off, bL_off, r1l, r2l, rb1l, rb2l, r1m, r2m, rb1e, rb2e,r1e]
                            case relw =>
                              refine ⟨x_ + 1, c_, a_, by omega, by omega, by omega, by omega, ?_, ?_, ?_, ?_, ?_, ?_, ?_, ?_, ?_, ?_⟩
                              all_goals simp (disch := omega) only [sI_off, r1e, r1m, w1_, w2_, w3_, w4_, w5_, w6_, w7_, w8_, w9_, w10_, nI_add]
                      · try simp (disch := omega) only [nI_toInt, Int32.toInt_toInt64, not_true_eq_false, sI_off, r1e, r1m, w1_, w2_, w3_, w4_, w5_, w6_, w7_, w8_, w9_, w10_] at c73_12
                        try (exfalso; omega)
                        all_goals
                          skip
                          refine wa_iload_n dX6_hear_76 rfl ?_
                          refine wa_if_neT 103 dX6_hear_77 (by decide) (by decide) ?_
                          refine wa_aload_n dX6_hear_103 rfl ?_
                          refine wa_getI dX6_hear_104 fgX6_201 (by first | assumption | rfl) (by rfl) ?_
                          refine wa_iret dX6_hear_107 rfl ?_
                          refine ⟨?_, ?_⟩
                          · simp (disch := omega) only [sI_off, r1e, r1m, w4_]
                          · skip
                            refine Rel_W hrel ?relw ?fs ?fr ?fp ?fm
                            case fs =>
                              intro j_ hj_
                              refine ⟨?_, ?_, ?_, ?_, ?_, ?_, fun i_ hi_ => ?_, fun i_ hi_ => ?_⟩
                              all_goals
                                simp (disch := omega) only [sI_off, bI_off, sL_off, bL_off, r1l, r2l, rb1l, rb2l, r1m, r2m, rb1e, rb2e,r1e]
                            case fr =>
                              intro r_ hr_
                              refine ⟨?_, ?_, ?_, fun i_ hi_ => ?_⟩
                              all_goals
                                simp (disch := omega) only [sI_off, bI_off, sL_off, bL_off, r1l, r2l, rb1l, rb2l, r1m, r2m, rb1e, rb2e,r1e]
                            case fp =>
                              refine ⟨?_, ?_, ?_, ?_, ?_⟩
                              all_goals
                                simp (disch := omega) only [sI_off, bI_off, sL_off, bL_off, r1l, r2l, rb1l, rb2l, r1m, r2m, rb1e, rb2e,r1e]
                            case fm =>
                              refine ⟨?_, ?_, fun q_ ha_ hb_ => ?_⟩
                              all_goals
                                simp (disch := omega) only [sI_off, bI_off, sL_off, bL_off, r1l, r2l, rb1l, rb2l, r1m, r2m, rb1e, rb2e,r1e]
                            case relw =>
                              refine ⟨x_ + 1, c_, a_, by omega, by omega, by omega, by omega, ?_, ?_, ?_, ?_, ?_, ?_, ?_, ?_, ?_, ?_⟩
                              all_goals simp (disch := omega) only [sI_off, r1e, r1m, w1_, w2_, w3_, w4_, w5_, w6_, w7_, w8_, w9_, w10_, nI_add]
      · try simp (disch := omega) only [nI_toInt, Int32.toInt_toInt64, not_true_eq_false, sI_off, r1e, r1m, w1_, w2_, w3_, w4_, w5_, w6_, w7_, w8_, w9_, w10_] at c15_1
        try (exfalso; omega)
        all_goals
          skip
          refine wa_iconst (nI 1) dX6_hear_18 (by decide) ?_
          refine wa_goto 38 dX6_hear_19 (by decide) ?_
          refine wa_istore_n dX6_hear_38 (by decide) ?_
          refine wa_aload_n dX6_hear_39 rfl ?_
          refine wa_getI dX6_hear_40 fgX6_198 (by first | assumption | rfl) (by rfl) ?_
          refine wa_if_le 66 dX6_hear_43 (by decide) (fun c43_13 => ?_) (fun c43_13 => ?_)
          · try simp (disch := omega) only [nI_toInt, Int32.toInt_toInt64, not_true_eq_false, sI_off, r1e, r1m, w1_, w2_, w3_, w4_, w5_, w6_, w7_, w8_, w9_, w10_] at c43_13
            try (exfalso; omega)
            all_goals
              skip
              refine wa_iconst (nI 0) dX6_hear_66 (by decide) ?_
              refine wa_istore_n dX6_hear_67 (by decide) ?_
              refine wa_iload_n dX6_hear_68 rfl ?_
              refine wa_aload_n dX6_hear_69 rfl ?_
              refine wa_getI dX6_hear_70 fgX6_201 (by first | assumption | rfl) (by rfl) ?_
              refine wa_ic_eq 103 dX6_hear_73 (by decide) (fun c73_14 => ?_) (fun c73_14 => ?_)
              · try simp (disch := omega) only [nI_toInt, Int32.toInt_toInt64, not_true_eq_false, sI_off, r1e, r1m, w1_, w2_, w3_, w4_, w5_, w6_, w7_, w8_, w9_, w10_] at c73_14
                try (exfalso; omega)
                all_goals
                  skip
                  refine wa_aload_n dX6_hear_103 rfl ?_
                  refine wa_getI dX6_hear_104 fgX6_201 (by first | assumption | rfl) (by rfl) ?_
                  refine wa_iret dX6_hear_107 rfl ?_
                  refine ⟨?_, ?_⟩
                  · simp (disch := omega) only [sI_off, r1e, r1m, w4_]
                  · skip
                    refine Rel_W hrel ?relw ?fs ?fr ?fp ?fm
                    case fs =>
                      intro j_ hj_
                      refine ⟨?_, ?_, ?_, ?_, ?_, ?_, fun i_ hi_ => ?_, fun i_ hi_ => ?_⟩
                      all_goals
                        simp (disch := omega) only [sI_off, bI_off, sL_off, bL_off, r1l, r2l, rb1l, rb2l, r1m, r2m, rb1e, rb2e,r1e]
                    case fr =>
                      intro r_ hr_
                      refine ⟨?_, ?_, ?_, fun i_ hi_ => ?_⟩
                      all_goals
                        simp (disch := omega) only [sI_off, bI_off, sL_off, bL_off, r1l, r2l, rb1l, rb2l, r1m, r2m, rb1e, rb2e,r1e]
                    case fp =>
                      refine ⟨?_, ?_, ?_, ?_, ?_⟩
                      all_goals
                        simp (disch := omega) only [sI_off, bI_off, sL_off, bL_off, r1l, r2l, rb1l, rb2l, r1m, r2m, rb1e, rb2e,r1e]
                    case fm =>
                      refine ⟨?_, ?_, fun q_ ha_ hb_ => ?_⟩
                      all_goals
                        simp (disch := omega) only [sI_off, bI_off, sL_off, bL_off, r1l, r2l, rb1l, rb2l, r1m, r2m, rb1e, rb2e,r1e]
                    case relw =>
                      refine ⟨x_ + 1, c_, a_, by omega, by omega, by omega, by omega, ?_, ?_, ?_, ?_, ?_, ?_, ?_, ?_, ?_, ?_⟩
                      all_goals simp (disch := omega) only [sI_off, r1e, r1m, w1_, w2_, w3_, w4_, w5_, w6_, w7_, w8_, w9_, w10_, nI_add]
              · try simp (disch := omega) only [nI_toInt, Int32.toInt_toInt64, not_true_eq_false, sI_off, r1e, r1m, w1_, w2_, w3_, w4_, w5_, w6_, w7_, w8_, w9_, w10_] at c73_14
                try (exfalso; omega)
                all_goals
                  skip
                  refine wa_iload_n dX6_hear_76 rfl ?_
                  refine wa_if_neF 103 dX6_hear_77 (by decide) (by decide) ?_
                  refine wa_aload_n dX6_hear_80 rfl ?_
                  refine wa_iload_n dX6_hear_81 rfl ?_
                  refine wa_putI dX6_hear_82 fgX6_201 fw6_17 (by first | assumption | rfl) (by rfl) ?_
                  refine wa_aload_n dX6_hear_85 rfl ?_
                  refine wa_aload_n dX6_hear_86 rfl ?_
                  refine wa_getI dX6_hear_87 fgX6_192 (by first | assumption | rfl) (by rfl) ?_
                  refine wa_putI dX6_hear_90 fgX6_198 fw6_16 (by first | assumption | rfl) (by rfl) ?_
                  refine wa_aload_n dX6_hear_93 rfl ?_
                  first | refine wa_dupr dX6_hear_94 ?_ | refine wa_dupi dX6_hear_94 ?_
                  refine wa_getI dX6_hear_95 fgX6_195 (by first | assumption | rfl) (by rfl) ?_
                  refine wa_iconst (nI 1) dX6_hear_98 (by decide) ?_
                  refine wa_iadd dX6_hear_99 ?_
                  refine wa_putI dX6_hear_100 fgX6_195 fw6_15 (by first | assumption | rfl) (by rfl) ?_
                  refine wa_aload_n dX6_hear_103 rfl ?_
                  refine wa_getI dX6_hear_104 fgX6_201 (by first | assumption | rfl) (by rfl) ?_
                  refine wa_iret dX6_hear_107 rfl ?_
                  refine ⟨?_, ?_⟩
                  · simp (disch := omega) only [sI_off, r1e, r1m, w4_]
                  · skip
                    refine Rel_W hrel ?relw ?fs ?fr ?fp ?fm
                    case fs =>
                      intro j_ hj_
                      refine ⟨?_, ?_, ?_, ?_, ?_, ?_, fun i_ hi_ => ?_, fun i_ hi_ => ?_⟩
                      all_goals
                        simp (disch := omega) only [sI_off, bI_off, sL_off, bL_off, r1l, r2l, rb1l, rb2l, r1m, r2m, rb1e, rb2e,r1e]
                    case fr =>
                      intro r_ hr_
                      refine ⟨?_, ?_, ?_, fun i_ hi_ => ?_⟩
                      all_goals
                        simp (disch := omega) only [sI_off, bI_off, sL_off, bL_off, r1l, r2l, rb1l, rb2l, r1m, r2m, rb1e, rb2e,r1e]
                    case fp =>
                      refine ⟨?_, ?_, ?_, ?_, ?_⟩
                      all_goals
                        simp (disch := omega) only [sI_off, bI_off, sL_off, bL_off, r1l, r2l, rb1l, rb2l, r1m, r2m, rb1e, rb2e,r1e]
                    case fm =>
                      refine ⟨?_, ?_, fun q_ ha_ hb_ => ?_⟩
                      all_goals
                        simp (disch := omega) only [sI_off, bI_off, sL_off, bL_off, r1l, r2l, rb1l, rb2l, r1m, r2m, rb1e, rb2e,r1e]
                    case relw =>
                      refine ⟨x_ + 1, c_, a_, by omega, by omega, by omega, by omega, ?_, ?_, ?_, ?_, ?_, ?_, ?_, ?_, ?_, ?_⟩
                      all_goals simp (disch := omega) only [sI_off, r1e, r1m, w1_, w2_, w3_, w4_, w5_, w6_, w7_, w8_, w9_, w10_, nI_add]
          · try simp (disch := omega) only [nI_toInt, Int32.toInt_toInt64, not_true_eq_false, sI_off, r1e, r1m, w1_, w2_, w3_, w4_, w5_, w6_, w7_, w8_, w9_, w10_] at c43_13
            try (exfalso; omega)
            all_goals
              skip
              refine wa_aload_n dX6_hear_46 rfl ?_
              refine wa_getI dX6_hear_47 fgX6_192 (by first | assumption | rfl) (by rfl) ?_
              refine wa_aload_n dX6_hear_50 rfl ?_
              refine wa_getI dX6_hear_51 fgX6_198 (by first | assumption | rfl) (by rfl) ?_
              refine wa_isub dX6_hear_54 ?_
              refine wa_aload_n dX6_hear_55 rfl ?_
              refine wa_getI dX6_hear_56 fgX6_189 (by first | assumption | rfl) (by rfl) ?_
              refine wa_ic_gt 66 dX6_hear_59 (by decide) (fun c59_15 => ?_) (fun c59_15 => ?_)
              · try simp (disch := omega) only [nI_toInt, Int32.toInt_toInt64, not_true_eq_false, sI_off, r1e, r1m, w1_, w2_, w3_, w4_, w5_, w6_, w7_, w8_, w9_, w10_] at c59_15
                try (exfalso; omega)
                all_goals
                  skip
                  refine wa_iconst (nI 0) dX6_hear_66 (by decide) ?_
                  refine wa_istore_n dX6_hear_67 (by decide) ?_
                  refine wa_iload_n dX6_hear_68 rfl ?_
                  refine wa_aload_n dX6_hear_69 rfl ?_
                  refine wa_getI dX6_hear_70 fgX6_201 (by first | assumption | rfl) (by rfl) ?_
                  refine wa_ic_eq 103 dX6_hear_73 (by decide) (fun c73_16 => ?_) (fun c73_16 => ?_)
                  · try simp (disch := omega) only [nI_toInt, Int32.toInt_toInt64, not_true_eq_false, sI_off, r1e, r1m, w1_, w2_, w3_, w4_, w5_, w6_, w7_, w8_, w9_, w10_] at c73_16
                    try (exfalso; omega)
                    all_goals
                      skip
                      refine wa_aload_n dX6_hear_103 rfl ?_
                      refine wa_getI dX6_hear_104 fgX6_201 (by first | assumption | rfl) (by rfl) ?_
                      refine wa_iret dX6_hear_107 rfl ?_
                      refine ⟨?_, ?_⟩
                      · simp (disch := omega) only [sI_off, r1e, r1m, w4_]
                      · skip
                        refine Rel_W hrel ?relw ?fs ?fr ?fp ?fm
                        case fs =>
                          intro j_ hj_
                          refine ⟨?_, ?_, ?_, ?_, ?_, ?_, fun i_ hi_ => ?_, fun i_ hi_ => ?_⟩
                          all_goals
                            simp (disch := omega) only [sI_off, bI_off, sL_off, bL_off, r1l, r2l, rb1l, rb2l, r1m, r2m, rb1e, rb2e,r1e]
                        case fr =>
                          intro r_ hr_
                          refine ⟨?_, ?_, ?_, fun i_ hi_ => ?_⟩
                          all_goals
                            simp (disch := omega) only [sI_off, bI_off, sL_off, bL_off, r1l, r2l, rb1l, rb2l, r1m, r2m, rb1e, rb2e,r1e]
                        case fp =>
                          refine ⟨?_, ?_, ?_, ?_, ?_⟩
                          all_goals
                            simp (disch := omega) only [sI_off, bI_off, sL_off, bL_off, r1l, r2l, rb1l, rb2l, r1m, r2m, rb1e, rb2e,r1e]
                        case fm =>
                          refine ⟨?_, ?_, fun q_ ha_ hb_ => ?_⟩
                          all_goals
                            simp (disch := omega) only [sI_off, bI_off, sL_off, bL_off, r1l, r2l, rb1l, rb2l, r1m, r2m, rb1e, rb2e,r1e]
                        case relw =>
                          refine ⟨x_ + 1, c_, a_, by omega, by omega, by omega, by omega, ?_, ?_, ?_, ?_, ?_, ?_, ?_, ?_, ?_, ?_⟩
                          all_goals simp (disch := omega) only [sI_off, r1e, r1m, w1_, w2_, w3_, w4_, w5_, w6_, w7_, w8_, w9_, w10_, nI_add]
                  · try simp (disch := omega) only [nI_toInt, Int32.toInt_toInt64, not_true_eq_false, sI_off, r1e, r1m, w1_, w2_, w3_, w4_, w5_, w6_, w7_, w8_, w9_, w10_] at c73_16
                    try (exfalso; omega)
                    all_goals
                      skip
                      refine wa_iload_n dX6_hear_76 rfl ?_
                      refine wa_if_neF 103 dX6_hear_77 (by decide) (by decide) ?_
                      refine wa_aload_n dX6_hear_80 rfl ?_
                      refine wa_iload_n dX6_hear_81 rfl ?_
                      refine wa_putI dX6_hear_82 fgX6_201 fw6_17 (by first | assumption | rfl) (by rfl) ?_
                      refine wa_aload_n dX6_hear_85 rfl ?_
                      refine wa_aload_n dX6_hear_86 rfl ?_
                      refine wa_getI dX6_hear_87 fgX6_192 (by first | assumption | rfl) (by rfl) ?_
                      refine wa_putI dX6_hear_90 fgX6_198 fw6_16 (by first | assumption | rfl) (by rfl) ?_
                      refine wa_aload_n dX6_hear_93 rfl ?_
                      first | refine wa_dupr dX6_hear_94 ?_ | refine wa_dupi dX6_hear_94 ?_
                      refine wa_getI dX6_hear_95 fgX6_195 (by first | assumption | rfl) (by rfl) ?_
                      refine wa_iconst (nI 1) dX6_hear_98 (by decide) ?_
                      refine wa_iadd dX6_hear_99 ?_
                      refine wa_putI dX6_hear_100 fgX6_195 fw6_15 (by first | assumption | rfl) (by rfl) ?_
                      refine wa_aload_n dX6_hear_103 rfl ?_
                      refine wa_getI dX6_hear_104 fgX6_201 (by first | assumption | rfl) (by rfl) ?_
                      refine wa_iret dX6_hear_107 rfl ?_
                      refine ⟨?_, ?_⟩
                      · simp (disch := omega) only [sI_off, r1e, r1m, w4_]
                      · skip
                        refine Rel_W hrel ?relw ?fs ?fr ?fp ?fm
                        case fs =>
                          intro j_ hj_
                          refine ⟨?_, ?_, ?_, ?_, ?_, ?_, fun i_ hi_ => ?_, fun i_ hi_ => ?_⟩
                          all_goals
                            simp (disch := omega) only [sI_off, bI_off, sL_off, bL_off, r1l, r2l, rb1l, rb2l, r1m, r2m, rb1e, rb2e,r1e]
                        case fr =>
                          intro r_ hr_
                          refine ⟨?_, ?_, ?_, fun i_ hi_ => ?_⟩
                          all_goals
                            simp (disch := omega) only [sI_off, bI_off, sL_off, bL_off, r1l, r2l, rb1l, rb2l, r1m, r2m, rb1e, rb2e,r1e]
                        case fp =>
                          refine ⟨?_, ?_, ?_, ?_, ?_⟩
                          all_goals
                            simp (disch := omega) only [sI_off, bI_off, sL_off, bL_off, r1l, r2l, rb1l, rb2l, r1m, r2m, rb1e, rb2e,r1e]
                        case fm =>
                          refine ⟨?_, ?_, fun q_ ha_ hb_ => ?_⟩
                          all_goals
                            simp (disch := omega) only [sI_off, bI_off, sL_off, bL_off, r1l, r2l, rb1l, rb2l, r1m, r2m, rb1e, rb2e,r1e]
                        case relw =>
                          refine ⟨x_ + 1, c_, a_, by omega, by omega, by omega, by omega, ?_, ?_, ?_, ?_, ?_, ?_, ?_, ?_, ?_, ?_⟩
                          all_goals simp (disch := omega) only [sI_off, r1e, r1m, w1_, w2_, w3_, w4_, w5_, w6_, w7_, w8_, w9_, w10_, nI_add]
              · try simp (disch := omega) only [nI_toInt, Int32.toInt_toInt64, not_true_eq_false, sI_off, r1e, r1m, w1_, w2_, w3_, w4_, w5_, w6_, w7_, w8_, w9_, w10_] at c59_15
                try (exfalso; omega)
                all_goals
                  skip
                  refine wa_iconst (nI 1) dX6_hear_62 (by decide) ?_
                  refine wa_goto 67 dX6_hear_63 (by decide) ?_
                  refine wa_istore_n dX6_hear_67 (by decide) ?_
                  refine wa_iload_n dX6_hear_68 rfl ?_
                  refine wa_aload_n dX6_hear_69 rfl ?_
                  refine wa_getI dX6_hear_70 fgX6_201 (by first | assumption | rfl) (by rfl) ?_
                  refine wa_ic_eq 103 dX6_hear_73 (by decide) (fun c73_17 => ?_) (fun c73_17 => ?_)
                  · try simp (disch := omega) only [nI_toInt, Int32.toInt_toInt64, not_true_eq_false, sI_off, r1e, r1m, w1_, w2_, w3_, w4_, w5_, w6_, w7_, w8_, w9_, w10_] at c73_17
                    try (exfalso; omega)
                    all_goals
                      skip
                      refine wa_aload_n dX6_hear_103 rfl ?_
                      refine wa_getI dX6_hear_104 fgX6_201 (by first | assumption | rfl) (by rfl) ?_
                      refine wa_iret dX6_hear_107 rfl ?_
                      refine ⟨?_, ?_⟩
                      · simp (disch := omega) only [sI_off, r1e, r1m, w4_]
                      · skip
                        refine Rel_W hrel ?relw ?fs ?fr ?fp ?fm
                        case fs =>
                          intro j_ hj_
                          refine ⟨?_, ?_, ?_, ?_, ?_, ?_, fun i_ hi_ => ?_, fun i_ hi_ => ?_⟩
                          all_goals
                            simp (disch := omega) only [sI_off, bI_off, sL_off, bL_off, r1l, r2l, rb1l, rb2l, r1m, r2m, rb1e, rb2e,r1e]
                        case fr =>
                          intro r_ hr_
                          refine ⟨?_, ?_, ?_, fun i_ hi_ => ?_⟩
                          all_goals
                            simp (disch := omega) only [sI_off, bI_off, sL_off, bL_off, r1l, r2l, rb1l, rb2l, r1m, r2m, rb1e, rb2e,r1e]
                        case fp =>
                          refine ⟨?_, ?_, ?_, ?_, ?_⟩
                          all_goals
                            simp (disch := omega) only [sI_off, bI_off, sL_off, bL_off, r1l, r2l, rb1l, rb2l, r1m, r2m, rb1e, rb2e,r1e]
                        case fm =>
                          refine ⟨?_, ?_, fun q_ ha_ hb_ => ?_⟩
                          all_goals
                            simp (disch := omega) only [sI_off, bI_off, sL_off, bL_off, r1l, r2l, rb1l, rb2l, r1m, r2m, rb1e, rb2e,r1e]
                        case relw =>
                          refine ⟨x_ + 1, c_, a_, by omega, by omega, by omega, by omega, ?_, ?_, ?_, ?_, ?_, ?_, ?_, ?_, ?_, ?_⟩
                          all_goals simp (disch := omega) only [sI_off, r1e, r1m, w1_, w2_, w3_, w4_, w5_, w6_, w7_, w8_, w9_, w10_, nI_add]
                  · try simp (disch := omega) only [nI_toInt, Int32.toInt_toInt64, not_true_eq_false, sI_off, r1e, r1m, w1_, w2_, w3_, w4_, w5_, w6_, w7_, w8_, w9_, w10_] at c73_17
                    try (exfalso; omega)
                    all_goals
                      skip
                      refine wa_iload_n dX6_hear_76 rfl ?_
                      refine wa_if_neT 103 dX6_hear_77 (by decide) (by decide) ?_
                      refine wa_aload_n dX6_hear_103 rfl ?_
                      refine wa_getI dX6_hear_104 fgX6_201 (by first | assumption | rfl) (by rfl) ?_
                      refine wa_iret dX6_hear_107 rfl ?_
                      refine ⟨?_, ?_⟩
                      · simp (disch := omega) only [sI_off, r1e, r1m, w4_]
                      · skip
                        refine Rel_W hrel ?relw ?fs ?fr ?fp ?fm
                        case fs =>
                          intro j_ hj_
                          refine ⟨?_, ?_, ?_, ?_, ?_, ?_, fun i_ hi_ => ?_, fun i_ hi_ => ?_⟩
                          all_goals
                            simp (disch := omega) only [sI_off, bI_off, sL_off, bL_off, r1l, r2l, rb1l, rb2l, r1m, r2m, rb1e, rb2e,r1e]
                        case fr =>
                          intro r_ hr_
                          refine ⟨?_, ?_, ?_, fun i_ hi_ => ?_⟩
                          all_goals
                            simp (disch := omega) only [sI_off, bI_off, sL_off, bL_off, r1l, r2l, rb1l, rb2l, r1m, r2m, rb1e, rb2e,r1e]
                        case fp =>
                          refine ⟨?_, ?_, ?_, ?_, ?_⟩
                          all_goals
                            simp (disch := omega) only [sI_off, bI_off, sL_off, bL_off, r1l, r2l, rb1l, rb2l, r1m, r2m, rb1e, rb2e,r1e]
                        case fm =>
                          refine ⟨?_, ?_, fun q_ ha_ hb_ => ?_⟩
                          all_goals
                            simp (disch := omega) only [sI_off, bI_off, sL_off, bL_off, r1l, r2l, rb1l, rb2l, r1m, r2m, rb1e, rb2e,r1e]
                        case relw =>
                          refine ⟨x_ + 1, c_, a_, by omega, by omega, by omega, by omega, ?_, ?_, ?_, ?_, ?_, ?_, ?_, ?_, ?_, ?_⟩
                          all_goals simp (disch := omega) only [sI_off, r1e, r1m, w1_, w2_, w3_, w4_, w5_, w6_, w7_, w8_, w9_, w10_, nI_add]
