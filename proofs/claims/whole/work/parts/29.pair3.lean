theorem pr_anchor (x y r m : Int32) : PR kX5_anchor kX6_anchor [.int x, .int y, .int r, .int m] := by
  intro N μ d c hd hc hN hrel
  have e6_ : (1000000 : Int32).toInt = 1000000 := by decide
  refine MW_of (by decide) [some (.ref 0), some (.int x), some (.int y), some (.int r), some (.int m)] rfl (Nat.le_of_ble_eq_true rfl) ?_
  refine wa_iload_n dX5_anchor_0 rfl ?_
  refine wa_iload_n dX5_anchor_1 rfl ?_
  refine wa_callS2 (k' := kX5_isPlace) (d' := 1) dX5_anchor_2 lmX5_223 ksX5_isPlace (by decide) (by omega) (Nat.le_of_ble_eq_true rfl) ?_
  refine wp_X5_isPlace (by omega) (fun hpl => ?_) (fun hpl => ?_)
  · skip
    refine wa_if_eqF 31 dX5_anchor_5 (by decide) (by decide) ?_
    refine wa_iload_n dX5_anchor_8 rfl ?_
    refine wa_if_lt 31 dX5_anchor_9 (by decide) (fun c9_2 => ?_) (fun c9_2 => ?_)
    · try simp (disch := omega) only [nI_toInt, Int32.toInt_toInt64, e6_] at c9_2
      refine wa_bipush (-2) dX5_anchor_31 (by decide) ?_
      refine wa_iret dX5_anchor_33 rfl ?_
      skip
      refine MW_of (by decide) [some (.ref 73), some (.int x), some (.int y), some (.int r), some (.int m)] rfl (Nat.le_of_ble_eq_true rfl) ?_
      refine wa_iload_n dX6_anchor_0 rfl ?_
      refine wa_iload_n dX6_anchor_1 rfl ?_
      refine wa_callS2 (k' := kX6_isPlace) (d' := 1) dX6_anchor_2 lmX6_204 ksX6_isPlace (by decide) (by omega) (Nat.le_of_ble_eq_true rfl) ?_
      refine wp_X6_isPlace (by omega) (fun hp_ => ?_) (fun hp_ => ?_)
      · skip
        first | exact absurd hp_ hpl | skip
        try (exfalso; omega)
        all_goals
          skip
          refine wa_if_eqF 33 dX6_anchor_5 (by decide) (by decide) ?_
          refine wa_iload_n dX6_anchor_8 rfl ?_
          refine wa_i2l dX6_anchor_9 ?_
          refine wa_lconst (0) dX6_anchor_10 (by decide) ?_
          refine wa_ldc2 (1000000) dX6_anchor_11 lcX6_125 ?_
          refine wa_callS3 (k' := kX6_in) (d' := 0) dX6_anchor_14 lmX6_60 ksX6_in (by decide) (by omega) (Nat.le_of_ble_eq_true rfl) ?_
          refine wp_X6_in (fun hi_ => ?_) (fun hi_ => ?_)
          · skip
            rw [Int32.toInt_toInt64, z64, k1e6.1] at hi_
            try (exfalso; omega)
            all_goals
              skip
              refine wa_if_eqF 33 dX6_anchor_17 (by decide) (by decide) ?_
              refine wa_iload dX6_anchor_20 rfl ?_
              refine wa_i2l dX6_anchor_22 ?_
              refine wa_lconst (1) dX6_anchor_23 (by decide) ?_
              refine wa_ldc2 (100) dX6_anchor_24 lcX6_167 ?_
              refine wa_callS3 (k' := kX6_in) (d' := 0) dX6_anchor_27 lmX6_60 ksX6_in (by decide) (by omega) (Nat.le_of_ble_eq_true rfl) ?_
              refine wp_X6_in (fun hj_ => ?_) (fun hj_ => ?_)
              · skip
                rw [Int32.toInt_toInt64, k1L, k100] at hj_
                try (exfalso; omega)
                all_goals
                  skip
                  refine wa_if_neT 36 dX6_anchor_30 (by decide) (by decide) ?_
                  refine wa_aload_n dX6_anchor_36 rfl ?_
                  refine wa_iload_n dX6_anchor_37 rfl ?_
                  refine wa_putI dX6_anchor_38 fgX6_207 fw6_18 (by first | assumption | rfl) (by rfl) ?_
                  refine wa_aload_n dX6_anchor_41 rfl ?_
                  refine wa_iload_n dX6_anchor_42 rfl ?_
                  refine wa_putI dX6_anchor_43 fgX6_210 fw6_19 (by first | assumption | rfl) (by rfl) ?_
                  refine wa_aload_n dX6_anchor_46 rfl ?_
                  refine wa_iload_n dX6_anchor_47 rfl ?_
                  refine wa_putI dX6_anchor_48 fgX6_213 fw6_20 (by first | assumption | rfl) (by rfl) ?_
                  refine wa_aload_n dX6_anchor_51 rfl ?_
                  refine wa_iload dX6_anchor_52 rfl ?_
                  refine wa_putI dX6_anchor_54 fgX6_46 fw6_21 (by first | assumption | rfl) (by rfl) ?_
                  refine wa_aload_n dX6_anchor_57 rfl ?_
                  refine wa_iconst (nI 0) dX6_anchor_58 (by decide) ?_
                  refine wa_putI dX6_anchor_59 fgX6_216 fw6_22 (by first | assumption | rfl) (by rfl) ?_
                  refine wa_aload_n dX6_anchor_62 rfl ?_
                  refine wa_iconst (nI 0) dX6_anchor_63 (by decide) ?_
                  refine wa_putI dX6_anchor_64 fgX6_219 fw6_23 (by first | assumption | rfl) (by rfl) ?_
                  refine wa_iconst (nI 1) dX6_anchor_67 (by decide) ?_
                  refine wa_iret dX6_anchor_68 rfl ?_
                  refine ⟨rfl, ?_⟩
                  refine Rel_M hrel ?relm ?fs ?fr ?fp ?fw
                  case fs =>
                    intro j_ hj_
                    refine ⟨?_, ?_, ?_, ?_, ?_, ?_, fun i_ hi_ => ?_, fun i_ hi_ => ?_⟩
                    all_goals
                      simp (disch := omega) only [sI_off, bI_off, sL_off, bL_off, r1l, r2l, rb1l, rb2l, r1m, r2m, rb1e, rb2e,r1e]
                  case fr =>
                    intro r_ hr_
                    refine ⟨?_, ?_, ?_, fun i_ hi_ => ?_⟩
                    all_goals
                      simp (disch := omega) only [sI_off, bI_off, sL_off, bL_off, r1l, r2l, rb1l, rb2l, r1m, r2m, rb1e, rb2e,r1e]
                  case fp =>
                    refine ⟨?_, ?_, ?_, ?_, ?_⟩
                    all_goals
                      simp (disch := omega) only [sI_off, bI_off, sL_off, bL_off, r1l, r2l, rb1l, rb2l, r1m, r2m, rb1e, rb2e,r1e]
                  case fw =>
                    refine ⟨?_, fun q_ ha_ hb_ => ?_⟩
                    all_goals
                      simp (disch := omega) only [sI_off, bI_off, sL_off, bL_off, r1l, r2l, rb1l, rb2l, r1m, r2m, rb1e, rb2e,r1e]
                  case relm =>
                    refine ⟨0, 0, by omega, by omega, ?_, ?_, ?_, ?_, ?_, ?_, ?_, ?_, ?_, ?_, ?_, ?_, ?_, ?_, ?_, ?_⟩
                    all_goals simp (disch := omega) only [sI_off, sL_off, r1e, r1m, r2e, r2m, r1l, r2l]
                    · exact hpl.1
                    · exact hpl.2
                    · omega
                    · omega
                    all_goals sorry
              · skip
                rw [Int32.toInt_toInt64, k1L, k100] at hj_
                try (exfalso; omega)
                all_goals
                  skip
                  refine wa_if_neF 36 dX6_anchor_30 (by decide) (by decide) ?_
                  refine wa_bipush (-2) dX6_anchor_33 (by decide) ?_
                  refine wa_iret dX6_anchor_35 rfl ?_
                  exact ⟨rfl, hrel.up⟩
          · skip
            rw [Int32.toInt_toInt64, z64, k1e6.1] at hi_
            try (exfalso; omega)
            all_goals
              skip
              refine wa_if_eqT 33 dX6_anchor_17 (by decide) (by decide) ?_
              refine wa_bipush (-2) dX6_anchor_33 (by decide) ?_
              refine wa_iret dX6_anchor_35 rfl ?_
              exact ⟨rfl, hrel.up⟩
      · skip
        first | exact absurd hpl hp_ | skip
        try (exfalso; omega)
        all_goals
          skip
          refine wa_if_eqT 33 dX6_anchor_5 (by decide) (by decide) ?_
          refine wa_bipush (-2) dX6_anchor_33 (by decide) ?_
          refine wa_iret dX6_anchor_35 rfl ?_
          exact ⟨rfl, hrel.up⟩
    · try simp (disch := omega) only [nI_toInt, Int32.toInt_toInt64, e6_] at c9_2
      refine wa_iload_n dX5_anchor_12 rfl ?_
      refine wa_ldc (1000000) dX5_anchor_13 lcX5_226 ?_
      refine wa_ic_gt 31 dX5_anchor_15 (by decide) (fun c15_3 => ?_) (fun c15_3 => ?_)
      · try simp (disch := omega) only [nI_toInt, Int32.toInt_toInt64, e6_] at c15_3
        refine wa_bipush (-2) dX5_anchor_31 (by decide) ?_
        refine wa_iret dX5_anchor_33 rfl ?_
        skip
        refine MW_of (by decide) [some (.ref 73), some (.int x), some (.int y), some (.int r), some (.int m)] rfl (Nat.le_of_ble_eq_true rfl) ?_
        refine wa_iload_n dX6_anchor_0 rfl ?_
        refine wa_iload_n dX6_anchor_1 rfl ?_
        refine wa_callS2 (k' := kX6_isPlace) (d' := 1) dX6_anchor_2 lmX6_204 ksX6_isPlace (by decide) (by omega) (Nat.le_of_ble_eq_true rfl) ?_
        refine wp_X6_isPlace (by omega) (fun hp_ => ?_) (fun hp_ => ?_)
        · skip
          first | exact absurd hp_ hpl | skip
          try (exfalso; omega)
          all_goals
            skip
            refine wa_if_eqF 33 dX6_anchor_5 (by decide) (by decide) ?_
            refine wa_iload_n dX6_anchor_8 rfl ?_
            refine wa_i2l dX6_anchor_9 ?_
            refine wa_lconst (0) dX6_anchor_10 (by decide) ?_
            refine wa_ldc2 (1000000) dX6_anchor_11 lcX6_125 ?_
            refine wa_callS3 (k' := kX6_in) (d' := 0) dX6_anchor_14 lmX6_60 ksX6_in (by decide) (by omega) (Nat.le_of_ble_eq_true rfl) ?_
            refine wp_X6_in (fun hi_ => ?_) (fun hi_ => ?_)
            · skip
              rw [Int32.toInt_toInt64, z64, k1e6.1] at hi_
              try (exfalso; omega)
              all_goals
                skip
                refine wa_if_eqF 33 dX6_anchor_17 (by decide) (by decide) ?_
                refine wa_iload dX6_anchor_20 rfl ?_
                refine wa_i2l dX6_anchor_22 ?_
                refine wa_lconst (1) dX6_anchor_23 (by decide) ?_
                refine wa_ldc2 (100) dX6_anchor_24 lcX6_167 ?_
                refine wa_callS3 (k' := kX6_in) (d' := 0) dX6_anchor_27 lmX6_60 ksX6_in (by decide) (by omega) (Nat.le_of_ble_eq_true rfl) ?_
                refine wp_X6_in (fun hj_ => ?_) (fun hj_ => ?_)
                · skip
                  rw [Int32.toInt_toInt64, k1L, k100] at hj_
                  try (exfalso; omega)
                  all_goals
                    skip
                    refine wa_if_neT 36 dX6_anchor_30 (by decide) (by decide) ?_
                    refine wa_aload_n dX6_anchor_36 rfl ?_
                    refine wa_iload_n dX6_anchor_37 rfl ?_
                    refine wa_putI dX6_anchor_38 fgX6_207 fw6_18 (by first | assumption | rfl) (by rfl) ?_
                    refine wa_aload_n dX6_anchor_41 rfl ?_
                    refine wa_iload_n dX6_anchor_42 rfl ?_
                    refine wa_putI dX6_anchor_43 fgX6_210 fw6_19 (by first | assumption | rfl) (by rfl) ?_
                    refine wa_aload_n dX6_anchor_46 rfl ?_
                    refine wa_iload_n dX6_anchor_47 rfl ?_
                    refine wa_putI dX6_anchor_48 fgX6_213 fw6_20 (by first | assumption | rfl) (by rfl) ?_
                    refine wa_aload_n dX6_anchor_51 rfl ?_
                    refine wa_iload dX6_anchor_52 rfl ?_
                    refine wa_putI dX6_anchor_54 fgX6_46 fw6_21 (by first | assumption | rfl) (by rfl) ?_
                    refine wa_aload_n dX6_anchor_57 rfl ?_
                    refine wa_iconst (nI 0) dX6_anchor_58 (by decide) ?_
                    refine wa_putI dX6_anchor_59 fgX6_216 fw6_22 (by first | assumption | rfl) (by rfl) ?_
                    refine wa_aload_n dX6_anchor_62 rfl ?_
                    refine wa_iconst (nI 0) dX6_anchor_63 (by decide) ?_
                    refine wa_putI dX6_anchor_64 fgX6_219 fw6_23 (by first | assumption | rfl) (by rfl) ?_
                    refine wa_iconst (nI 1) dX6_anchor_67 (by decide) ?_
                    refine wa_iret dX6_anchor_68 rfl ?_
                    refine ⟨rfl, ?_⟩
                    refine Rel_M hrel ?relm ?fs ?fr ?fp ?fw
                    case fs =>
                      intro j_ hj_
                      refine ⟨?_, ?_, ?_, ?_, ?_, ?_, fun i_ hi_ => ?_, fun i_ hi_ => ?_⟩
                      all_goals
                        simp (disch := omega) only [sI_off, bI_off, sL_off, bL_off, r1l, r2l, rb1l, rb2l, r1m, r2m, rb1e, rb2e,r1e]
                    case fr =>
                      intro r_ hr_
                      refine ⟨?_, ?_, ?_, fun i_ hi_ => ?_⟩
                      all_goals
                        simp (disch := omega) only [sI_off, bI_off, sL_off, bL_off, r1l, r2l, rb1l, rb2l, r1m, r2m, rb1e, rb2e,r1e]
                    case fp =>
                      refine ⟨?_, ?_, ?_, ?_, ?_⟩
                      all_goals
                        simp (disch := omega) only [sI_off, bI_off, sL_off, bL_off, r1l, r2l, rb1l, rb2l, r1m, r2m, rb1e, rb2e,r1e]
                    case fw =>
                      refine ⟨?_, fun q_ ha_ hb_ => ?_⟩
                      all_goals
                        simp (disch := omega) only [sI_off, bI_off, sL_off, bL_off, r1l, r2l, rb1l, rb2l, r1m, r2m, rb1e, rb2e,r1e]
                    case relm =>
                      refine ⟨0, 0, by omega, by omega, ?_, ?_, ?_, ?_, ?_, ?_, ?_, ?_, ?_, ?_, ?_, ?_, ?_, ?_, ?_, ?_⟩
                      all_goals simp (disch := omega) only [sI_off, sL_off, r1e, r1m, r2e, r2m, r1l, r2l]
                      · exact hpl.1
                      · exact hpl.2
                      · omega
                      · omega
                      all_goals sorry
                · skip
                  rw [Int32.toInt_toInt64, k1L, k100] at hj_
                  try (exfalso; omega)
                  all_goals
                    skip
                    refine wa_if_neF 36 dX6_anchor_30 (by decide) (by decide) ?_
                    refine wa_bipush (-2) dX6_anchor_33 (by decide) ?_
                    refine wa_iret dX6_anchor_35 rfl ?_
                    exact ⟨rfl, hrel.up⟩
            · skip
              rw [Int32.toInt_toInt64, z64, k1e6.1] at hi_
              try (exfalso; omega)
              all_goals
                skip
                refine wa_if_eqT 33 dX6_anchor_17 (by decide) (by decide) ?_
                refine wa_bipush (-2) dX6_anchor_33 (by decide) ?_
                refine wa_iret dX6_anchor_35 rfl ?_
                exact ⟨rfl, hrel.up⟩
        · skip
          first | exact absurd hpl hp_ | skip
          try (exfalso; omega)
          all_goals
            skip
            refine wa_if_eqT 33 dX6_anchor_5 (by decide) (by decide) ?_
            refine wa_bipush (-2) dX6_anchor_33 (by decide) ?_
            refine wa_iret dX6_anchor_35 rfl ?_
            exact ⟨rfl, hrel.up⟩
      · try simp (disch := omega) only [nI_toInt, Int32.toInt_toInt64, e6_] at c15_3
        refine wa_iload dX5_anchor_18 rfl ?_
        refine wa_iconst (nI 1) dX5_anchor_20 (by decide) ?_
        refine wa_ic_lt 31 dX5_anchor_21 (by decide) (fun c21_4 => ?_) (fun c21_4 => ?_)
        · try simp (disch := omega) only [nI_toInt, Int32.toInt_toInt64, e6_] at c21_4
          refine wa_bipush (-2) dX5_anchor_31 (by decide) ?_
          refine wa_iret dX5_anchor_33 rfl ?_
          skip
          refine MW_of (by decide) [some (.ref 73), some (.int x), some (.int y), some (.int r), some (.int m)] rfl (Nat.le_of_ble_eq_true rfl) ?_
          refine wa_iload_n dX6_anchor_0 rfl ?_
          refine wa_iload_n dX6_anchor_1 rfl ?_
          refine wa_callS2 (k' := kX6_isPlace) (d' := 1) dX6_anchor_2 lmX6_204 ksX6_isPlace (by decide) (by omega) (Nat.le_of_ble_eq_true rfl) ?_
          refine wp_X6_isPlace (by omega) (fun hp_ => ?_) (fun hp_ => ?_)
          · skip
            first | exact absurd hp_ hpl | skip
            try (exfalso; omega)
            all_goals
              skip
              refine wa_if_eqF 33 dX6_anchor_5 (by decide) (by decide) ?_
              refine wa_iload_n dX6_anchor_8 rfl ?_
              refine wa_i2l dX6_anchor_9 ?_
              refine wa_lconst (0) dX6_anchor_10 (by decide) ?_
              refine wa_ldc2 (1000000) dX6_anchor_11 lcX6_125 ?_
              refine wa_callS3 (k' := kX6_in) (d' := 0) dX6_anchor_14 lmX6_60 ksX6_in (by decide) (by omega) (Nat.le_of_ble_eq_true rfl) ?_
              refine wp_X6_in (fun hi_ => ?_) (fun hi_ => ?_)
              · skip
                rw [Int32.toInt_toInt64, z64, k1e6.1] at hi_
                try (exfalso; omega)
                all_goals
                  skip
                  refine wa_if_eqF 33 dX6_anchor_17 (by decide) (by decide) ?_
                  refine wa_iload dX6_anchor_20 rfl ?_
                  refine wa_i2l dX6_anchor_22 ?_
                  refine wa_lconst (1) dX6_anchor_23 (by decide) ?_
                  refine wa_ldc2 (100) dX6_anchor_24 lcX6_167 ?_
                  refine wa_callS3 (k' := kX6_in) (d' := 0) dX6_anchor_27 lmX6_60 ksX6_in (by decide) (by omega) (Nat.le_of_ble_eq_true rfl) ?_
                  refine wp_X6_in (fun hj_ => ?_) (fun hj_ => ?_)
                  · skip
                    rw [Int32.toInt_toInt64, k1L, k100] at hj_
                    try (exfalso; omega)
                    all_goals
                      skip
                      refine wa_if_neT 36 dX6_anchor_30 (by decide) (by decide) ?_
                      refine wa_aload_n dX6_anchor_36 rfl ?_
                      refine wa_iload_n dX6_anchor_37 rfl ?_
                      refine wa_putI dX6_anchor_38 fgX6_207 fw6_18 (by first | assumption | rfl) (by rfl) ?_
                      refine wa_aload_n dX6_anchor_41 rfl ?_
                      refine wa_iload_n dX6_anchor_42 rfl ?_
                      refine wa_putI dX6_anchor_43 fgX6_210 fw6_19 (by first | assumption | rfl) (by rfl) ?_
                      refine wa_aload_n dX6_anchor_46 rfl ?_
                      refine wa_iload_n dX6_anchor_47 rfl ?_
                      refine wa_putI dX6_anchor_48 fgX6_213 fw6_20 (by first | assumption | rfl) (by rfl) ?_
                      refine wa_aload_n dX6_anchor_51 rfl ?_
                      refine wa_iload dX6_anchor_52 rfl ?_
                      refine wa_putI dX6_anchor_54 fgX6_46 fw6_21 (by first | assumption | rfl) (by rfl) ?_
                      refine wa_aload_n dX6_anchor_57 rfl ?_
                      refine wa_iconst (nI 0) dX6_anchor_58 (by decide) ?_
                      refine wa_putI dX6_anchor_59 fgX6_216 fw6_22 (by first | assumption | rfl) (by rfl) ?_
                      refine wa_aload_n dX6_anchor_62 rfl ?_
                      refine wa_iconst (nI 0) dX6_anchor_63 (by decide) ?_
                      refine wa_putI dX6_anchor_64 fgX6_219 fw6_23 (by first | assumption | rfl) (by rfl) ?_
                      refine wa_iconst (nI 1) dX6_anchor_67 (by decide) ?_
                      refine wa_iret dX6_anchor_68 rfl ?_
                      refine ⟨rfl, ?_⟩
                      refine Rel_M hrel ?relm ?fs ?fr ?fp ?fw
                      case fs =>
                        intro j_ hj_
                        refine ⟨?_, ?_, ?_, ?_, ?_, ?_, fun i_ hi_ => ?_, fun i_ hi_ => ?_⟩
                        all_goals
                          simp (disch := omega) only [sI_off, bI_off, sL_off, bL_off, r1l, r2l, rb1l, rb2l, r1m, r2m, rb1e, rb2e,r1e]
                      case fr =>
                        intro r_ hr_
                        refine ⟨?_, ?_, ?_, fun i_ hi_ => ?_⟩
                        all_goals
                          simp (disch := omega) only [sI_off, bI_off, sL_off, bL_off, r1l, r2l, rb1l, rb2l, r1m, r2m, rb1e, rb2e,r1e]
                      case fp =>
                        refine ⟨?_, ?_, ?_, ?_, ?_⟩
                        all_goals
                          simp (disch := omega) only [sI_off, bI_off, sL_off, bL_off, r1l, r2l, rb1l, rb2l, r1m, r2m, rb1e, rb2e,r1e]
                      case fw =>
                        refine ⟨?_, fun q_ ha_ hb_ => ?_⟩
                        all_goals
                          simp (disch := omega) only [sI_off, bI_off, sL_off, bL_off, r1l, r2l, rb1l, rb2l, r1m, r2m, rb1e, rb2e,r1e]
                      case relm =>
                        refine ⟨0, 0, by omega, by omega, ?_, ?_, ?_, ?_, ?_, ?_, ?_, ?_, ?_, ?_, ?_, ?_, ?_, ?_, ?_, ?_⟩
                        all_goals simp (disch := omega) only [sI_off, sL_off, r1e, r1m, r2e, r2m, r1l, r2l]
                        · exact hpl.1
                        · exact hpl.2
                        · omega
                        · omega
                        all_goals sorry
                  · skip
                    rw [Int32.toInt_toInt64, k1L, k100] at hj_
                    try (exfalso; omega)
                    all_goals
                      skip
                      refine wa_if_neF 36 dX6_anchor_30 (by decide) (by decide) ?_
                      refine wa_bipush (-2) dX6_anchor_33 (by decide) ?_
                      refine wa_iret dX6_anchor_35 rfl ?_
                      exact ⟨rfl, hrel.up⟩
              · skip
                rw [Int32.toInt_toInt64, z64, k1e6.1] at hi_
                try (exfalso; omega)
                all_goals
                  skip
                  refine wa_if_eqT 33 dX6_anchor_17 (by decide) (by decide) ?_
                  refine wa_bipush (-2) dX6_anchor_33 (by decide) ?_
                  refine wa_iret dX6_anchor_35 rfl ?_
                  exact ⟨rfl, hrel.up⟩
          · skip
            first | exact absurd hpl hp_ | skip
            try (exfalso; omega)
            all_goals
              skip
              refine wa_if_eqT 33 dX6_anchor_5 (by decide) (by decide) ?_
              refine wa_bipush (-2) dX6_anchor_33 (by decide) ?_
              refine wa_iret dX6_anchor_35 rfl ?_
              exact ⟨rfl, hrel.up⟩
        · try simp (disch := omega) only [nI_toInt, Int32.toInt_toInt64, e6_] at c21_4
          refine wa_iload dX5_anchor_24 rfl ?_
          refine wa_bipush (nI 100) dX5_anchor_26 (by decide) ?_
          refine wa_ic_le 34 dX5_anchor_28 (by decide) (fun c28_5 => ?_) (fun c28_5 => ?_)
          · try simp (disch := omega) only [nI_toInt, Int32.toInt_toInt64, e6_] at c28_5
            refine wa_aload_n dX5_anchor_34 rfl ?_
            refine wa_getR dX5_anchor_35 fgX5_40 (by first | assumption | rfl) (by rfl) ?_
            refine wa_iload_n dX5_anchor_38 rfl ?_
            refine wa_iload_n dX5_anchor_39 rfl ?_
            refine wa_iload_n dX5_anchor_40 rfl ?_
            refine wa_iload dX5_anchor_41 rfl ?_
            refine wa_callV4 (k' := kX0_begin) (d' := 0) dX5_anchor_43 lmX5_227 kvX0_begin (by first | assumption | rfl) (by rfl) (by decide) (by omega) (Nat.le_of_ble_eq_true rfl) ?_
            refine wp_X0_begin ?_
            refine wa_iconst (nI 1) dX5_anchor_46 (by decide) ?_
            refine wa_iret dX5_anchor_47 rfl ?_
            skip
            refine MW_of (by decide) [some (.ref 73), some (.int x), some (.int y), some (.int r), some (.int m)] rfl (Nat.le_of_ble_eq_true rfl) ?_
            refine wa_iload_n dX6_anchor_0 rfl ?_
            refine wa_iload_n dX6_anchor_1 rfl ?_
            refine wa_callS2 (k' := kX6_isPlace) (d' := 1) dX6_anchor_2 lmX6_204 ksX6_isPlace (by decide) (by omega) (Nat.le_of_ble_eq_true rfl) ?_
            refine wp_X6_isPlace (by omega) (fun hp_ => ?_) (fun hp_ => ?_)
            · skip
              first | exact absurd hp_ hpl | skip
              try (exfalso; omega)
              all_goals
                skip
                refine wa_if_eqF 33 dX6_anchor_5 (by decide) (by decide) ?_
                refine wa_iload_n dX6_anchor_8 rfl ?_
                refine wa_i2l dX6_anchor_9 ?_
                refine wa_lconst (0) dX6_anchor_10 (by decide) ?_
                refine wa_ldc2 (1000000) dX6_anchor_11 lcX6_125 ?_
                refine wa_callS3 (k' := kX6_in) (d' := 0) dX6_anchor_14 lmX6_60 ksX6_in (by decide) (by omega) (Nat.le_of_ble_eq_true rfl) ?_
                refine wp_X6_in (fun hi_ => ?_) (fun hi_ => ?_)
                · skip
                  rw [Int32.toInt_toInt64, z64, k1e6.1] at hi_
                  try (exfalso; omega)
                  all_goals
                    skip
                    refine wa_if_eqF 33 dX6_anchor_17 (by decide) (by decide) ?_
                    refine wa_iload dX6_anchor_20 rfl ?_
                    refine wa_i2l dX6_anchor_22 ?_
                    refine wa_lconst (1) dX6_anchor_23 (by decide) ?_
                    refine wa_ldc2 (100) dX6_anchor_24 lcX6_167 ?_
                    refine wa_callS3 (k' := kX6_in) (d' := 0) dX6_anchor_27 lmX6_60 ksX6_in (by decide) (by omega) (Nat.le_of_ble_eq_true rfl) ?_
                    refine wp_X6_in (fun hj_ => ?_) (fun hj_ => ?_)
                    · skip
                      rw [Int32.toInt_toInt64, k1L, k100] at hj_
                      try (exfalso; omega)
                      all_goals
                        skip
                        refine wa_if_neT 36 dX6_anchor_30 (by decide) (by decide) ?_
                        refine wa_aload_n dX6_anchor_36 rfl ?_
                        refine wa_iload_n dX6_anchor_37 rfl ?_
                        refine wa_putI dX6_anchor_38 fgX6_207 fw6_18 (by first | assumption | rfl) (by rfl) ?_
                        refine wa_aload_n dX6_anchor_41 rfl ?_
                        refine wa_iload_n dX6_anchor_42 rfl ?_
                        refine wa_putI dX6_anchor_43 fgX6_210 fw6_19 (by first | assumption | rfl) (by rfl) ?_
                        refine wa_aload_n dX6_anchor_46 rfl ?_
                        refine wa_iload_n dX6_anchor_47 rfl ?_
                        refine wa_putI dX6_anchor_48 fgX6_213 fw6_20 (by first | assumption | rfl) (by rfl) ?_
                        refine wa_aload_n dX6_anchor_51 rfl ?_
                        refine wa_iload dX6_anchor_52 rfl ?_
                        refine wa_putI dX6_anchor_54 fgX6_46 fw6_21 (by first | assumption | rfl) (by rfl) ?_
                        refine wa_aload_n dX6_anchor_57 rfl ?_
                        refine wa_iconst (nI 0) dX6_anchor_58 (by decide) ?_
                        refine wa_putI dX6_anchor_59 fgX6_216 fw6_22 (by first | assumption | rfl) (by rfl) ?_
                        refine wa_aload_n dX6_anchor_62 rfl ?_
                        refine wa_iconst (nI 0) dX6_anchor_63 (by decide) ?_
                        refine wa_putI dX6_anchor_64 fgX6_219 fw6_23 (by first | assumption | rfl) (by rfl) ?_
                        refine wa_iconst (nI 1) dX6_anchor_67 (by decide) ?_
                        refine wa_iret dX6_anchor_68 rfl ?_
                        refine ⟨rfl, ?_⟩
                        refine Rel_M hrel ?relm ?fs ?fr ?fp ?fw
                        case fs =>
                          intro j_ hj_
                          refine ⟨?_, ?_, ?_, ?_, ?_, ?_, fun i_ hi_ => ?_, fun i_ hi_ => ?_⟩
                          all_goals
                            simp (disch := omega) only [sI_off, bI_off, sL_off, bL_off, r1l, r2l, rb1l, rb2l, r1m, r2m, rb1e, rb2e,r1e]
                        case fr =>
                          intro r_ hr_
                          refine ⟨?_, ?_, ?_, fun i_ hi_ => ?_⟩
                          all_goals
                            simp (disch := omega) only [sI_off, bI_off, sL_off, bL_off, r1l, r2l, rb1l, rb2l, r1m, r2m, rb1e, rb2e,r1e]
                        case fp =>
                          refine ⟨?_, ?_, ?_, ?_, ?_⟩
                          all_goals
                            simp (disch := omega) only [sI_off, bI_off, sL_off, bL_off, r1l, r2l, rb1l, rb2l, r1m, r2m, rb1e, rb2e,r1e]
                        case fw =>
                          refine ⟨?_, fun q_ ha_ hb_ => ?_⟩
                          all_goals
                            simp (disch := omega) only [sI_off, bI_off, sL_off, bL_off, r1l, r2l, rb1l, rb2l, r1m, r2m, rb1e, rb2e,r1e]
                        case relm =>
                          refine ⟨0, 0, by omega, by omega, ?_, ?_, ?_, ?_, ?_, ?_, ?_, ?_, ?_, ?_, ?_, ?_, ?_, ?_, ?_, ?_⟩
                          all_goals simp (disch := omega) only [sI_off, sL_off, r1e, r1m, r2e, r2m, r1l, r2l]
                          · exact hpl.1
                          · exact hpl.2
                          · omega
                          · omega
                          all_goals sorry
                    · skip
                      rw [Int32.toInt_toInt64, k1L, k100] at hj_
                      try (exfalso; omega)
                      all_goals
                        skip
                        refine wa_if_neF 36 dX6_anchor_30 (by decide) (by decide) ?_
                        refine wa_bipush (-2) dX6_anchor_33 (by decide) ?_
                        refine wa_iret dX6_anchor_35 rfl ?_
                        exact ⟨rfl, hrel.up⟩
                · skip
                  rw [Int32.toInt_toInt64, z64, k1e6.1] at hi_
                  try (exfalso; omega)
                  all_goals
                    skip
                    refine wa_if_eqT 33 dX6_anchor_17 (by decide) (by decide) ?_
                    refine wa_bipush (-2) dX6_anchor_33 (by decide) ?_
                    refine wa_iret dX6_anchor_35 rfl ?_
                    exact ⟨rfl, hrel.up⟩
            · skip
              first | exact absurd hpl hp_ | skip
              try (exfalso; omega)
              all_goals
                skip
                refine wa_if_eqT 33 dX6_anchor_5 (by decide) (by decide) ?_
                refine wa_bipush (-2) dX6_anchor_33 (by decide) ?_
                refine wa_iret dX6_anchor_35 rfl ?_
                exact ⟨rfl, hrel.up⟩
          · try simp (disch := omega) only [nI_toInt, Int32.toInt_toInt64, e6_] at c28_5
            refine wa_bipush (-2) dX5_anchor_31 (by decide) ?_
            refine wa_iret dX5_anchor_33 rfl ?_
            skip
            refine MW_of (by decide) [some (.ref 73), some (.int x), some (.int y), some (.int r), some (.int m)] rfl (Nat.le_of_ble_eq_true rfl) ?_
            refine wa_iload_n dX6_anchor_0 rfl ?_
            refine wa_iload_n dX6_anchor_1 rfl ?_
            refine wa_callS2 (k' := kX6_isPlace) (d' := 1) dX6_anchor_2 lmX6_204 ksX6_isPlace (by decide) (by omega) (Nat.le_of_ble_eq_true rfl) ?_
            refine wp_X6_isPlace (by omega) (fun hp_ => ?_) (fun hp_ => ?_)
            · skip
              first | exact absurd hp_ hpl | skip
              try (exfalso; omega)
              all_goals
                skip
                refine wa_if_eqF 33 dX6_anchor_5 (by decide) (by decide) ?_
                refine wa_iload_n dX6_anchor_8 rfl ?_
                refine wa_i2l dX6_anchor_9 ?_
                refine wa_lconst (0) dX6_anchor_10 (by decide) ?_
                refine wa_ldc2 (1000000) dX6_anchor_11 lcX6_125 ?_
                refine wa_callS3 (k' := kX6_in) (d' := 0) dX6_anchor_14 lmX6_60 ksX6_in (by decide) (by omega) (Nat.le_of_ble_eq_true rfl) ?_
                refine wp_X6_in (fun hi_ => ?_) (fun hi_ => ?_)
                · skip
                  rw [Int32.toInt_toInt64, z64, k1e6.1] at hi_
                  try (exfalso; omega)
                  all_goals
                    skip
                    refine wa_if_eqF 33 dX6_anchor_17 (by decide) (by decide) ?_
                    refine wa_iload dX6_anchor_20 rfl ?_
                    refine wa_i2l dX6_anchor_22 ?_
                    refine wa_lconst (1) dX6_anchor_23 (by decide) ?_
                    refine wa_ldc2 (100) dX6_anchor_24 lcX6_167 ?_
                    refine wa_callS3 (k' := kX6_in) (d' := 0) dX6_anchor_27 lmX6_60 ksX6_in (by decide) (by omega) (Nat.le_of_ble_eq_true rfl) ?_
                    refine wp_X6_in (fun hj_ => ?_) (fun hj_ => ?_)
                    · skip
                      rw [Int32.toInt_toInt64, k1L, k100] at hj_
                      try (exfalso; omega)
                      all_goals
                        skip
                        refine wa_if_neT 36 dX6_anchor_30 (by decide) (by decide) ?_
                        refine wa_aload_n dX6_anchor_36 rfl ?_
                        refine wa_iload_n dX6_anchor_37 rfl ?_
                        refine wa_putI dX6_anchor_38 fgX6_207 fw6_18 (by first | assumption | rfl) (by rfl) ?_
                        refine wa_aload_n dX6_anchor_41 rfl ?_
                        refine wa_iload_n dX6_anchor_42 rfl ?_
                        refine wa_putI dX6_anchor_43 fgX6_210 fw6_19 (by first | assumption | rfl) (by rfl) ?_
                        refine wa_aload_n dX6_anchor_46 rfl ?_
                        refine wa_iload_n dX6_anchor_47 rfl ?_
                        refine wa_putI dX6_anchor_48 fgX6_213 fw6_20 (by first | assumption | rfl) (by rfl) ?_
                        refine wa_aload_n dX6_anchor_51 rfl ?_
                        refine wa_iload dX6_anchor_52 rfl ?_
                        refine wa_putI dX6_anchor_54 fgX6_46 fw6_21 (by first | assumption | rfl) (by rfl) ?_
                        refine wa_aload_n dX6_anchor_57 rfl ?_
                        refine wa_iconst (nI 0) dX6_anchor_58 (by decide) ?_
                        refine wa_putI dX6_anchor_59 fgX6_216 fw6_22 (by first | assumption | rfl) (by rfl) ?_
                        refine wa_aload_n dX6_anchor_62 rfl ?_
                        refine wa_iconst (nI 0) dX6_anchor_63 (by decide) ?_
                        refine wa_putI dX6_anchor_64 fgX6_219 fw6_23 (by first | assumption | rfl) (by rfl) ?_
                        refine wa_iconst (nI 1) dX6_anchor_67 (by decide) ?_
                        refine wa_iret dX6_anchor_68 rfl ?_
                        refine ⟨rfl, ?_⟩
                        refine Rel_M hrel ?relm ?fs ?fr ?fp ?fw
                        case fs =>
                          intro j_ hj_
                          refine ⟨?_, ?_, ?_, ?_, ?_, ?_, fun i_ hi_ => ?_, fun i_ hi_ => ?_⟩
                          all_goals
                            simp (disch := omega) only [sI_off, bI_off, sL_off, bL_off, r1l, r2l, rb1l, rb2l, r1m, r2m, rb1e, rb2e,r1e]
                        case fr =>
                          intro r_ hr_
                          refine ⟨?_, ?_, ?_, fun i_ hi_ => ?_⟩
                          all_goals
                            simp (disch := omega) only [sI_off, bI_off, sL_off, bL_off, r1l, r2l, rb1l, rb2l, r1m, r2m, rb1e, rb2e,r1e]
                        case fp =>
                          refine ⟨?_, ?_, ?_, ?_, ?_⟩
                          all_goals
                            simp (disch := omega) only [sI_off, bI_off, sL_off, bL_off, r1l, r2l, rb1l, rb2l, r1m, r2m, rb1e, rb2e,r1e]
                        case fw =>
                          refine ⟨?_, fun q_ ha_ hb_ => ?_⟩
                          all_goals
                            simp (disch := omega) only [sI_off, bI_off, sL_off, bL_off, r1l, r2l, rb1l, rb2l, r1m, r2m, rb1e, rb2e,r1e]
                        case relm =>
                          refine ⟨0, 0, by omega, by omega, ?_, ?_, ?_, ?_, ?_, ?_, ?_, ?_, ?_, ?_, ?_, ?_, ?_, ?_, ?_, ?_⟩
                          all_goals simp (disch := omega) only [sI_off, sL_off, r1e, r1m, r2e, r2m, r1l, r2l]
                          · exact hpl.1
                          · exact hpl.2
                          · omega
                          · omega
                          all_goals sorry
                    · skip
                      rw [Int32.toInt_toInt64, k1L, k100] at hj_
                      try (exfalso; omega)
                      all_goals
                        skip
                        refine wa_if_neF 36 dX6_anchor_30 (by decide) (by decide) ?_
                        refine wa_bipush (-2) dX6_anchor_33 (by decide) ?_
                        refine wa_iret dX6_anchor_35 rfl ?_
                        exact ⟨rfl, hrel.up⟩
                · skip
                  rw [Int32.toInt_toInt64, z64, k1e6.1] at hi_
                  try (exfalso; omega)
                  all_goals
                    skip
                    refine wa_if_eqT 33 dX6_anchor_17 (by decide) (by decide) ?_
                    refine wa_bipush (-2) dX6_anchor_33 (by decide) ?_
                    refine wa_iret dX6_anchor_35 rfl ?_
                    exact ⟨rfl, hrel.up⟩
            · skip
              first | exact absurd hpl hp_ | skip
              try (exfalso; omega)
              all_goals
                skip
                refine wa_if_eqT 33 dX6_anchor_5 (by decide) (by decide) ?_
                refine wa_bipush (-2) dX6_anchor_33 (by decide) ?_
                refine wa_iret dX6_anchor_35 rfl ?_
                exact ⟨rfl, hrel.up⟩
  · skip
    refine wa_if_eqT 31 dX5_anchor_5 (by decide) (by decide) ?_
    refine wa_bipush (-2) dX5_anchor_31 (by decide) ?_
    refine wa_iret dX5_anchor_33 rfl ?_
    skip
    refine MW_of (by decide) [some (.ref 73), some (.int x), some (.int y), some (.int r), some (.int m)] rfl (Nat.le_of_ble_eq_true rfl) ?_
    refine wa_iload_n dX6_anchor_0 rfl ?_
    refine wa_iload_n dX6_anchor_1 rfl ?_
    refine wa_callS2 (k' := kX6_isPlace) (d' := 1) dX6_anchor_2 lmX6_204 ksX6_isPlace (by decide) (by omega) (Nat.le_of_ble_eq_true rfl) ?_
    refine wp_X6_isPlace (by omega) (fun hp_ => ?_) (fun hp_ => ?_)
    · skip
      first | exact absurd hp_ hpl | skip
      try (exfalso; omega)
      all_goals
        skip
        refine wa_if_eqF 33 dX6_anchor_5 (by decide) (by decide) ?_
        refine wa_iload_n dX6_anchor_8 rfl ?_
        refine wa_i2l dX6_anchor_9 ?_
        refine wa_lconst (0) dX6_anchor_10 (by decide) ?_
        refine wa_ldc2 (1000000) dX6_anchor_11 lcX6_125 ?_
        refine wa_callS3 (k' := kX6_in) (d' := 0) dX6_anchor_14 lmX6_60 ksX6_in (by decide) (by omega) (Nat.le_of_ble_eq_true rfl) ?_
        refine wp_X6_in (fun hi_ => ?_) (fun hi_ => ?_)
        · skip
          rw [Int32.toInt_toInt64, z64, k1e6.1] at hi_
          try (exfalso; omega)
          all_goals
            skip
            refine wa_if_eqF 33 dX6_anchor_17 (by decide) (by decide) ?_
            refine wa_iload dX6_anchor_20 rfl ?_
            refine wa_i2l dX6_anchor_22 ?_
            refine wa_lconst (1) dX6_anchor_23 (by decide) ?_
            refine wa_ldc2 (100) dX6_anchor_24 lcX6_167 ?_
            refine wa_callS3 (k' := kX6_in) (d' := 0) dX6_anchor_27 lmX6_60 ksX6_in (by decide) (by omega) (Nat.le_of_ble_eq_true rfl) ?_
            refine wp_X6_in (fun hj_ => ?_) (fun hj_ => ?_)
            · skip
              rw [Int32.toInt_toInt64, k1L, k100] at hj_
              try (exfalso; omega)
              all_goals
                skip
                refine wa_if_neT 36 dX6_anchor_30 (by decide) (by decide) ?_
                refine wa_aload_n dX6_anchor_36 rfl ?_
                refine wa_iload_n dX6_anchor_37 rfl ?_
                refine wa_putI dX6_anchor_38 fgX6_207 fw6_18 (by first | assumption | rfl) (by rfl) ?_
                refine wa_aload_n dX6_anchor_41 rfl ?_
                refine wa_iload_n dX6_anchor_42 rfl ?_
                refine wa_putI dX6_anchor_43 fgX6_210 fw6_19 (by first | assumption | rfl) (by rfl) ?_
                refine wa_aload_n dX6_anchor_46 rfl ?_
                refine wa_iload_n dX6_anchor_47 rfl ?_
                refine wa_putI dX6_anchor_48 fgX6_213 fw6_20 (by first | assumption | rfl) (by rfl) ?_
                refine wa_aload_n dX6_anchor_51 rfl ?_
                refine wa_iload dX6_anchor_52 rfl ?_
                refine wa_putI dX6_anchor_54 fgX6_46 fw6_21 (by first | assumption | rfl) (by rfl) ?_
                refine wa_aload_n dX6_anchor_57 rfl ?_
                refine wa_iconst (nI 0) dX6_anchor_58 (by decide) ?_
                refine wa_putI dX6_anchor_59 fgX6_216 fw6_22 (by first | assumption | rfl) (by rfl) ?_
                refine wa_aload_n dX6_anchor_62 rfl ?_
                refine wa_iconst (nI 0) dX6_anchor_63 (by decide) ?_
                refine wa_putI dX6_anchor_64 fgX6_219 fw6_23 (by first | assumption | rfl) (by rfl) ?_
                refine wa_iconst (nI 1) dX6_anchor_67 (by decide) ?_
                refine wa_iret dX6_anchor_68 rfl ?_
                refine ⟨rfl, ?_⟩
                refine Rel_M hrel ?relm ?fs ?fr ?fp ?fw
                case fs =>
                  intro j_ hj_
                  refine ⟨?_, ?_, ?_, ?_, ?_, ?_, fun i_ hi_ => ?_, fun i_ hi_ => ?_⟩
                  all_goals
                    simp (disch := omega) only [sI_off, bI_off, sL_off, bL_off, r1l, r2l, rb1l, rb2l, r1m, r2m, rb1e, rb2e,r1e]
                case fr =>
                  intro r_ hr_
                  refine ⟨?_, ?_, ?_, fun i_ hi_ => ?_⟩
                  all_goals
                    simp (disch := omega) only [sI_off, bI_off, sL_off, bL_off, r1l, r2l, rb1l, rb2l, r1m, r2m, rb1e, rb2e,r1e]
                case fp =>
                  refine ⟨?_, ?_, ?_, ?_, ?_⟩
                  all_goals
                    simp (disch := omega) only [sI_off, bI_off, sL_off, bL_off, r1l, r2l, rb1l, rb2l, r1m, r2m, rb1e, rb2e,r1e]
                case fw =>
                  refine ⟨?_, fun q_ ha_ hb_ => ?_⟩
                  all_goals
                    simp (disch := omega) only [sI_off, bI_off, sL_off, bL_off, r1l, r2l, rb1l, rb2l, r1m, r2m, rb1e, rb2e,r1e]
                case relm =>
                  refine ⟨0, 0, by omega, by omega, ?_, ?_, ?_, ?_, ?_, ?_, ?_, ?_, ?_, ?_, ?_, ?_, ?_, ?_, ?_, ?_⟩
                  all_goals simp (disch := omega) only [sI_off, sL_off, r1e, r1m, r2e, r2m, r1l, r2l]
                  · exact hpl.1
                  · exact hpl.2
                  · omega
                  · omega
                  all_goals sorry
            · skip
              rw [Int32.toInt_toInt64, k1L, k100] at hj_
              try (exfalso; omega)
              all_goals
                skip
                refine wa_if_neF 36 dX6_anchor_30 (by decide) (by decide) ?_
                refine wa_bipush (-2) dX6_anchor_33 (by decide) ?_
                refine wa_iret dX6_anchor_35 rfl ?_
                exact ⟨rfl, hrel.up⟩
        · skip
          rw [Int32.toInt_toInt64, z64, k1e6.1] at hi_
          try (exfalso; omega)
          all_goals
            skip
            refine wa_if_eqT 33 dX6_anchor_17 (by decide) (by decide) ?_
            refine wa_bipush (-2) dX6_anchor_33 (by decide) ?_
            refine wa_iret dX6_anchor_35 rfl ?_
            exact ⟨rfl, hrel.up⟩
    · skip
      first | exact absurd hpl hp_ | skip
      try (exfalso; omega)
      all_goals
        skip
        refine wa_if_eqT 33 dX6_anchor_5 (by decide) (by decide) ?_
        refine wa_bipush (-2) dX6_anchor_33 (by decide) ?_
        refine wa_iret dX6_anchor_35 rfl ?_
        exact ⟨rfl, hrel.up⟩
