theorem pr_anchor (x y r m : Int32) : PR kX5_anchor kX6_anchor [.int x, .int y, .int r, .int m] := by
  intro N μ d c hd hc hN hrel
  obtain ⟨p0_, o0_, _, _, _, _, _, _, _, _, _, _, _, _, _, _, x6_, x7_, x8_, x9_⟩ := hrel.2.2.2.2
  have e6_ : (1000000 : Int32).toInt = 1000000 := by decide
  refine MW_of (by decide) [some (.ref 0), some (.int x), some (.int y), some (.int r), some (.int m)] rfl (Nat.le_of_ble_eq_true rfl) ?_
  refine wa_iload_n dX5_anchor_0 rfl ?_
  refine wa_iload_n dX5_anchor_1 rfl ?_
  refine wa_callS2 (k' := kX5_isPlace) (d' := 1) dX5_anchor_2 lmX5_223 ksX5_isPlace (by decide) (by omega) (Nat.le_of_ble_eq_true rfl) ?_
  refine wp_X5_isPlace (by omega) (fun hpl => ?_) (fun hpl => ?_)
  · skip
    refine wa_if_eqF 31 dX5_anchor_5 (by decide) (by decide) ?_
    refine wa_iload_n dX5_anchor_8 rfl ?_
    refine wa_if_lt 31 dX5_anchor_9 (by decide) (fun c9_2 => ?_) (fun c9_2 => ?_)
    · try simp (disch := omega) only [nI_toInt, Int32.toInt_toInt64, e6_] at c9_2
      refine wa_bipush (-2) dX5_anchor_31 (by decide) ?_
      refine wa_iret dX5_anchor_33 rfl ?_
      skip
      refine MW_of (by decide) [some (.ref 73), some (.int x), some (.int y), some (.int r), some (.int m)] rfl (Nat.le_of_ble_eq_true rfl) ?_
      refine wa_iload_n dX6_anchor_0 rfl ?_
      refine wa_iload_n dX6_anchor_1 rfl ?_
      refine wa_callS2 (k' := kX6_isPlace) (d' := 1) dX6_anchor_2 lmX6_204 ksX6_isPlace (by decide) (by omega) (Nat.le_of_ble_eq_true rfl) ?_
      refine wp_X6_isPlace (by omega) (fun hp_ => ?_) (fun hp_ => ?_)
      · skip
        first | exact absurd hp_ hpl | skip
        try (exfalso; omega)
        all_goals
          skip
          refine wa_if_eqF 33 dX6_anchor_5 (by decide) (by decide) ?_
          refine wa_iload_n dX6_anchor_8 rfl ?_
          refine wa_i2l dX6_anchor_9 ?_
          refine wa_lconst (0) dX6_anchor_10 (by decide) ?_
          refine wa_ldc2 (1000000) dX6_anchor_11 lcX6_125 ?_
          refine wa_callS3 (k' := kX6_in) (d' := 0) dX6_anchor_14 lmX6_60 ksX6_in (by decide) (by omega) (Nat.le_of_ble_eq_true rfl) ?_
          refine wp_X6_in (fun hi_ => ?_) (fun hi_ => ?_)
          · skip
            rw [Int32.toInt_toInt64, z64, k1e6.1] at hi_
            try (exfalso; omega)
            all_goals
              skip
              refine wa_if_eqF 33 dX6_anchor_17 (by decide) (by decide) ?_
              refine wa_iload dX6_anchor_20 rfl ?_
              refine wa_i2l dX6_anchor_22 ?_
              refine wa_lconst (1) dX6_anchor_23 (by decide) ?_
              refine wa_ldc2 (100) dX6_anchor_24 lcX6_167 ?_
              refine wa_callS3 (k' := kX6_in) (d' := 0) dX6_anchor_27 lmX6_60 ksX6_in (by decide) (by omega) (Nat.le_of_ble_eq_true rfl) ?_
              refine wp_X6_in (fun hj_ => ?_) (fun hj_ => ?_)
              · skip
                rw [Int32.toInt_toInt64, k1L, k100] at hj_
                try (exfalso; omega)
                all_goals
                  skip
                  refine wa_if_neT 36 dX6_anchor_30 (by decide) (by decide) ?_
                  refine wa_aload_n dX6_anchor_36 rfl ?_
                  refine wa_iload_n dX6_anchor_37 rfl ?_
                  refine wa_putI dX6_anchor_38 fgX6_207 fw6_18 (by first | assumption | rfl) (by rfl) ?_
                  refine wa_aload_n dX6_anchor_41 rfl ?_
                  refine wa_iload_n dX6_anchor_42 rfl ?_
                  refine wa_putI dX6_anchor_43 fgX6_210 fw6_19 (by first | assumption | rfl) (by rfl) ?_
                  refine wa_aload_n dX6_anchor_46 rfl ?_
                  refine wa_iload_n dX6_anchor_47 rfl ?_
                  refine wa_putI dX6_anchor_48 fgX6_213 fw6_20 (by first | assumption | rfl) (by rfl) ?_
                  refine wa_aload_n dX6_anchor_51 rfl ?_
                  refine wa_iload dX6_anchor_52 rfl ?_
                  refine wa_putI dX6_anchor_54 fgX6_46 fw6_21 (by first | assumption | rfl) (by rfl) ?_
                  refine wa_aload_n dX6_anchor_57 rfl ?_
                  refine wa_iconst (nI 0) dX6_anchor_58 (by decide) ?_
                  refine wa_putI dX6_anchor_59 fgX6_216 fw6_22 (by first | assumption | rfl) (by rfl) ?_
                  refine wa_aload_n dX6_anchor_62 rfl ?_
                  refine wa_iconst (nI 0) dX6_anchor_63 (by decide) ?_
                  refine wa_putI dX6_anchor_64 fgX6_219 fw6_23 (by first | assumption | rfl) (by rfl) ?_
                  refine wa_iconst (nI 1) dX6_anchor_67 (by decide) ?_
                  refine wa_iret dX6_anchor_68 rfl ?_
                  refine ⟨rfl, ?_⟩
                  refine Rel_M hrel ?relm ?fs ?fr ?fp ?fw
                  case fs =>
                    intro j_ hj_
                    refine ⟨?_, ?_, ?_, ?_, ?_, ?_, fun i_ hi_ => ?_, fun i_ hi_ => ?_⟩
                    all_goals
                      simp (disch := omega) only [sI_off, bI_off, sL_off, bL_off, r1l, r2l, rb1l, rb2l, r1m, r2m, rb1e, rb2e,r1e]
                  case fr =>
                    intro r_ hr_
                    refine ⟨?_, ?_, ?_, fun i_ hi_ => ?_⟩
                    all_goals
                      simp (disch := omega) only [sI_off, bI_off, sL_off, bL_off, r1l, r2l, rb1l, rb2l, r1m, r2m, rb1e, rb2e,r1e]
                  case fp =>
                    refine ⟨?_, ?_, ?_, ?_, ?_⟩
                    all_goals
                      simp (disch := omega) only [sI_off, bI_off, sL_off, bL_off, r1l, r2l, rb1l, rb2l, r1m, r2m, rb1e, rb2e,r1e]
                  case fw =>
                    refine ⟨?_, fun q_ ha_ hb_ => ?_⟩
                    all_goals
                      simp (disch := omega) only [sI_off, bI_off, sL_off, bL_off, r1l, r2l, rb1l, rb2l, r1m, r2m, rb1e, rb2e,r1e]
                  case relm =>
                    refine ⟨0, 0, by omega, by omega, ?_, ?_, ?_, ?_, ?_, ?_, ?_, ?_, ?_, ?_, ?_, ?_, ?_, ?_, ?_, ?_⟩
                    all_goals simp (disch := omega) only [sI_off, sL_off, r1e, r1m, r2e, r2m, r1l, r2l]
                    · exact hpl.1
                    · exact hpl.2
                    · omega
                    · omega
                    · exact x6_
                    · exact x7_
                    · exact x8_
                    · exact x9_
              · skip
                rw [Int32.toInt_toInt64, k1L, k100] at hj_
                try (exfalso; omega)
                all_goals
                  skip
                  refine wa_if_neF 36 dX6_anchor_30 (by decide) (by decide) ?_
                  refine wa_bipush (-2) dX6_anchor_33 (by decide) ?_
                  refine wa_iret dX6_anchor_35 rfl ?_
                  exact ⟨rfl, hrel.up⟩
          · skip
            rw [Int32.toInt_toInt64, z64, k1e6.1] at hi_
            try (exfalso; omega)
            all_goals
              skip
              refine wa_if_eqT 33 dX6_anchor_17 (by decide) (by decide) ?_
              refine wa_bipush (-2) dX6_anchor_33 (by decide) ?_
              refine wa_iret dX6_anchor_35 rfl ?_
              exact ⟨rfl, hrel.up⟩
      · skip
        first | exact absurd hpl hp_ | skip
        try (exfalso; omega)
        all_goals
          skip
          refine wa_if_eqT 33 dX6_anchor_5 (by decide) (by decide) ?_
          refine wa_bipush (-2) dX6_anchor_33 (by decide) ?_
          refine wa_iret dX6_anchor_35 rfl ?_
          exact ⟨rfl, hrel.up⟩
    · try simp (disch := omega) only [nI_toInt, Int32.toInt_toInt64, e6_] at c9_2
      refine wa_iload_n dX5_anchor_12 rfl ?_
      refine wa_ldc (1000000) dX5_anchor_13 lcX5_226 ?_
      refine wa_ic_gt 31 dX5_anchor_15 (by decide) (fun c15_3 => ?_) (fun c15_3 => ?_)
      · try simp (disch := omega) only [nI_toInt, Int32.toInt_toInt64, e6_] at c15_3
        refine wa_bipush (-2) dX5_anchor_31 (by decide) ?_
        refine wa_iret dX5_anchor_33 rfl ?_
        skip
        refine MW_of (by decide) [some (.ref 73), some (.int x), some (.int y), some (.int r), some (.int m)] rfl (Nat.le_of_ble_eq_true rfl) ?_
        refine wa_iload_n dX6_anchor_0 rfl ?_
        refine wa_iload_n dX6_anchor_1 rfl ?_
        refine wa_callS2 (k' := kX6_isPlace) (d' := 1) dX6_anchor_2 lmX6_204 ksX6_isPlace (by decide) (by omega) (Nat.le_of_ble_eq_true rfl) ?_
        refine wp_X6_isPlace (by omega) (fun hp_ => ?_) (fun hp_ => ?_)
        · skip
          first | exact absurd hp_ hpl | skip
          try (exfalso; omega)
          all_goals
            skip
            refine wa_if_eqF 33 dX6_anchor_5 (by decide) (by decide) ?_
            refine wa_iload_n dX6_anchor_8 rfl ?_
            refine wa_i2l dX6_anchor_9 ?_
            refine wa_lconst (0) dX6_anchor_10 (by decide) ?_
            refine wa_ldc2 (1000000) dX6_anchor_11 lcX6_125 ?_
            refine wa_callS3 (k' := kX6_in) (d' := 0) dX6_anchor_14 lmX6_60 ksX6_in (by decide) (by omega) (Nat.le_of_ble_eq_true rfl) ?_
            refine wp_X6_in (fun hi_ => ?_) (fun hi_ => ?_)
            · skip
              rw [Int32.toInt_toInt64, z64, k1e6.1] at hi_
              try (exfalso; omega)
              all_goals
                skip
                refine wa_if_eqF 33 dX6_anchor_17 (by decide) (by decide) ?_
                refine wa_iload dX6_anchor_20 rfl ?_
                refine wa_i2l dX6_anchor_22 ?_
                refine wa_lconst (1) dX6_anchor_23 (by decide) ?_
                refine wa_ldc2 (100) dX6_anchor_24 lcX6_167 ?_
                refine wa_callS3 (k' := kX6_in) (d' := 0) dX6_anchor_27 lmX6_60 ksX6_in (by decide) (by omega) (Nat.le_of_ble_eq_true rfl) ?_
                refine wp_X6_in (fun hj_ => ?_) (fun hj_ => ?_)
                · skip
                  rw [Int32.toInt_toInt64, k1L, k100] at hj_
                  try (exfalso; omega)
                  all_goals
                    skip
                    refine wa_if_neT 36 dX6_anchor_30 (by decide) (by decide) ?_
                    refine wa_aload_n dX6_anchor_36 rfl ?_
                    refine wa_iload_n dX6_anchor_37 rfl ?_
                    refine wa_putI dX6_anchor_38 fgX6_207 fw6_18 (by first | assumption | rfl) (by rfl) ?_
                    refine wa_aload_n dX6_anchor_41 rfl ?_
                    refine wa_iload_n dX6_anchor_42 rfl ?_
                    refine wa_putI dX6_anchor_43 fgX6_210 fw6_19 (by first | assumption | rfl) (by rfl) ?_
                    refine wa_aload_n dX6_anchor_46 rfl ?_
                    refine wa_iload_n dX6_anchor_47 rfl ?_
                    refine wa_putI dX6_anchor_48 fgX6_213 fw6_20 (by first | assumption | rfl) (by rfl) ?_
                    refine wa_aload_n dX6_anchor_51 rfl ?_
                    refine wa_iload dX6_anchor_52 rfl ?_
                    refine wa_putI dX6_anchor_54 fgX6_46 fw6_21 (by first | assumption | rfl) (by rfl) ?_
                    refine wa_aload_n dX6_anchor_57 rfl ?_
                    refine wa_iconst (nI 0) dX6_anchor_58 (by decide) ?_
                    refine wa_putI dX6_anchor_59 fgX6_216 fw6_22 (by first | assumption | rfl) (by rfl) ?_
                    refine wa_aload_n dX6_anchor_62 rfl ?_
                    refine wa_iconst (nI 0) dX6_anchor_63 (by decide) ?_
                    refine wa_putI dX6_anchor_64 fgX6_219 fw6_23 (by first | assumption | rfl) (by rfl) ?_
                    refine wa_iconst (nI 1) dX6_anchor_67 (by decide) ?_
                    refine wa_iret dX6_anchor_68 rfl ?_
                    refine ⟨rfl, ?_⟩
                    refine Rel_M hrel ?relm ?fs ?fr ?fp ?fw
                    case fs =>
                      intro j_ hj_
                      refine ⟨?_, ?_, ?_, ?_, ?_, ?_, fun i_ hi_ => ?_, fun i_ hi_ => ?_⟩
                      all_goals
                        simp (disch := omega) only [sI_off, bI_off, sL_off, bL_off, r1l, r2l, rb1l, rb2l, r1m, r2m, rb1e, rb2e,r1e]
                    case fr =>
                      intro r_ hr_
                      refine ⟨?_, ?_, ?_, fun i_ hi_ => ?_⟩
                      all_goals
                        simp (disch := omega) only [sI_off, bI_off, sL_off, bL_off, r1l, r2l, rb1l, rb2l, r1m, r2m, rb1e, rb2e,r1e]
                    case fp =>
                      refine ⟨?_, ?_, ?_, ?_, ?_⟩
                      all_goals
                        simp (disch := omega) only [sI_off, bI_off, sL_off, bL_off, r1l, r2l, rb1l, rb2l, r1m, r2m, rb1e, rb2e,r1e]
                    case fw =>
                      refine ⟨?_, fun q_ ha_ hb_ => ?_⟩
                      all_goals
                        simp (disch := omega) only [sI_off, bI_off, sL_off, bL_off, r1l, r2l, rb1l, rb2l, r1m, r2m, rb1e, rb2e,r1e]
                    case relm =>
                      refine ⟨0, 0, by omega, by omega, ?_, ?_, ?_, ?_, ?_, ?_, ?_, ?_, ?_, ?_, ?_, ?_, ?_, ?_, ?_, ?_⟩
                      all_goals simp (disch := omega) only [sI_off, sL_off, r1e, r1m, r2e, r2m, r1l, r2l]
                      · exact hpl.1
                      · exact hpl.2
                      · omega
                      · omega
                      · exact x6_
                      · exact x7_
                      · exact x8_
                      · exact x9_
                · skip
                  rw [Int32.toInt_toInt64, k1L, k100] at hj_
                  try (exfalso; omega)
                  all_goals
                    skip
                    refine wa_if_neF 36 dX6_anchor_30 (by decide) (by decide) ?_
                    refine wa_bipush (-2) dX6_anchor_33 (by decide) ?_
                    refine wa_iret dX6_anchor_35 rfl ?_
                    exact ⟨rfl, hrel.up⟩
            · skip
              rw [Int32.toInt_toInt64, z64, k1e6.1] at hi_
              try (exfalso; omega)
              all_goals
                skip
                refine wa_if_eqT 33 dX6_anchor_17 (by decide) (by decide) ?_
                refine wa_bipush (-2) dX6_anchor_33 (by decide) ?_
                refine wa_iret dX6_anchor_35 rfl ?_
                exact ⟨rfl, hrel.up⟩
        · skip
          first | exact absurd hpl hp_ | skip
          try (exfalso; omega)
          all_goals
            skip
            refine wa_if_eqT 33 dX6_anchor_5 (by decide) (by decide) ?_
            refine wa_bipush (-2) dX6_anchor_33 (by decide) ?_
            refine wa_iret dX6_anchor_35 rfl ?_
            exact ⟨rfl, hrel.up⟩
      · try simp (disch := omega) only [nI_toInt, Int32.toInt_toInt64, e6_] at c15_3
        refine wa_iload dX5_anchor_18 rfl ?_
        refine wa_iconst (nI 1) dX5_anchor_20 (by decide) ?_
        refine wa_ic_lt 31 dX5_anchor_21 (by decide) (fun c21_4 => ?_) (fun c21_4 => ?_)
        · try simp (disch := omega) only [nI_toInt, Int32.toInt_toInt64, e6_] at c21_4
          refine wa_bipush (-2) dX5_anchor_31 (by decide) ?_
          refine wa_iret dX5_anchor_33 rfl ?_
          skip
          refine MW_of (by decide) [some (.ref 73), some (.int x), some (.int y), some (.int r), some (.int m)] rfl (Nat.le_of_ble_eq_true rfl) ?_
          refine wa_iload_n dX6_anchor_0 rfl ?_
          refine wa_iload_n dX6_anchor_1 rfl ?_
          refine wa_callS2 (k' := kX6_isPlace) (d' := 1) dX6_anchor_2 lmX6_204 ksX6_isPlace (by decide) (by omega) (Nat.le_of_ble_eq_true rfl) ?_
          refine wp_X6_isPlace (by omega) (fun hp_ => ?_) (fun hp_ => ?_)
          · skip
            first | exact absurd hp_ hpl | skip
            try (exfalso; omega)
            all_goals
              skip
              refine wa_if_eqF 33 dX6_anchor_5 (by decide) (by decide) ?_
              refine wa_iload_n dX6_anchor_8 rfl ?_
              refine wa_i2l dX6_anchor_9 ?_
              refine wa_lconst (0) dX6_anchor_10 (by decide) ?_
              refine wa_ldc2 (1000000) dX6_anchor_11 lcX6_125 ?_
              refine wa_callS3 (k' := kX6_in) (d' := 0) dX6_anchor_14 lmX6_60 ksX6_in (by decide) (by omega) (Nat.le_of_ble_eq_true rfl) ?_
              refine wp_X6_in (fun hi_ => ?_) (fun hi_ => ?_)
              · skip
                rw [Int32.toInt_toInt64, z64, k1e6.1] at hi_
                try (exfalso; omega)
                all_goals
                  skip
                  refine wa_if_eqF 33 dX6_anchor_17 (by decide) (by decide) ?_
                  refine wa_iload dX6_anchor_20 rfl ?_
                  refine wa_i2l dX6_anchor_22 ?_
                  refine wa_lconst (1) dX6_anchor_23 (by decide) ?_
                  refine wa_ldc2 (100) dX6_anchor_24 lcX6_167 ?_
                  refine wa_callS3 (k' := kX6_in) (d' := 0) dX6_anchor_27 lmX6_60 ksX6_in (by decide) (by omega) (Nat.le_of_ble_eq_true rfl) ?_
                  refine wp_X6_in (fun hj_ => ?_) (fun hj_ => ?_)
                  · skip
                    rw [Int32.toInt_toInt64, k1L, k100] at hj_
                    try (exfalso; omega)
                    all_goals
                      skip
                      refine wa_if_neT 36 dX6_anchor_30 (by decide) (by decide) ?_
                      refine wa_aload_n dX6_anchor_36 rfl ?_
                      refine wa_iload_n dX6_anchor_37 rfl ?_
                      refine wa_putI dX6_anchor_38 fgX6_207 fw6_18 (by first | assumption | rfl) (by rfl) ?_
                      refine wa_aload_n dX6_anchor_41 rfl ?_
                      refine wa_iload_n dX6_anchor_42 rfl ?_
                      refine wa_putI dX6_anchor_43 fgX6_210 fw6_19 (by first | assumption | rfl) (by rfl) ?_
                      refine wa_aload_n dX6_anchor_46 rfl ?_
                      refine wa_iload_n dX6_anchor_47 rfl ?_
                      refine wa_putI dX6_anchor_48 fgX6_213 fw6_20 (by first | assumption | rfl) (by rfl) ?_
                      refine wa_aload_n dX6_anchor_51 rfl ?_
                      refine wa_iload dX6_anchor_52 rfl ?_
                      refine wa_putI dX6_anchor_54 fgX6_46 fw6_21 (by first | assumption | rfl) (by rfl) ?_
                      refine wa_aload_n dX6_anchor_57 rfl ?_
                      refine wa_iconst (nI 0) dX6_anchor_58 (by decide) ?_
                      refine wa_putI dX6_anchor_59 fgX6_216 fw6_22 (by first | assumption | rfl) (by rfl) ?_
                      refine wa_aload_n dX6_anchor_62 rfl ?_
                      refine wa_iconst (nI 0) dX6_anchor_63 (by decide) ?_
                      refine wa_putI dX6_anchor_64 fgX6_219 fw6_23 (by first | assumption | rfl) (by rfl) ?_
                      refine wa_iconst (nI 1) dX6_anchor_67 (by decide) ?_
                      refine wa_iret dX6_anchor_68 rfl ?_
                      refine ⟨rfl, ?_⟩
                      refine Rel_M hrel ?relm ?fs ?fr ?fp ?fw
                      case fs =>
                        intro j_ hj_
                        refine ⟨?_, ?_, ?_, ?_, ?_, ?_, fun i_ hi_ => ?_, fun i_ hi_ => ?_⟩
                        all_goals
                          simp (disch := omega) only [sI_off, bI_off, sL_off, bL_off, r1l, r2l, rb1l, rb2l, r1m, r2m, rb1e, rb2e,r1e]
                      case fr =>
                        intro r_ hr_
                        refine ⟨?_, ?_, ?_, fun i_ hi_ => ?_⟩
                        all_goals
                          simp (disch := omega) only [sI_off, bI_off, sL_off, bL_off, r1l, r2l, rb1l, rb2l, r1m, r2m, rb1e, rb2e,r1e]
                      case fp =>
                        refine ⟨?_, ?_, ?_, ?_, ?_⟩
                        all_goals
                          simp (disch := omega) only [sI_off, bI_off, sL_off, bL_off, r1l, r2l, rb1l, rb2l, r1m, r2m, rb1e, rb2e,r1e]
                      case fw =>
                        refine ⟨?_, fun q_ ha_ hb_ => ?_⟩
                        all_goals
                          simp (disch := omega) only [sI_off, bI_off, sL_off, bL_off, r1l, r2l, rb1l, rb2l, r1m, r2m, rb1e, rb2e,r1e]
                      case relm =>
                        refine ⟨0, 0, by omega, by omega, ?_, ?_, ?_, ?_, ?_, ?_, ?_, ?_, ?_, ?_, ?_, ?_, ?_, ?_, ?_, ?_⟩
                        all_goals simp (disch := omega) only [sI_off, sL_off, r1e, r1m, r2e, r2m, r1l, r2l]
                        · exact hpl.1
                        · exact hpl.2
                        · omega
                        · omega
                        · exact x6_
                        · exact x7_
                        · exact x8_
                        · exact x9_
                  · skip
                    rw [Int32.toInt_toInt64, k1L, k100] at hj_
                    try (exfalso; omega)
                    all_goals
                      skip
                      refine wa_if_neF 36 dX6_anchor_30 (by decide) (by decide) ?_
                      refine wa_bipush (-2) dX6_anchor_33 (by decide) ?_
                      refine wa_iret dX6_anchor_35 rfl ?_
                      exact ⟨rfl, hrel.up⟩
              · skip
                rw [Int32.toInt_toInt64, z64, k1e6.1] at hi_
                try (exfalso; omega)
                all_goals
                  skip
                  refine wa_if_eqT 33 dX6_anchor_17 (by decide) (by decide) ?_
                  refine wa_bipush (-2) dX6_anchor_33 (by decide) ?_
                  refine wa_iret dX6_anchor_35 rfl ?_
                  exact ⟨rfl, hrel.up⟩
          · skip
            first | exact absurd hpl hp_ | skip
            try (exfalso; omega)
            all_goals
              skip
              refine wa_if_eqT 33 dX6_anchor_5 (by decide) (by decide) ?_
              refine wa_bipush (-2) dX6_anchor_33 (by decide) ?_
              refine wa_iret dX6_anchor_35 rfl ?_
              exact ⟨rfl, hrel.up⟩
        · try simp (disch := omega) only [nI_toInt, Int32.toInt_toInt64, e6_] at c21_4
          refine wa_iload dX5_anchor_24 rfl ?_
          refine wa_bipush (nI 100) dX5_anchor_26 (by decide) ?_
          refine wa_ic_le 34 dX5_anchor_28 (by decide) (fun c28_5 => ?_) (fun c28_5 => ?_)
          · try simp (disch := omega) only [nI_toInt, Int32.toInt_toInt64, e6_] at c28_5
            refine wa_aload_n dX5_anchor_34 rfl ?_
            refine wa_getR dX5_anchor_35 fgX5_40 (by first | assumption | rfl) (by rfl) ?_
            refine wa_iload_n dX5_anchor_38 rfl ?_
            refine wa_iload_n dX5_anchor_39 rfl ?_
            refine wa_iload_n dX5_anchor_40 rfl ?_
            refine wa_iload dX5_anchor_41 rfl ?_
            refine wa_callV4 (k' := kX0_begin) (d' := 0) dX5_anchor_43 lmX5_227 kvX0_begin (by first | assumption | rfl) (by rfl) (by decide) (by omega) (Nat.le_of_ble_eq_true rfl) ?_
            refine wp_X0_begin ?_
            refine wa_iconst (nI 1) dX5_anchor_46 (by decide) ?_
            refine wa_iret dX5_anchor_47 rfl ?_
            skip
            refine MW_of (by decide) [some (.ref 73), some (.int x), some (.int y), some (.int r), some (.int m)] rfl (Nat.le_of_ble_eq_true rfl) ?_
            refine wa_iload_n dX6_anchor_0 rfl ?_
            refine wa_iload_n dX6_anchor_1 rfl ?_
            refine wa_callS2 (k' := kX6_isPlace) (d' := 1) dX6_anchor_2 lmX6_204 ksX6_isPlace (by decide) (by omega) (Nat.le_of_ble_eq_true rfl) ?_
            refine wp_X6_isPlace (by omega) (fun hp_ => ?_) (fun hp_ => ?_)
            · skip
              first | exact absurd hp_ hpl | skip
              try (exfalso; omega)
              all_goals
                skip
                refine wa_if_eqF 33 dX6_anchor_5 (by decide) (by decide) ?_
                refine wa_iload_n dX6_anchor_8 rfl ?_
                refine wa_i2l dX6_anchor_9 ?_
                refine wa_lconst (0) dX6_anchor_10 (by decide) ?_
                refine wa_ldc2 (1000000) dX6_anchor_11 lcX6_125 ?_
                refine wa_callS3 (k' := kX6_in) (d' := 0) dX6_anchor_14 lmX6_60 ksX6_in (by decide) (by omega) (Nat.le_of_ble_eq_true rfl) ?_
                refine wp_X6_in (fun hi_ => ?_) (fun hi_ => ?_)
                · skip
                  rw [Int32.toInt_toInt64, z64, k1e6.1] at hi_
                  try (exfalso; omega)
                  all_goals
                    skip
                    refine wa_if_eqF 33 dX6_anchor_17 (by decide) (by decide) ?_
                    refine wa_iload dX6_anchor_20 rfl ?_
                    refine wa_i2l dX6_anchor_22 ?_
                    refine wa_lconst (1) dX6_anchor_23 (by decide) ?_
                    refine wa_ldc2 (100) dX6_anchor_24 lcX6_167 ?_
                    refine wa_callS3 (k' := kX6_in) (d' := 0) dX6_anchor_27 lmX6_60 ksX6_in (by decide) (by omega) (Nat.le_of_ble_eq_true rfl) ?_
                    refine wp_X6_in (fun hj_ => ?_) (fun hj_ => ?_)
                    · skip
                      rw [Int32.toInt_toInt64, k1L, k100] at hj_
                      try (exfalso; omega)
                      all_goals
                        skip
                        refine wa_if_neT 36 dX6_anchor_30 (by decide) (by decide) ?_
                        refine wa_aload_n dX6_anchor_36 rfl ?_
                        refine wa_iload_n dX6_anchor_37 rfl ?_
                        refine wa_putI dX6_anchor_38 fgX6_207 fw6_18 (by first | assumption | rfl) (by rfl) ?_
                        refine wa_aload_n dX6_anchor_41 rfl ?_
                        refine wa_iload_n dX6_anchor_42 rfl ?_
                        refine wa_putI dX6_anchor_43 fgX6_210 fw6_19 (by first | assumption | rfl) (by rfl) ?_
                        refine wa_aload_n dX6_anchor_46 rfl ?_
                        refine wa_iload_n dX6_anchor_47 rfl ?_
                        refine wa_putI dX6_anchor_48 fgX6_213 fw6_20 (by first | assumption | rfl) (by rfl) ?_
                        refine wa_aload_n dX6_anchor_51 rfl ?_
                        refine wa_iload dX6_anchor_52 rfl ?_
                        refine wa_putI dX6_anchor_54 fgX6_46 fw6_21 (by first | assumption | rfl) (by rfl) ?_
                        refine wa_aload_n dX6_anchor_57 rfl ?_
                        refine wa_iconst (nI 0) dX6_anchor_58 (by decide) ?_
                        refine wa_putI dX6_anchor_59 fgX6_216 fw6_22 (by first | assumption | rfl) (by rfl) ?_
                        refine wa_aload_n dX6_anchor_62 rfl ?_
                        refine wa_iconst (nI 0) dX6_anchor_63 (by decide) ?_
                        refine wa_putI dX6_anchor_64 fgX6_219 fw6_23 (by first | assumption | rfl) (by rfl) ?_
                        refine wa_iconst (nI 1) dX6_anchor_67 (by decide) ?_
                        refine wa_iret dX6_anchor_68 rfl ?_
                        refine ⟨rfl, ?_⟩
                        refine Rel_M hrel ?relm ?fs ?fr ?fp ?fw
                        case fs =>
                          intro j_ hj_
                          refine ⟨?_, ?_, ?_, ?_, ?_, ?_, fun i_ hi_ => ?_, fun i_ hi_ => ?_⟩
                          all_goals
                            simp (disch := omega) only [sI_off, bI_off, sL_off, bL_off, r1l, r2l, rb1l, rb2l, r1m, r2m, rb1e, rb2e,r1e]
                        case fr =>
                          intro r_ hr_
                          refine ⟨?_, ?_, ?_, fun i_ hi_ => ?_⟩
                          all_goals
                            simp (disch := omega) only [sI_off, bI_off, sL_off, bL_off, r1l, r2l, rb1l, rb2l, r1m, r2m, rb1e, rb2e,r1e]
                        case fp =>
                          refine ⟨?_, ?_, ?_, ?_, ?_⟩
                          all_goals
                            simp (disch := omega) only [sI_off, bI_off, sL_off, bL_off, r1l, r2l, rb1l, rb2l, r1m, r2m, rb1e, rb2e,r1e]
                        case fw =>
                          refine ⟨?_, fun q_ ha_ hb_ => ?_⟩
                          all_goals
                            simp (disch := omega) only [sI_off, bI_off, sL_off, bL_off, r1l, r2l, rb1l, rb2l, r1m, r2m, rb1e, rb2e,r1e]
                        case relm =>
                          refine ⟨0, 0, by omega, by omega, ?_, ?_, ?_, ?_, ?_, ?_, ?_, ?_, ?_, ?_, ?_, ?_, ?_, ?_, ?_, ?_⟩
                          all_goals simp (disch := omega) only [sI_off, sL_off, r1e, r1m, r2e, r2m, r1l, r2l]
                          · exact hpl.1
                          · exact hpl.2
                          · omega
                          · omega
                          · exact x6_
                          · exact x7_
                          · exact x8_
                          · exact x9_
                    · skip
                      rw [Int32.toInt_toInt64, k1L, k100] at hj_
                      try (exfalso; omega)
                      all_goals
                        skip
                        refine wa_if_neF 36 dX6_anchor_30 (by decide) (by decide) ?_
                        refine wa_bipush (-2) dX6_anchor_33 (by decide) ?_
                        refine wa_iret dX6_anchor_35 rfl ?_
                        exact ⟨rfl, hrel.up⟩
                · skip
                  rw [Int32.toInt_toInt64, z64, k1e6.1] at hi_
                  try (exfalso; omega)
                  all_goals
                    skip
                    refine wa_if_eqT 33 dX6_anchor_17 (by decide) (by decide) ?_
                    refine wa_bipush (-2) dX6_anchor_33 (by decide) ?_
                    refine wa_iret dX6_anchor_35 rfl ?_
                    exact ⟨rfl, hrel.up⟩
            · skip
              first | exact absurd hpl hp_ | skip
              try (exfalso; omega)
              all_goals
                skip
                refine wa_if_eqT 33 dX6_anchor_5 (by decide) (by decide) ?_
                refine wa_bipush (-2) dX6_anchor_33 (by decide) ?_
                refine wa_iret dX6_anchor_35 rfl ?_
                exact ⟨rfl, hrel.up⟩
          · try simp (disch := omega) only [nI_toInt, Int32.toInt_toInt64, e6_] at c28_5
            refine wa_bipush (-2) dX5_anchor_31 (by decide) ?_
            refine wa_iret dX5_anchor_33 rfl ?_
            skip
            refine MW_of (by decide) [some (.ref 73), some (.int x), some (.int y), some (.int r), some (.int m)] rfl (Nat.le_of_ble_eq_true rfl) ?_
            refine wa_iload_n dX6_anchor_0 rfl ?_
            refine wa_iload_n dX6_anchor_1 rfl ?_
            refine wa_callS2 (k' := kX6_isPlace) (d' := 1) dX6_anchor_2 lmX6_204 ksX6_isPlace (by decide) (by omega) (Nat.le_of_ble_eq_true rfl) ?_
            refine wp_X6_isPlace (by omega) (fun hp_ => ?_) (fun hp_ => ?_)
            · skip
              first | exact absurd hp_ hpl | skip
              try (exfalso; omega)
              all_goals
                skip
                refine wa_if_eqF 33 dX6_anchor_5 (by decide) (by decide) ?_
                refine wa_iload_n dX6_anchor_8 rfl ?_
                refine wa_i2l dX6_anchor_9 ?_
                refine wa_lconst (0) dX6_anchor_10 (by decide) ?_
                refine wa_ldc2 (1000000) dX6_anchor_11 lcX6_125 ?_
                refine wa_callS3 (k' := kX6_in) (d' := 0) dX6_anchor_14 lmX6_60 ksX6_in (by decide) (by omega) (Nat.le_of_ble_eq_true rfl) ?_
                refine wp_X6_in (fun hi_ => ?_) (fun hi_ => ?_)
                · skip
                  rw [Int32.toInt_toInt64, z64, k1e6.1] at hi_
                  try (exfalso; omega)
                  all_goals
                    skip
                    refine wa_if_eqF 33 dX6_anchor_17 (by decide) (by decide) ?_
                    refine wa_iload dX6_anchor_20 rfl ?_
                    refine wa_i2l dX6_anchor_22 ?_
                    refine wa_lconst (1) dX6_anchor_23 (by decide) ?_
                    refine wa_ldc2 (100) dX6_anchor_24 lcX6_167 ?_
                    refine wa_callS3 (k' := kX6_in) (d' := 0) dX6_anchor_27 lmX6_60 ksX6_in (by decide) (by omega) (Nat.le_of_ble_eq_true rfl) ?_
                    refine wp_X6_in (fun hj_ => ?_) (fun hj_ => ?_)
                    · skip
                      rw [Int32.toInt_toInt64, k1L, k100] at hj_
                      try (exfalso; omega)
                      all_goals
                        skip
                        refine wa_if_neT 36 dX6_anchor_30 (by decide) (by decide) ?_
                        refine wa_aload_n dX6_anchor_36 rfl ?_
                        refine wa_iload_n dX6_anchor_37 rfl ?_
                        refine wa_putI dX6_anchor_38 fgX6_207 fw6_18 (by first | assumption | rfl) (by rfl) ?_
                        refine wa_aload_n dX6_anchor_41 rfl ?_
                        refine wa_iload_n dX6_anchor_42 rfl ?_
                        refine wa_putI dX6_anchor_43 fgX6_210 fw6_19 (by first | assumption | rfl) (by rfl) ?_
                        refine wa_aload_n dX6_anchor_46 rfl ?_
                        refine wa_iload_n dX6_anchor_47 rfl ?_
                        refine wa_putI dX6_anchor_48 fgX6_213 fw6_20 (by first | assumption | rfl) (by rfl) ?_
                        refine wa_aload_n dX6_anchor_51 rfl ?_
                        refine wa_iload dX6_anchor_52 rfl ?_
                        refine wa_putI dX6_anchor_54 fgX6_46 fw6_21 (by first | assumption | rfl) (by rfl) ?_
                        refine wa_aload_n dX6_anchor_57 rfl ?_
                        refine wa_iconst (nI 0) dX6_anchor_58 (by decide) ?_
                        refine wa_putI dX6_anchor_59 fgX6_216 fw6_22 (by first | assumption | rfl) (by rfl) ?_
                        refine wa_aload_n dX6_anchor_62 rfl ?_
                        refine wa_iconst (nI 0) dX6_anchor_63 (by decide) ?_
                        refine wa_putI dX6_anchor_64 fgX6_219 fw6_23 (by first | assumption | rfl) (by rfl) ?_
                        refine wa_iconst (nI 1) dX6_anchor_67 (by decide) ?_
                        refine wa_iret dX6_anchor_68 rfl ?_
                        refine ⟨rfl, ?_⟩
                        refine Rel_M hrel ?relm ?fs ?fr ?fp ?fw
                        case fs =>
                          intro j_ hj_
                          refine ⟨?_, ?_, ?_, ?_, ?_, ?_, fun i_ hi_ => ?_, fun i_ hi_ => ?_⟩
                          all_goals
                            simp (disch := omega) only [sI_off, bI_off, sL_off, bL_off, r1l, r2l, rb1l, rb2l, r1m, r2m, rb1e, rb2e,r1e]
                        case fr =>
                          intro r_ hr_
                          refine ⟨?_, ?_, ?_, fun i_ hi_ => ?_⟩
                          all_goals
                            simp (disch := omega) only [sI_off, bI_off, sL_off, bL_off, r1l, r2l, rb1l, rb2l, r1m, r2m, rb1e, rb2e,r1e]
                        case fp =>
                          refine ⟨?_, ?_, ?_, ?_, ?_⟩
                          all_goals
                            simp (disch := omega) only [sI_off, bI_off, sL_off, bL_off, r1l, r2l, rb1l, rb2l, r1m, r2m, rb1e, rb2e,r1e]
                        case fw =>
                          refine ⟨?_, fun q_ ha_ hb_ => ?_⟩
                          all_goals
                            simp (disch := omega) only [sI_off, bI_off, sL_off, bL_off, r1l, r2l, rb1l, rb2l, r1m, r2m, rb1e, rb2e,r1e]
                        case relm =>
                          refine ⟨0, 0, by omega, by omega, ?_, ?_, ?_, ?_, ?_, ?_, ?_, ?_, ?_, ?_, ?_, ?_, ?_, ?_, ?_, ?_⟩
                          all_goals simp (disch := omega) only [sI_off, sL_off, r1e, r1m, r2e, r2m, r1l, r2l]
                          · exact hpl.1
                          · exact hpl.2
                          · omega
                          · omega
                          · exact x6_
                          · exact x7_
                          · exact x8_
                          · exact x9_
                    · skip
                      rw [Int32.toInt_toInt64, k1L, k100] at hj_
                      try (exfalso; omega)
                      all_goals
                        skip
                        refine wa_if_neF 36 dX6_anchor_30 (by decide) (by decide) ?_
                        refine wa_bipush (-2) dX6_anchor_33 (by decide) ?_
                        refine wa_iret dX6_anchor_35 rfl ?_
                        exact ⟨rfl, hrel.up⟩
                · skip
                  rw [Int32.toInt_toInt64, z64, k1e6.1] at hi_
                  try (exfalso; omega)
                  all_goals
                    skip
                    refine wa_if_eqT 33 dX6_anchor_17 (by decide) (by decide) ?_
                    refine wa_bipush (-2) dX6_anchor_33 (by decide) ?_
                    refine wa_iret dX6_anchor_35 rfl ?_
                    exact ⟨rfl, hrel.up⟩
            · skip
              first | exact absurd hpl hp_ | skip
              try (exfalso; omega)
              all_goals
                skip
                refine wa_if_eqT 33 dX6_anchor_5 (by decide) (by decide) ?_
                refine wa_bipush (-2) dX6_anchor_33 (by decide) ?_
                refine wa_iret dX6_anchor_35 rfl ?_
                exact ⟨rfl, hrel.up⟩
  · skip
    refine wa_if_eqT 31 dX5_anchor_5 (by decide) (by decide) ?_
    refine wa_bipush (-2) dX5_anchor_31 (by decide) ?_
    refine wa_iret dX5_anchor_33 rfl ?_
    skip
    refine MW_of (by decide) [some (.ref 73), some (.int x), some (.int y), some (.int r), some (.int m)] rfl (Nat.le_of_ble_eq_true rfl) ?_
    refine wa_iload_n dX6_anchor_0 rfl ?_
    refine wa_iload_n dX6_anchor_1 rfl ?_
    refine wa_callS2 (k' := kX6_isPlace) (d' := 1) dX6_anchor_2 lmX6_204 ksX6_isPlace (by decide) (by omega) (Nat.le_of_ble_eq_true rfl) ?_
    refine wp_X6_isPlace (by omega) (fun hp_ => ?_) (fun hp_ => ?_)
    · skip
      first | exact absurd hp_ hpl | skip
      try (exfalso; omega)
      all_goals
        skip
        refine wa_if_eqF 33 dX6_anchor_5 (by decide) (by decide) ?_
        refine wa_iload_n dX6_anchor_8 rfl ?_
        refine wa_i2l dX6_anchor_9 ?_
        refine wa_lconst (0) dX6_anchor_10 (by decide) ?_
        refine wa_ldc2 (1000000) dX6_anchor_11 lcX6_125 ?_
        refine wa_callS3 (k' := kX6_in) (d' := 0) dX6_anchor_14 lmX6_60 ksX6_in (by decide) (by omega) (Nat.le_of_ble_eq_true rfl) ?_
        refine wp_X6_in (fun hi_ => ?_) (fun hi_ => ?_)
        · skip
          rw [Int32.toInt_toInt64, z64, k1e6.1] at hi_
          try (exfalso; omega)
          all_goals
            skip
            refine wa_if_eqF 33 dX6_anchor_17 (by decide) (by decide) ?_
            refine wa_iload dX6_anchor_20 rfl ?_
            refine wa_i2l dX6_anchor_22 ?_
            refine wa_lconst (1) dX6_anchor_23 (by decide) ?_
            refine wa_ldc2 (100) dX6_anchor_24 lcX6_167 ?_
            refine wa_callS3 (k' := kX6_in) (d' := 0) dX6_anchor_27 lmX6_60 ksX6_in (by decide) (by omega) (Nat.le_of_ble_eq_true rfl) ?_
            refine wp_X6_in (fun hj_ => ?_) (fun hj_ => ?_)
            · skip
              rw [Int32.toInt_toInt64, k1L, k100] at hj_
              try (exfalso; omega)
              all_goals
                skip
                refine wa_if_neT 36 dX6_anchor_30 (by decide) (by decide) ?_
                refine wa_aload_n dX6_anchor_36 rfl ?_
                refine wa_iload_n dX6_anchor_37 rfl ?_
                refine wa_putI dX6_anchor_38 fgX6_207 fw6_18 (by first | assumption | rfl) (by rfl) ?_
                refine wa_aload_n dX6_anchor_41 rfl ?_
                refine wa_iload_n dX6_anchor_42 rfl ?_
                refine wa_putI dX6_anchor_43 fgX6_210 fw6_19 (by first | assumption | rfl) (by rfl) ?_
                refine wa_aload_n dX6_anchor_46 rfl ?_
                refine wa_iload_n dX6_anchor_47 rfl ?_
                refine wa_putI dX6_anchor_48 fgX6_213 fw6_20 (by first | assumption | rfl) (by rfl) ?_
                refine wa_aload_n dX6_anchor_51 rfl ?_
                refine wa_iload dX6_anchor_52 rfl ?_
                refine wa_putI dX6_anchor_54 fgX6_46 fw6_21 (by first | assumption | rfl) (by rfl) ?_
                refine wa_aload_n dX6_anchor_57 rfl ?_
                refine wa_iconst (nI 0) dX6_anchor_58 (by decide) ?_
                refine wa_putI dX6_anchor_59 fgX6_216 fw6_22 (by first | assumption | rfl) (by rfl) ?_
                refine wa_aload_n dX6_anchor_62 rfl ?_
                refine wa_iconst (nI 0) dX6_anchor_63 (by decide) ?_
                refine wa_putI dX6_anchor_64 fgX6_219 fw6_23 (by first | assumption | rfl) (by rfl) ?_
                refine wa_iconst (nI 1) dX6_anchor_67 (by decide) ?_
                refine wa_iret dX6_anchor_68 rfl ?_
                refine ⟨rfl, ?_⟩
                refine Rel_M hrel ?relm ?fs ?fr ?fp ?fw
                case fs =>
                  intro j_ hj_
                  refine ⟨?_, ?_, ?_, ?_, ?_, ?_, fun i_ hi_ => ?_, fun i_ hi_ => ?_⟩
                  all_goals
                    simp (disch := omega) only [sI_off, bI_off, sL_off, bL_off, r1l, r2l, rb1l, rb2l, r1m, r2m, rb1e, rb2e,r1e]
                case fr =>
                  intro r_ hr_
                  refine ⟨?_, ?_, ?_, fun i_ hi_ => ?_⟩
                  all_goals
                    simp (disch := omega) only [sI_off, bI_off, sL_off, bL_off, r1l, r2l, rb1l, rb2l, r1m, r2m, rb1e, rb2e,r1e]
                case fp =>
                  refine ⟨?_, ?_, ?_, ?_, ?_⟩
                  all_goals
                    simp (disch := omega) only [sI_off, bI_off, sL_off, bL_off, r1l, r2l, rb1l, rb2l, r1m, r2m, rb1e, rb2e,r1e]
                case fw =>
                  refine ⟨?_, fun q_ ha_ hb_ => ?_⟩
                  all_goals
                    simp (disch := omega) only [sI_off, bI_off, sL_off, bL_off, r1l, r2l, rb1l, rb2l, r1m, r2m, rb1e, rb2e,r1e]
                case relm =>
                  refine ⟨0, 0, by omega, by omega, ?_, ?_, ?_, ?_, ?_, ?_, ?_, ?_, ?_, ?_, ?_, ?_, ?_, ?_, ?_, ?_⟩
                  all_goals simp (disch := omega) only [sI_off, sL_off, r1e, r1m, r2e, r2m, r1l, r2l]
                  · exact hpl.1
                  · exact hpl.2
                  · omega
                  · omega
                  · exact x6_
                  · exact x7_
                  · exact x8_
                  · exact x9_
            · skip
              rw [Int32.toInt_toInt64, k1L, k100] at hj_
              try (exfalso; omega)
              all_goals
                skip
                refine wa_if_neF 36 dX6_anchor_30 (by decide) (by decide) ?_
                refine wa_bipush (-2) dX6_anchor_33 (by decide) ?_
                refine wa_iret dX6_anchor_35 rfl ?_
                exact ⟨rfl, hrel.up⟩
        · skip
          rw [Int32.toInt_toInt64, z64, k1e6.1] at hi_
          try (exfalso; omega)
          all_goals
            skip
            refine wa_if_eqT 33 dX6_anchor_17 (by decide) (by decide) ?_
            refine wa_bipush (-2) dX6_anchor_33 (by decide) ?_
            refine wa_iret dX6_anchor_35 rfl ?_
            exact ⟨rfl, hrel.up⟩
    · skip
      first | exact absurd hpl hp_ | skip
      try (exfalso; omega)
      all_goals
        skip
        refine wa_if_eqT 33 dX6_anchor_5 (by decide) (by decide) ?_
        refine wa_bipush (-2) dX6_anchor_33 (by decide) ?_
        refine wa_iret dX6_anchor_35 rfl ?_
        exact ⟨rfl, hrel.up⟩
theorem fix_1 {d p : Nat} {x y : Int32} {ν : Mem} {Q : QM} (hp : ν.1 73 22 = nI p) (hp31 : p < 2 ^ 31) (K : WA kX6_fix d Q 38 [some (.ref 73), some (.int x), some (.int y), none, none, none, none] [] (sI ν 73 24 (if p = 0 then x else mnI (ν.1 73 24) x))) : WA kX6_fix d Q 11 [some (.ref 73), some (.int x), some (.int y), none, none, none, none] [] ν := by
  by_cases h0 : p = 0
  · rw [if_pos h0] at K
    refine wa_aload_n dX6_fix_11 rfl ?_
    refine wa_aload_n dX6_fix_12 rfl ?_
    refine wa_getI dX6_fix_13 fgX6_216 (by first | assumption | rfl) (by rfl) ?_
    refine wa_if_eqT 27 dX6_fix_16 (by decide) (by rw [hp, h0]; rfl) ?_
    refine wa_iload_n dX6_fix_27 rfl ?_
    refine wa_goto 35 dX6_fix_28 (by decide) ?_
    refine wa_putI dX6_fix_35 fgX6_222 fw6_24 (by first | assumption | rfl) (by rfl) ?_
    exact K
  · rw [if_neg h0] at K
    unfold mnI at K
    refine wa_aload_n dX6_fix_11 rfl ?_
    refine wa_aload_n dX6_fix_12 rfl ?_
    refine wa_getI dX6_fix_13 fgX6_216 (by first | assumption | rfl) (by rfl) ?_
    refine wa_if_eqF 27 dX6_fix_16 (by decide) (by rw [hp, nI_toInt hp31]; omega) ?_
    refine wa_iload_n dX6_fix_19 rfl ?_
    refine wa_aload_n dX6_fix_20 rfl ?_
    refine wa_getI dX6_fix_21 fgX6_222 (by first | assumption | rfl) (by rfl) ?_
    refine wa_ic_ge 31 dX6_fix_24 (by decide) (fun c24_1 => ?_) (fun c24_1 => ?_)
    · try simp (disch := omega) only [nI_toInt, Int32.toInt_toInt64] at c24_1
      refine wa_aload_n dX6_fix_31 rfl ?_
      refine wa_getI dX6_fix_32 fgX6_222 (by first | assumption | rfl) (by rfl) ?_
      refine wa_putI dX6_fix_35 fgX6_222 fw6_24 (by first | assumption | rfl) (by rfl) ?_
      rw [if_neg (by omega)] at K; exact K
    · try simp (disch := omega) only [nI_toInt, Int32.toInt_toInt64] at c24_1
      refine wa_iload_n dX6_fix_27 rfl ?_
      refine wa_goto 35 dX6_fix_28 (by decide) ?_
      refine wa_putI dX6_fix_35 fgX6_222 fw6_24 (by first | assumption | rfl) (by rfl) ?_
      rw [if_pos (by omega)] at K; exact K
theorem fix_2 {d p : Nat} {x y : Int32} {ν : Mem} {Q : QM} (hp : ν.1 73 22 = nI p) (hp31 : p < 2 ^ 31) (K : WA kX6_fix d Q 65 [some (.ref 73), some (.int x), some (.int y), none, none, none, none] [] (sI ν 73 25 (if p = 0 then x else mxI (ν.1 73 25) x))) : WA kX6_fix d Q 38 [some (.ref 73), some (.int x), some (.int y), none, none, none, none] [] ν := by
  by_cases h0 : p = 0
  · rw [if_pos h0] at K
    refine wa_aload_n dX6_fix_38 rfl ?_
    refine wa_aload_n dX6_fix_39 rfl ?_
    refine wa_getI dX6_fix_40 fgX6_216 (by first | assumption | rfl) (by rfl) ?_
    refine wa_if_eqT 54 dX6_fix_43 (by decide) (by rw [hp, h0]; rfl) ?_
    refine wa_iload_n dX6_fix_54 rfl ?_
    refine wa_goto 62 dX6_fix_55 (by decide) ?_
    refine wa_putI dX6_fix_62 fgX6_225 fw6_25 (by first | assumption | rfl) (by rfl) ?_
    exact K
  · rw [if_neg h0] at K
    unfold mxI at K
    refine wa_aload_n dX6_fix_38 rfl ?_
    refine wa_aload_n dX6_fix_39 rfl ?_
    refine wa_getI dX6_fix_40 fgX6_216 (by first | assumption | rfl) (by rfl) ?_
    refine wa_if_eqF 54 dX6_fix_43 (by decide) (by rw [hp, nI_toInt hp31]; omega) ?_
    refine wa_iload_n dX6_fix_46 rfl ?_
    refine wa_aload_n dX6_fix_47 rfl ?_
    refine wa_getI dX6_fix_48 fgX6_225 (by first | assumption | rfl) (by rfl) ?_
    refine wa_ic_le 58 dX6_fix_51 (by decide) (fun c51_1 => ?_) (fun c51_1 => ?_)
    · try simp (disch := omega) only [nI_toInt, Int32.toInt_toInt64] at c51_1
      refine wa_aload_n dX6_fix_58 rfl ?_
      refine wa_getI dX6_fix_59 fgX6_225 (by first | assumption | rfl) (by rfl) ?_
      refine wa_putI dX6_fix_62 fgX6_225 fw6_25 (by first | assumption | rfl) (by rfl) ?_
      rw [if_neg (by omega)] at K; exact K
    · try simp (disch := omega) only [nI_toInt, Int32.toInt_toInt64] at c51_1
      refine wa_iload_n dX6_fix_54 rfl ?_
      refine wa_goto 62 dX6_fix_55 (by decide) ?_
      refine wa_putI dX6_fix_62 fgX6_225 fw6_25 (by first | assumption | rfl) (by rfl) ?_
      rw [if_pos (by omega)] at K; exact K
theorem fix_3 {d p : Nat} {x y : Int32} {ν : Mem} {Q : QM} (hp : ν.1 73 22 = nI p) (hp31 : p < 2 ^ 31) (K : WA kX6_fix d Q 92 [some (.ref 73), some (.int x), some (.int y), none, none, none, none] [] (sI ν 73 26 (if p = 0 then y else mnI (ν.1 73 26) y))) : WA kX6_fix d Q 65 [some (.ref 73), some (.int x), some (.int y), none, none, none, none] [] ν := by
  by_cases h0 : p = 0
  · rw [if_pos h0] at K
    refine wa_aload_n dX6_fix_65 rfl ?_
    refine wa_aload_n dX6_fix_66 rfl ?_
    refine wa_getI dX6_fix_67 fgX6_216 (by first | assumption | rfl) (by rfl) ?_
    refine wa_if_eqT 81 dX6_fix_70 (by decide) (by rw [hp, h0]; rfl) ?_
    refine wa_iload_n dX6_fix_81 rfl ?_
    refine wa_goto 89 dX6_fix_82 (by decide) ?_
    refine wa_putI dX6_fix_89 fgX6_228 fw6_26 (by first | assumption | rfl) (by rfl) ?_
    exact K
  · rw [if_neg h0] at K
    unfold mnI at K
    refine wa_aload_n dX6_fix_65 rfl ?_
    refine wa_aload_n dX6_fix_66 rfl ?_
    refine wa_getI dX6_fix_67 fgX6_216 (by first | assumption | rfl) (by rfl) ?_
    refine wa_if_eqF 81 dX6_fix_70 (by decide) (by rw [hp, nI_toInt hp31]; omega) ?_
    refine wa_iload_n dX6_fix_73 rfl ?_
    refine wa_aload_n dX6_fix_74 rfl ?_
    refine wa_getI dX6_fix_75 fgX6_228 (by first | assumption | rfl) (by rfl) ?_
    refine wa_ic_ge 85 dX6_fix_78 (by decide) (fun c78_1 => ?_) (fun c78_1 => ?_)
    · try simp (disch := omega) only [nI_toInt, Int32.toInt_toInt64] at c78_1
      refine wa_aload_n dX6_fix_85 rfl ?_
      refine wa_getI dX6_fix_86 fgX6_228 (by first | assumption | rfl) (by rfl) ?_
      refine wa_putI dX6_fix_89 fgX6_228 fw6_26 (by first | assumption | rfl) (by rfl) ?_
      rw [if_neg (by omega)] at K; exact K
    · try simp (disch := omega) only [nI_toInt, Int32.toInt_toInt64] at c78_1
      refine wa_iload_n dX6_fix_81 rfl ?_
      refine wa_goto 89 dX6_fix_82 (by decide) ?_
      refine wa_putI dX6_fix_89 fgX6_228 fw6_26 (by first | assumption | rfl) (by rfl) ?_
      rw [if_pos (by omega)] at K; exact K
theorem fix_4 {d p : Nat} {x y : Int32} {ν : Mem} {Q : QM} (hp : ν.1 73 22 = nI p) (hp31 : p < 2 ^ 31) (K : WA kX6_fix d Q 119 [some (.ref 73), some (.int x), some (.int y), none, none, none, none] [] (sI ν 73 27 (if p = 0 then y else mxI (ν.1 73 27) y))) : WA kX6_fix d Q 92 [some (.ref 73), some (.int x), some (.int y), none, none, none, none] [] ν := by
  by_cases h0 : p = 0
  · rw [if_pos h0] at K
    refine wa_aload_n dX6_fix_92 rfl ?_
    refine wa_aload_n dX6_fix_93 rfl ?_
    refine wa_getI dX6_fix_94 fgX6_216 (by first | assumption | rfl) (by rfl) ?_
    refine wa_if_eqT 108 dX6_fix_97 (by decide) (by rw [hp, h0]; rfl) ?_
    refine wa_iload_n dX6_fix_108 rfl ?_
    refine wa_goto 116 dX6_fix_109 (by decide) ?_
    refine wa_putI dX6_fix_116 fgX6_231 fw6_27 (by first | assumption | rfl) (by rfl) ?_
    exact K
  · rw [if_neg h0] at K
    unfold mxI at K
    refine wa_aload_n dX6_fix_92 rfl ?_
    refine wa_aload_n dX6_fix_93 rfl ?_
    refine wa_getI dX6_fix_94 fgX6_216 (by first | assumption | rfl) (by rfl) ?_
    refine wa_if_eqF 108 dX6_fix_97 (by decide) (by rw [hp, nI_toInt hp31]; omega) ?_
    refine wa_iload_n dX6_fix_100 rfl ?_
    refine wa_aload_n dX6_fix_101 rfl ?_
    refine wa_getI dX6_fix_102 fgX6_231 (by first | assumption | rfl) (by rfl) ?_
    refine wa_ic_le 112 dX6_fix_105 (by decide) (fun c105_1 => ?_) (fun c105_1 => ?_)
    · try simp (disch := omega) only [nI_toInt, Int32.toInt_toInt64] at c105_1
      refine wa_aload_n dX6_fix_112 rfl ?_
      refine wa_getI dX6_fix_113 fgX6_231 (by first | assumption | rfl) (by rfl) ?_
      refine wa_putI dX6_fix_116 fgX6_231 fw6_27 (by first | assumption | rfl) (by rfl) ?_
      rw [if_neg (by omega)] at K; exact K
    · try simp (disch := omega) only [nI_toInt, Int32.toInt_toInt64] at c105_1
      refine wa_iload_n dX6_fix_108 rfl ?_
      refine wa_goto 116 dX6_fix_109 (by decide) ?_
      refine wa_putI dX6_fix_116 fgX6_231 fw6_27 (by first | assumption | rfl) (by rfl) ?_
      rw [if_pos (by omega)] at K; exact K
theorem mT_off {μ : Mem} {x y : Int32} {q : Nat} (h : q ≠ 5) : (mTake μ x y).1 q = μ.1 q := by
  unfold mTake
  split <;> simp (disch := omega) only [sI_off]
theorem mT_at {μ : Mem} {x y : Int32} {p : Nat} (hp : μ.1 5 4 = nI p) (hp31 : p < 2 ^ 31) : (mTake μ x y).1 5 3 = μ.1 5 3 ∧ (mTake μ x y).1 5 4 = nI (p + 1) ∧ (mTake μ x y).1 5 5 = μ.1 5 5 ∧ (mTake μ x y).1 5 6 = (if p = 0 then x else mnI (μ.1 5 6) x) ∧ (mTake μ x y).1 5 7 = (if p = 0 then x else mxI (μ.1 5 7) x) ∧ (mTake μ x y).1 5 8 = (if p = 0 then y else mnI (μ.1 5 8) y) ∧ (mTake μ x y).1 5 9 = (if p = 0 then y else mxI (μ.1 5 9) y) := by
  unfold mTake
  rw [hp, nI_toInt hp31, nI_add]
  by_cases h0 : p = 0
  · rw [if_pos (by omega), if_pos h0, if_pos h0, if_pos h0, if_pos h0]
    simp (disch := omega) only [r1e, r1m, and_self]
  · rw [if_neg (by omega), if_neg h0, if_neg h0, if_neg h0, if_neg h0]
    simp (disch := omega) only [r1e, r1m, and_self]
theorem z_sub32 {x y : Int32} (hx : -1000000 ≤ x.toInt ∧ x.toInt ≤ 1000000) (hy : -1000000 ≤ y.toInt ∧ y.toInt ≤ 1000000) : (x - y).toInt64 = x.toInt64 - y.toInt64 := by
  have ex : x = Int32.ofInt x.toInt := (Int32.ofInt_toInt x).symm
  have ey : y = Int32.ofInt y.toInt := (Int32.ofInt_toInt y).symm
  rw [ex, ey, ← Int32.ofInt_sub, z_32 (by omega) (by omega), z_32 (by omega) (by omega), z_32 (by omega) (by omega), Int64.ofInt_sub]
theorem pr_fix (x y : Int32) : PR kX5_fix kX6_fix [.int x, .int y] := by
  intro N μ d c hd hc hN hrel
  obtain ⟨p_, o_, l1_, l2_, b0_, b1_, b2_, b3_, m18_, m19_, m20_, m21_, n54_, n22_, n55_, n23_, x6_, x7_, x8_, x9_⟩ := hrel.2.2.2.2
  obtain ⟨t3_, t4_, t5_, t6_, t7_, t8_, t9_⟩ := mT_at (x := x) (y := y) n54_ (by omega)
  refine MW_of (by decide) [some (.ref 0), some (.int x), some (.int y)] rfl (Nat.le_of_ble_eq_true rfl) ?_
  refine wa_iload_n dX5_fix_0 rfl ?_
  refine wa_iload_n dX5_fix_1 rfl ?_
  refine wa_callS2 (k' := kX5_isPlace) (d' := 1) dX5_fix_2 lmX5_223 ksX5_isPlace (by decide) (by omega) (Nat.le_of_ble_eq_true rfl) ?_
  refine wp_X5_isPlace (by omega) (fun hpl => ?_) (fun hpl => ?_)
  · skip
    have e1_ := z_sub32 hpl.1 m18_; have e2_ := z_sub32 hpl.2 m19_
    refine wa_if_neT 11 dX5_fix_5 (by decide) (by decide) ?_
    refine wa_aload_n dX5_fix_11 rfl ?_
    refine wa_getR dX5_fix_12 fgX5_40 (by first | assumption | rfl) (by rfl) ?_
    refine wa_iload_n dX5_fix_15 rfl ?_
    refine wa_iload_n dX5_fix_16 rfl ?_
    refine wa_callV2 (k' := kX0_take) (d' := 1) dX5_fix_17 lmX5_230 kvX0_take (by first | assumption | rfl) (by rfl) (by decide) (by omega) (Nat.le_of_ble_eq_true rfl) ?_
    refine wp_X0_take (by omega) (fun ho_ => ?_) (fun ho_ => ?_)
    · skip
      unfold isOutP at ho_; rw [b0_, b1_, b2_] at ho_
      refine wa_aload_n dX5_fix_20 rfl ?_
      refine wa_getR dX5_fix_21 fgX5_40 (by first | assumption | rfl) (by rfl) ?_
      refine wa_callV0 (k' := kX0_state) (d' := 0) dX5_fix_24 lmX5_232 kvX0_state (by first | assumption | rfl) (by rfl) (by decide) (by omega) (Nat.le_of_ble_eq_true rfl) ?_
      refine wp_X0_state (fun hw_ => ?_) (fun hw_ hv_ => ?_) (fun hw_ hv_ => ?_)
      · skip
        simp (disch := omega) only [r1e, r1m, t3_, n55_, b3_, nI_add, nI_toInt] at hw_
        refine wa_iret dX5_fix_27 rfl ?_
        omega
      · skip
        simp (disch := omega) only [r1e, r1m, t3_, n55_, b3_, nI_add, nI_toInt] at hw_ hv_
        refine wa_iret dX5_fix_27 rfl ?_
        skip
        refine MW_of (by decide) [some (.ref 73), some (.int x), some (.int y), none, none, none, none] rfl (Nat.le_of_ble_eq_true rfl) ?_
        refine wa_iload_n dX6_fix_0 rfl ?_
        refine wa_iload_n dX6_fix_1 rfl ?_
        refine wa_callS2 (k' := kX6_isPlace) (d' := 1) dX6_fix_2 lmX6_204 ksX6_isPlace (by decide) (by omega) (Nat.le_of_ble_eq_true rfl) ?_
        refine wp_X6_isPlace (by omega) (fun hp_ => ?_) (fun hp_ => absurd hpl hp_)
        refine wa_if_neT 11 dX6_fix_5 (by decide) (by decide) ?_
        refine fix_1 (p := p_) (by simp (disch := omega) only [sI_off, r1m, mT_off]; exact n22_) (by omega) ?_
        refine fix_2 (p := p_) (by simp (disch := omega) only [sI_off, r1m, mT_off]; exact n22_) (by omega) ?_
        refine fix_3 (p := p_) (by simp (disch := omega) only [sI_off, r1m, mT_off]; exact n22_) (by omega) ?_
        refine fix_4 (p := p_) (by simp (disch := omega) only [sI_off, r1m, mT_off]; exact n22_) (by omega) ?_
        refine wa_aload_n dX6_fix_119 rfl ?_
        first | refine wa_dupr dX6_fix_120 ?_ | refine wa_dupi dX6_fix_120 ?_
        refine wa_getI dX6_fix_121 fgX6_216 (by first | assumption | rfl) (by rfl) ?_
        refine wa_iconst (nI 1) dX6_fix_124 (by decide) ?_
        refine wa_iadd dX6_fix_125 ?_
        refine wa_putI dX6_fix_126 fgX6_216 fw6_22 (by first | assumption | rfl) (by rfl) ?_
        refine wa_iload_n dX6_fix_129 rfl ?_
        refine wa_aload_n dX6_fix_130 rfl ?_
        refine wa_getI dX6_fix_131 fgX6_207 (by first | assumption | rfl) (by rfl) ?_
        refine wa_isub dX6_fix_134 ?_
        refine wa_i2l dX6_fix_135 ?_
        refine wa_lstore_n dX6_fix_136 (by decide) ?_
        refine wa_iload_n dX6_fix_137 rfl ?_
        refine wa_aload_n dX6_fix_138 rfl ?_
        refine wa_getI dX6_fix_139 fgX6_210 (by first | assumption | rfl) (by rfl) ?_
        refine wa_isub dX6_fix_142 ?_
        refine wa_i2l dX6_fix_143 ?_
        refine wa_lstore dX6_fix_144 (by decide) ?_
        refine wa_aload_n dX6_fix_146 rfl ?_
        refine wa_lload_n dX6_fix_147 rfl ?_
        refine wa_lload_n dX6_fix_148 rfl ?_
        refine wa_lmul dX6_fix_149 ?_
        refine wa_lload dX6_fix_150 rfl ?_
        refine wa_lload dX6_fix_152 rfl ?_
        refine wa_lmul dX6_fix_154 ?_
        refine wa_ladd dX6_fix_155 ?_
        refine wa_aload_n dX6_fix_156 rfl ?_
        refine wa_getI dX6_fix_157 fgX6_213 (by first | assumption | rfl) (by rfl) ?_
        refine wa_i2l dX6_fix_160 ?_
        refine wa_aload_n dX6_fix_161 rfl ?_
        refine wa_getI dX6_fix_162 fgX6_213 (by first | assumption | rfl) (by rfl) ?_
        refine wa_i2l dX6_fix_165 ?_
        refine wa_lmul dX6_fix_166 ?_
        refine wa_lc_le 180 dX6_fix_167 dX6_fix_168 (by decide) (fun c167_2 => ?_) (fun c167_2 => ?_)
        · try simp (disch := omega) only [nI_toInt, Int32.toInt_toInt64, not_true_eq_false, sI_off, sL_off, r1e, r1m, mT_off, mTake_l, r1l, r2l, m18_, m19_, m20_, m21_, n22_, n23_, e1_, e2_, nI_add] at c167_2
          try (exfalso; omega)
          all_goals
            skip
            refine wa_iconst (nI 0) dX6_fix_180 (by decide) ?_
            refine wa_putI dX6_fix_181 fgX6_219 fw6_23 (by first | assumption | rfl) (by rfl) ?_
            refine wa_aload_n dX6_fix_184 rfl ?_
            refine wa_getI dX6_fix_185 fgX6_219 (by first | assumption | rfl) (by rfl) ?_
            refine wa_aload_n dX6_fix_188 rfl ?_
            refine wa_getI dX6_fix_189 fgX6_46 (by first | assumption | rfl) (by rfl) ?_
            refine wa_ic_lt 199 dX6_fix_192 (by decide) (fun c192_3 => ?_) (fun c192_3 => ?_)
            · try simp (disch := omega) only [nI_toInt, Int32.toInt_toInt64, not_true_eq_false, sI_off, sL_off, r1e, r1m, mT_off, mTake_l, r1l, r2l, m18_, m19_, m20_, m21_, n22_, n23_, e1_, e2_, nI_add] at c192_3
              try (exfalso; omega)
              all_goals
                skip
                refine wa_aload_n dX6_fix_199 rfl ?_
                refine wa_getI dX6_fix_200 fgX6_219 (by first | assumption | rfl) (by rfl) ?_
                refine wa_if_le 210 dX6_fix_203 (by decide) (fun c203_4 => ?_) (fun c203_4 => ?_)
                · try simp (disch := omega) only [nI_toInt, Int32.toInt_toInt64, not_true_eq_false, sI_off, sL_off, r1e, r1m, mT_off, mTake_l, r1l, r2l, m18_, m19_, m20_, m21_, n22_, n23_, e1_, e2_, nI_add] at c203_4
                  try (exfalso; omega)
                  all_goals
                    skip
                    refine wa_iconst (nI 0) dX6_fix_210 (by decide) ?_
                    refine wa_iret dX6_fix_211 rfl ?_
                    refine ⟨rfl, ?_⟩
                    refine Rel_M hrel ?relm ?fs ?fr ?fp ?fw
                    case fs =>
                      intro j_ hj_
                      refine ⟨?_, ?_, ?_, ?_, ?_, ?_, fun i_ hi_ => ?_, fun i_ hi_ => ?_⟩
                      all_goals
                        simp (disch := omega) only [sI_off, bI_off, sL_off, bL_off, r1l, r2l, rb1l, rb2l, r1m, r2m, rb1e, rb2e,mT_off,mTake_l]
                    case fr =>
                      intro r_ hr_
                      refine ⟨?_, ?_, ?_, fun i_ hi_ => ?_⟩
                      all_goals
                        simp (disch := omega) only [sI_off, bI_off, sL_off, bL_off, r1l, r2l, rb1l, rb2l, r1m, r2m, rb1e, rb2e,mT_off,mTake_l]
                    case fp =>
                      refine ⟨?_, ?_, ?_, ?_, ?_⟩
                      all_goals
                        simp (disch := omega) only [sI_off, bI_off, sL_off, bL_off, r1l, r2l, rb1l, rb2l, r1m, r2m, rb1e, rb2e,mT_off,mTake_l]
                    case fw =>
                      refine ⟨?_, fun q_ ha_ hb_ => ?_⟩
                      all_goals
                        simp (disch := omega) only [sI_off, bI_off, sL_off, bL_off, r1l, r2l, rb1l, rb2l, r1m, r2m, rb1e, rb2e,mT_off,mTake_l]
                    case relm =>
                      refine ⟨p_ + 1, (o_ + 1), by omega, by omega, ?_, ?_, ?_, ?_, ?_, ?_, ?_, ?_, ?_, ?_, ?_, ?_, ?_, ?_, ?_, ?_⟩
                      all_goals simp (disch := omega) only [sI_off, sL_off, r1e, r1m, r2e, r2m, r1l, r2l, mT_off, mTake_l, t3_, t4_, t5_, t6_, t7_, t8_, t9_, n54_, n55_, n22_, n23_, nI_add, b0_, b1_, b2_, b3_, x6_, x7_, x8_, x9_]
                      all_goals first | exact m18_ | exact m19_ | exact m20_ | exact m21_
                · try simp (disch := omega) only [nI_toInt, Int32.toInt_toInt64, not_true_eq_false, sI_off, sL_off, r1e, r1m, mT_off, mTake_l, r1l, r2l, m18_, m19_, m20_, m21_, n22_, n23_, e1_, e2_, nI_add] at c203_4
                  try (exfalso; omega)
                  all_goals
                    skip
                    refine wa_iconst (nI 1) dX6_fix_206 (by decide) ?_
                    refine wa_goto 211 dX6_fix_207 (by decide) ?_
                    refine wa_iret dX6_fix_211 rfl ?_
                    refine ⟨rfl, ?_⟩
                    refine Rel_M hrel ?relm ?fs ?fr ?fp ?fw
                    case fs =>
                      intro j_ hj_
                      refine ⟨?_, ?_, ?_, ?_, ?_, ?_, fun i_ hi_ => ?_, fun i_ hi_ => ?_⟩
                      all_goals
                        simp (disch := omega) only [sI_off, bI_off, sL_off, bL_off, r1l, r2l, rb1l, rb2l, r1m, r2m, rb1e, rb2e,mT_off,mTake_l]
                    case fr =>
                      intro r_ hr_
                      refine ⟨?_, ?_, ?_, fun i_ hi_ => ?_⟩
                      all_goals
                        simp (disch := omega) only [sI_off, bI_off, sL_off, bL_off, r1l, r2l, rb1l, rb2l, r1m, r2m, rb1e, rb2e,mT_off,mTake_l]
                    case fp =>
                      refine ⟨?_, ?_, ?_, ?_, ?_⟩
                      all_goals
                        simp (disch := omega) only [sI_off, bI_off, sL_off, bL_off, r1l, r2l, rb1l, rb2l, r1m, r2m, rb1e, rb2e,mT_off,mTake_l]
                    case fw =>
                      refine ⟨?_, fun q_ ha_ hb_ => ?_⟩
                      all_goals
                        simp (disch := omega) only [sI_off, bI_off, sL_off, bL_off, r1l, r2l, rb1l, rb2l, r1m, r2m, rb1e, rb2e,mT_off,mTake_l]
                    case relm =>
                      refine ⟨p_ + 1, (o_ + 1), by omega, by omega, ?_, ?_, ?_, ?_, ?_, ?_, ?_, ?_, ?_, ?_, ?_, ?_, ?_, ?_, ?_, ?_⟩
                      all_goals simp (disch := omega) only [sI_off, sL_off, r1e, r1m, r2e, r2m, r1l, r2l, mT_off, mTake_l, t3_, t4_, t5_, t6_, t7_, t8_, t9_, n54_, n55_, n22_, n23_, nI_add, b0_, b1_, b2_, b3_, x6_, x7_, x8_, x9_]
                      all_goals first | exact m18_ | exact m19_ | exact m20_ | exact m21_
            · try simp (disch := omega) only [nI_toInt, Int32.toInt_toInt64, not_true_eq_false, sI_off, sL_off, r1e, r1m, mT_off, mTake_l, r1l, r2l, m18_, m19_, m20_, m21_, n22_, n23_, e1_, e2_, nI_add] at c192_3
              try (exfalso; omega)
              all_goals
                skip
                refine wa_iconst (nI 2) dX6_fix_195 (by decide) ?_
                refine wa_goto 211 dX6_fix_196 (by decide) ?_
                refine wa_iret dX6_fix_211 rfl ?_
                refine ⟨rfl, ?_⟩
                refine Rel_M hrel ?relm ?fs ?fr ?fp ?fw
                case fs =>
                  intro j_ hj_
                  refine ⟨?_, ?_, ?_, ?_, ?_, ?_, fun i_ hi_ => ?_, fun i_ hi_ => ?_⟩
                  all_goals
                    simp (disch := omega) only [sI_off, bI_off, sL_off, bL_off, r1l, r2l, rb1l, rb2l, r1m, r2m, rb1e, rb2e,mT_off,mTake_l]
                case fr =>
                  intro r_ hr_
                  refine ⟨?_, ?_, ?_, fun i_ hi_ => ?_⟩
                  all_goals
                    simp (disch := omega) only [sI_off, bI_off, sL_off, bL_off, r1l, r2l, rb1l, rb2l, r1m, r2m, rb1e, rb2e,mT_off,mTake_l]
                case fp =>
                  refine ⟨?_, ?_, ?_, ?_, ?_⟩
                  all_goals
                    simp (disch := omega) only [sI_off, bI_off, sL_off, bL_off, r1l, r2l, rb1l, rb2l, r1m, r2m, rb1e, rb2e,mT_off,mTake_l]
                case fw =>
                  refine ⟨?_, fun q_ ha_ hb_ => ?_⟩
                  all_goals
                    simp (disch := omega) only [sI_off, bI_off, sL_off, bL_off, r1l, r2l, rb1l, rb2l, r1m, r2m, rb1e, rb2e,mT_off,mTake_l]
                case relm =>
                  refine ⟨p_ + 1, (o_ + 1), by omega, by omega, ?_, ?_, ?_, ?_, ?_, ?_, ?_, ?_, ?_, ?_, ?_, ?_, ?_, ?_, ?_, ?_⟩
                  all_goals simp (disch := omega) only [sI_off, sL_off, r1e, r1m, r2e, r2m, r1l, r2l, mT_off, mTake_l, t3_, t4_, t5_, t6_, t7_, t8_, t9_, n54_, n55_, n22_, n23_, nI_add, b0_, b1_, b2_, b3_, x6_, x7_, x8_, x9_]
                  all_goals first | exact m18_ | exact m19_ | exact m20_ | exact m21_
        · try simp (disch := omega) only [nI_toInt, Int32.toInt_toInt64, not_true_eq_false, sI_off, sL_off, r1e, r1m, mT_off, mTake_l, r1l, r2l, m18_, m19_, m20_, m21_, n22_, n23_, e1_, e2_, nI_add] at c167_2
          try (exfalso; omega)
          all_goals
            skip
            refine wa_aload_n dX6_fix_171 rfl ?_
            refine wa_getI dX6_fix_172 fgX6_219 (by first | assumption | rfl) (by rfl) ?_
            refine wa_iconst (nI 1) dX6_fix_175 (by decide) ?_
            refine wa_iadd dX6_fix_176 ?_
            refine wa_goto 181 dX6_fix_177 (by decide) ?_
            refine wa_putI dX6_fix_181 fgX6_219 fw6_23 (by first | assumption | rfl) (by rfl) ?_
            refine wa_aload_n dX6_fix_184 rfl ?_
            refine wa_getI dX6_fix_185 fgX6_219 (by first | assumption | rfl) (by rfl) ?_
            refine wa_aload_n dX6_fix_188 rfl ?_
            refine wa_getI dX6_fix_189 fgX6_46 (by first | assumption | rfl) (by rfl) ?_
            refine wa_ic_lt 199 dX6_fix_192 (by decide) (fun c192_5 => ?_) (fun c192_5 => ?_)
            · try simp (disch := omega) only [nI_toInt, Int32.toInt_toInt64, not_true_eq_false, sI_off, sL_off, r1e, r1m, mT_off, mTake_l, r1l, r2l, m18_, m19_, m20_, m21_, n22_, n23_, e1_, e2_, nI_add] at c192_5
              try (exfalso; omega)
              all_goals
                skip
                refine wa_aload_n dX6_fix_199 rfl ?_
                refine wa_getI dX6_fix_200 fgX6_219 (by first | assumption | rfl) (by rfl) ?_
                refine wa_if_le 210 dX6_fix_203 (by decide) (fun c203_6 => ?_) (fun c203_6 => ?_)
                · try simp (disch := omega) only [nI_toInt, Int32.toInt_toInt64, not_true_eq_false, sI_off, sL_off, r1e, r1m, mT_off, mTake_l, r1l, r2l, m18_, m19_, m20_, m21_, n22_, n23_, e1_, e2_, nI_add] at c203_6
                  try (exfalso; omega)
                  all_goals
                    skip
                    refine wa_iconst (nI 0) dX6_fix_210 (by decide) ?_
                    refine wa_iret dX6_fix_211 rfl ?_
                    refine ⟨rfl, ?_⟩
                    refine Rel_M hrel ?relm ?fs ?fr ?fp ?fw
                    case fs =>
                      intro j_ hj_
                      refine ⟨?_, ?_, ?_, ?_, ?_, ?_, fun i_ hi_ => ?_, fun i_ hi_ => ?_⟩
                      all_goals
                        simp (disch := omega) only [sI_off, bI_off, sL_off, bL_off, r1l, r2l, rb1l, rb2l, r1m, r2m, rb1e, rb2e,mT_off,mTake_l]
                    case fr =>
                      intro r_ hr_
                      refine ⟨?_, ?_, ?_, fun i_ hi_ => ?_⟩
                      all_goals
                        simp (disch := omega) only [sI_off, bI_off, sL_off, bL_off, r1l, r2l, rb1l, rb2l, r1m, r2m, rb1e, rb2e,mT_off,mTake_l]
                    case fp =>
                      refine ⟨?_, ?_, ?_, ?_, ?_⟩
                      all_goals
                        simp (disch := omega) only [sI_off, bI_off, sL_off, bL_off, r1l, r2l, rb1l, rb2l, r1m, r2m, rb1e, rb2e,mT_off,mTake_l]
                    case fw =>
                      refine ⟨?_, fun q_ ha_ hb_ => ?_⟩
                      all_goals
                        simp (disch := omega) only [sI_off, bI_off, sL_off, bL_off, r1l, r2l, rb1l, rb2l, r1m, r2m, rb1e, rb2e,mT_off,mTake_l]
                    case relm =>
                      refine ⟨p_ + 1, (o_ + 1), by omega, by omega, ?_, ?_, ?_, ?_, ?_, ?_, ?_, ?_, ?_, ?_, ?_, ?_, ?_, ?_, ?_, ?_⟩
                      all_goals simp (disch := omega) only [sI_off, sL_off, r1e, r1m, r2e, r2m, r1l, r2l, mT_off, mTake_l, t3_, t4_, t5_, t6_, t7_, t8_, t9_, n54_, n55_, n22_, n23_, nI_add, b0_, b1_, b2_, b3_, x6_, x7_, x8_, x9_]
                      all_goals first | exact m18_ | exact m19_ | exact m20_ | exact m21_
                · try simp (disch := omega) only [nI_toInt, Int32.toInt_toInt64, not_true_eq_false, sI_off, sL_off, r1e, r1m, mT_off, mTake_l, r1l, r2l, m18_, m19_, m20_, m21_, n22_, n23_, e1_, e2_, nI_add] at c203_6
                  try (exfalso; omega)
                  all_goals
                    skip
                    refine wa_iconst (nI 1) dX6_fix_206 (by decide) ?_
                    refine wa_goto 211 dX6_fix_207 (by decide) ?_
                    refine wa_iret dX6_fix_211 rfl ?_
                    refine ⟨rfl, ?_⟩
                    refine Rel_M hrel ?relm ?fs ?fr ?fp ?fw
                    case fs =>
                      intro j_ hj_
                      refine ⟨?_, ?_, ?_, ?_, ?_, ?_, fun i_ hi_ => ?_, fun i_ hi_ => ?_⟩
                      all_goals
                        simp (disch := omega) only [sI_off, bI_off, sL_off, bL_off, r1l, r2l, rb1l, rb2l, r1m, r2m, rb1e, rb2e,mT_off,mTake_l]
                    case fr =>
                      intro r_ hr_
                      refine ⟨?_, ?_, ?_, fun i_ hi_ => ?_⟩
                      all_goals
                        simp (disch := omega) only [sI_off, bI_off, sL_off, bL_off, r1l, r2l, rb1l, rb2l, r1m, r2m, rb1e, rb2e,mT_off,mTake_l]
                    case fp =>
                      refine ⟨?_, ?_, ?_, ?_, ?_⟩
                      all_goals
                        simp (disch := omega) only [sI_off, bI_off, sL_off, bL_off, r1l, r2l, rb1l, rb2l, r1m, r2m, rb1e, rb2e,mT_off,mTake_l]
                    case fw =>
                      refine ⟨?_, fun q_ ha_ hb_ => ?_⟩
                      all_goals
                        simp (disch := omega) only [sI_off, bI_off, sL_off, bL_off, r1l, r2l, rb1l, rb2l, r1m, r2m, rb1e, rb2e,mT_off,mTake_l]
                    case relm =>
                      refine ⟨p_ + 1, (o_ + 1), by omega, by omega, ?_, ?_, ?_, ?_, ?_, ?_, ?_, ?_, ?_, ?_, ?_, ?_, ?_, ?_, ?_, ?_⟩
                      all_goals simp (disch := omega) only [sI_off, sL_off, r1e, r1m, r2e, r2m, r1l, r2l, mT_off, mTake_l, t3_, t4_, t5_, t6_, t7_, t8_, t9_, n54_, n55_, n22_, n23_, nI_add, b0_, b1_, b2_, b3_, x6_, x7_, x8_, x9_]
                      all_goals first | exact m18_ | exact m19_ | exact m20_ | exact m21_
            · try simp (disch := omega) only [nI_toInt, Int32.toInt_toInt64, not_true_eq_false, sI_off, sL_off, r1e, r1m, mT_off, mTake_l, r1l, r2l, m18_, m19_, m20_, m21_, n22_, n23_, e1_, e2_, nI_add] at c192_5
              try (exfalso; omega)
              all_goals
                skip
                refine wa_iconst (nI 2) dX6_fix_195 (by decide) ?_
                refine wa_goto 211 dX6_fix_196 (by decide) ?_
                refine wa_iret dX6_fix_211 rfl ?_
                refine ⟨rfl, ?_⟩
                refine Rel_M hrel ?relm ?fs ?fr ?fp ?fw
                case fs =>
                  intro j_ hj_
                  refine ⟨?_, ?_, ?_, ?_, ?_, ?_, fun i_ hi_ => ?_, fun i_ hi_ => ?_⟩
                  all_goals
                    simp (disch := omega) only [sI_off, bI_off, sL_off, bL_off, r1l, r2l, rb1l, rb2l, r1m, r2m, rb1e, rb2e,mT_off,mTake_l]
                case fr =>
                  intro r_ hr_
                  refine ⟨?_, ?_, ?_, fun i_ hi_ => ?_⟩
                  all_goals
                    simp (disch := omega) only [sI_off, bI_off, sL_off, bL_off, r1l, r2l, rb1l, rb2l, r1m, r2m, rb1e, rb2e,mT_off,mTake_l]
                case fp =>
                  refine ⟨?_, ?_, ?_, ?_, ?_⟩
                  all_goals
                    simp (disch := omega) only [sI_off, bI_off, sL_off, bL_off, r1l, r2l, rb1l, rb2l, r1m, r2m, rb1e, rb2e,mT_off,mTake_l]
                case fw =>
                  refine ⟨?_, fun q_ ha_ hb_ => ?_⟩
                  all_goals
                    simp (disch := omega) only [sI_off, bI_off, sL_off, bL_off, r1l, r2l, rb1l, rb2l, r1m, r2m, rb1e, rb2e,mT_off,mTake_l]
                case relm =>
                  refine ⟨p_ + 1, (o_ + 1), by omega, by omega, ?_, ?_, ?_, ?_, ?_, ?_, ?_, ?_, ?_, ?_, ?_, ?_, ?_, ?_, ?_, ?_⟩
                  all_goals simp (disch := omega) only [sI_off, sL_off, r1e, r1m, r2e, r2m, r1l, r2l, mT_off, mTake_l, t3_, t4_, t5_, t6_, t7_, t8_, t9_, n54_, n55_, n22_, n23_, nI_add, b0_, b1_, b2_, b3_, x6_, x7_, x8_, x9_]
                  all_goals first | exact m18_ | exact m19_ | exact m20_ | exact m21_
      · skip
        simp (disch := omega) only [r1e, r1m, t3_, n55_, b3_, nI_add, nI_toInt] at hw_ hv_
        refine wa_iret dX5_fix_27 rfl ?_
        skip
        refine MW_of (by decide) [some (.ref 73), some (.int x), some (.int y), none, none, none, none] rfl (Nat.le_of_ble_eq_true rfl) ?_
        refine wa_iload_n dX6_fix_0 rfl ?_
        refine wa_iload_n dX6_fix_1 rfl ?_
        refine wa_callS2 (k' := kX6_isPlace) (d' := 1) dX6_fix_2 lmX6_204 ksX6_isPlace (by decide) (by omega) (Nat.le_of_ble_eq_true rfl) ?_
        refine wp_X6_isPlace (by omega) (fun hp_ => ?_) (fun hp_ => absurd hpl hp_)
        refine wa_if_neT 11 dX6_fix_5 (by decide) (by decide) ?_
        refine fix_1 (p := p_) (by simp (disch := omega) only [sI_off, r1m, mT_off]; exact n22_) (by omega) ?_
        refine fix_2 (p := p_) (by simp (disch := omega) only [sI_off, r1m, mT_off]; exact n22_) (by omega) ?_
        refine fix_3 (p := p_) (by simp (disch := omega) only [sI_off, r1m, mT_off]; exact n22_) (by omega) ?_
        refine fix_4 (p := p_) (by simp (disch := omega) only [sI_off, r1m, mT_off]; exact n22_) (by omega) ?_
        refine wa_aload_n dX6_fix_119 rfl ?_
        first | refine wa_dupr dX6_fix_120 ?_ | refine wa_dupi dX6_fix_120 ?_
        refine wa_getI dX6_fix_121 fgX6_216 (by first | assumption | rfl) (by rfl) ?_
        refine wa_iconst (nI 1) dX6_fix_124 (by decide) ?_
        refine wa_iadd dX6_fix_125 ?_
        refine wa_putI dX6_fix_126 fgX6_216 fw6_22 (by first | assumption | rfl) (by rfl) ?_
        refine wa_iload_n dX6_fix_129 rfl ?_
        refine wa_aload_n dX6_fix_130 rfl ?_
        refine wa_getI dX6_fix_131 fgX6_207 (by first | assumption | rfl) (by rfl) ?_
        refine wa_isub dX6_fix_134 ?_
        refine wa_i2l dX6_fix_135 ?_
        refine wa_lstore_n dX6_fix_136 (by decide) ?_
        refine wa_iload_n dX6_fix_137 rfl ?_
        refine wa_aload_n dX6_fix_138 rfl ?_
        refine wa_getI dX6_fix_139 fgX6_210 (by first | assumption | rfl) (by rfl) ?_
        refine wa_isub dX6_fix_142 ?_
        refine wa_i2l dX6_fix_143 ?_
        refine wa_lstore dX6_fix_144 (by decide) ?_
        refine wa_aload_n dX6_fix_146 rfl ?_
        refine wa_lload_n dX6_fix_147 rfl ?_
        refine wa_lload_n dX6_fix_148 rfl ?_
        refine wa_lmul dX6_fix_149 ?_
        refine wa_lload dX6_fix_150 rfl ?_
        refine wa_lload dX6_fix_152 rfl ?_
        refine wa_lmul dX6_fix_154 ?_
        refine wa_ladd dX6_fix_155 ?_
        refine wa_aload_n dX6_fix_156 rfl ?_
        refine wa_getI dX6_fix_157 fgX6_213 (by first | assumption | rfl) (by rfl) ?_
        refine wa_i2l dX6_fix_160 ?_
        refine wa_aload_n dX6_fix_161 rfl ?_
        refine wa_getI dX6_fix_162 fgX6_213 (by first | assumption | rfl) (by rfl) ?_
        refine wa_i2l dX6_fix_165 ?_
        refine wa_lmul dX6_fix_166 ?_
        refine wa_lc_le 180 dX6_fix_167 dX6_fix_168 (by decide) (fun c167_2 => ?_) (fun c167_2 => ?_)
        · try simp (disch := omega) only [nI_toInt, Int32.toInt_toInt64, not_true_eq_false, sI_off, sL_off, r1e, r1m, mT_off, mTake_l, r1l, r2l, m18_, m19_, m20_, m21_, n22_, n23_, e1_, e2_, nI_add] at c167_2
          try (exfalso; omega)
          all_goals
            skip
            refine wa_iconst (nI 0) dX6_fix_180 (by decide) ?_
            refine wa_putI dX6_fix_181 fgX6_219 fw6_23 (by first | assumption | rfl) (by rfl) ?_
            refine wa_aload_n dX6_fix_184 rfl ?_
            refine wa_getI dX6_fix_185 fgX6_219 (by first | assumption | rfl) (by rfl) ?_
            refine wa_aload_n dX6_fix_188 rfl ?_
            refine wa_getI dX6_fix_189 fgX6_46 (by first | assumption | rfl) (by rfl) ?_
            refine wa_ic_lt 199 dX6_fix_192 (by decide) (fun c192_3 => ?_) (fun c192_3 => ?_)
            · try simp (disch := omega) only [nI_toInt, Int32.toInt_toInt64, not_true_eq_false, sI_off, sL_off, r1e, r1m, mT_off, mTake_l, r1l, r2l, m18_, m19_, m20_, m21_, n22_, n23_, e1_, e2_, nI_add] at c192_3
              try (exfalso; omega)
              all_goals
                skip
                refine wa_aload_n dX6_fix_199 rfl ?_
                refine wa_getI dX6_fix_200 fgX6_219 (by first | assumption | rfl) (by rfl) ?_
                refine wa_if_le 210 dX6_fix_203 (by decide) (fun c203_4 => ?_) (fun c203_4 => ?_)
                · try simp (disch := omega) only [nI_toInt, Int32.toInt_toInt64, not_true_eq_false, sI_off, sL_off, r1e, r1m, mT_off, mTake_l, r1l, r2l, m18_, m19_, m20_, m21_, n22_, n23_, e1_, e2_, nI_add] at c203_4
                  try (exfalso; omega)
                  all_goals
                    skip
                    refine wa_iconst (nI 0) dX6_fix_210 (by decide) ?_
                    refine wa_iret dX6_fix_211 rfl ?_
                    refine ⟨rfl, ?_⟩
                    refine Rel_M hrel ?relm ?fs ?fr ?fp ?fw
                    case fs =>
                      intro j_ hj_
                      refine ⟨?_, ?_, ?_, ?_, ?_, ?_, fun i_ hi_ => ?_, fun i_ hi_ => ?_⟩
                      all_goals
                        simp (disch := omega) only [sI_off, bI_off, sL_off, bL_off, r1l, r2l, rb1l, rb2l, r1m, r2m, rb1e, rb2e,mT_off,mTake_l]
                    case fr =>
                      intro r_ hr_
                      refine ⟨?_, ?_, ?_, fun i_ hi_ => ?_⟩
                      all_goals
                        simp (disch := omega) only [sI_off, bI_off, sL_off, bL_off, r1l, r2l, rb1l, rb2l, r1m, r2m, rb1e, rb2e,mT_off,mTake_l]
                    case fp =>
                      refine ⟨?_, ?_, ?_, ?_, ?_⟩
                      all_goals
                        simp (disch := omega) only [sI_off, bI_off, sL_off, bL_off, r1l, r2l, rb1l, rb2l, r1m, r2m, rb1e, rb2e,mT_off,mTake_l]
                    case fw =>
                      refine ⟨?_, fun q_ ha_ hb_ => ?_⟩
                      all_goals
                        simp (disch := omega) only [sI_off, bI_off, sL_off, bL_off, r1l, r2l, rb1l, rb2l, r1m, r2m, rb1e, rb2e,mT_off,mTake_l]
                    case relm =>
                      refine ⟨p_ + 1, (o_ + 1), by omega, by omega, ?_, ?_, ?_, ?_, ?_, ?_, ?_, ?_, ?_, ?_, ?_, ?_, ?_, ?_, ?_, ?_⟩
                      all_goals simp (disch := omega) only [sI_off, sL_off, r1e, r1m, r2e, r2m, r1l, r2l, mT_off, mTake_l, t3_, t4_, t5_, t6_, t7_, t8_, t9_, n54_, n55_, n22_, n23_, nI_add, b0_, b1_, b2_, b3_, x6_, x7_, x8_, x9_]
                      all_goals first | exact m18_ | exact m19_ | exact m20_ | exact m21_
                · try simp (disch := omega) only [nI_toInt, Int32.toInt_toInt64, not_true_eq_false, sI_off, sL_off, r1e, r1m, mT_off, mTake_l, r1l, r2l, m18_, m19_, m20_, m21_, n22_, n23_, e1_, e2_, nI_add] at c203_4
                  try (exfalso; omega)
                  all_goals
                    skip
                    refine wa_iconst (nI 1) dX6_fix_206 (by decide) ?_
                    refine wa_goto 211 dX6_fix_207 (by decide) ?_
                    refine wa_iret dX6_fix_211 rfl ?_
                    refine ⟨rfl, ?_⟩
                    refine Rel_M hrel ?relm ?fs ?fr ?fp ?fw
                    case fs =>
                      intro j_ hj_
                      refine ⟨?_, ?_, ?_, ?_, ?_, ?_, fun i_ hi_ => ?_, fun i_ hi_ => ?_⟩
                      all_goals
                        simp (disch := omega) only [sI_off, bI_off, sL_off, bL_off, r1l, r2l, rb1l, rb2l, r1m, r2m, rb1e, rb2e,mT_off,mTake_l]
                    case fr =>
                      intro r_ hr_
                      refine ⟨?_, ?_, ?_, fun i_ hi_ => ?_⟩
                      all_goals
                        simp (disch := omega) only [sI_off, bI_off, sL_off, bL_off, r1l, r2l, rb1l, rb2l, r1m, r2m, rb1e, rb2e,mT_off,mTake_l]
                    case fp =>
                      refine ⟨?_, ?_, ?_, ?_, ?_⟩
                      all_goals
                        simp (disch := omega) only [sI_off, bI_off, sL_off, bL_off, r1l, r2l, rb1l, rb2l, r1m, r2m, rb1e, rb2e,mT_off,mTake_l]
                    case fw =>
                      refine ⟨?_, fun q_ ha_ hb_ => ?_⟩
                      all_goals
                        simp (disch := omega) only [sI_off, bI_off, sL_off, bL_off, r1l, r2l, rb1l, rb2l, r1m, r2m, rb1e, rb2e,mT_off,mTake_l]
                    case relm =>
                      refine ⟨p_ + 1, (o_ + 1), by omega, by omega, ?_, ?_, ?_, ?_, ?_, ?_, ?_, ?_, ?_, ?_, ?_, ?_, ?_, ?_, ?_, ?_⟩
                      all_goals simp (disch := omega) only [sI_off, sL_off, r1e, r1m, r2e, r2m, r1l, r2l, mT_off, mTake_l, t3_, t4_, t5_, t6_, t7_, t8_, t9_, n54_, n55_, n22_, n23_, nI_add, b0_, b1_, b2_, b3_, x6_, x7_, x8_, x9_]
                      all_goals first | exact m18_ | exact m19_ | exact m20_ | exact m21_
            · try simp (disch := omega) only [nI_toInt, Int32.toInt_toInt64, not_true_eq_false, sI_off, sL_off, r1e, r1m, mT_off, mTake_l, r1l, r2l, m18_, m19_, m20_, m21_, n22_, n23_, e1_, e2_, nI_add] at c192_3
              try (exfalso; omega)
              all_goals
                skip
                refine wa_iconst (nI 2) dX6_fix_195 (by decide) ?_
                refine wa_goto 211 dX6_fix_196 (by decide) ?_
                refine wa_iret dX6_fix_211 rfl ?_
                refine ⟨rfl, ?_⟩
                refine Rel_M hrel ?relm ?fs ?fr ?fp ?fw
                case fs =>
                  intro j_ hj_
                  refine ⟨?_, ?_, ?_, ?_, ?_, ?_, fun i_ hi_ => ?_, fun i_ hi_ => ?_⟩
                  all_goals
                    simp (disch := omega) only [sI_off, bI_off, sL_off, bL_off, r1l, r2l, rb1l, rb2l, r1m, r2m, rb1e, rb2e,mT_off,mTake_l]
                case fr =>
                  intro r_ hr_
                  refine ⟨?_, ?_, ?_, fun i_ hi_ => ?_⟩
                  all_goals
                    simp (disch := omega) only [sI_off, bI_off, sL_off, bL_off, r1l, r2l, rb1l, rb2l, r1m, r2m, rb1e, rb2e,mT_off,mTake_l]
                case fp =>
                  refine ⟨?_, ?_, ?_, ?_, ?_⟩
                  all_goals
                    simp (disch := omega) only [sI_off, bI_off, sL_off, bL_off, r1l, r2l, rb1l, rb2l, r1m, r2m, rb1e, rb2e,mT_off,mTake_l]
                case fw =>
                  refine ⟨?_, fun q_ ha_ hb_ => ?_⟩
                  all_goals
                    simp (disch := omega) only [sI_off, bI_off, sL_off, bL_off, r1l, r2l, rb1l, rb2l, r1m, r2m, rb1e, rb2e,mT_off,mTake_l]
                case relm =>
                  refine ⟨p_ + 1, (o_ + 1), by omega, by omega, ?_, ?_, ?_, ?_, ?_, ?_, ?_, ?_, ?_, ?_, ?_, ?_, ?_, ?_, ?_, ?_⟩
                  all_goals simp (disch := omega) only [sI_off, sL_off, r1e, r1m, r2e, r2m, r1l, r2l, mT_off, mTake_l, t3_, t4_, t5_, t6_, t7_, t8_, t9_, n54_, n55_, n22_, n23_, nI_add, b0_, b1_, b2_, b3_, x6_, x7_, x8_, x9_]
                  all_goals first | exact m18_ | exact m19_ | exact m20_ | exact m21_
        · try simp (disch := omega) only [nI_toInt, Int32.toInt_toInt64, not_true_eq_false, sI_off, sL_off, r1e, r1m, mT_off, mTake_l, r1l, r2l, m18_, m19_, m20_, m21_, n22_, n23_, e1_, e2_, nI_add] at c167_2
          try (exfalso; omega)
          all_goals
            skip
            refine wa_aload_n dX6_fix_171 rfl ?_
            refine wa_getI dX6_fix_172 fgX6_219 (by first | assumption | rfl) (by rfl) ?_
            refine wa_iconst (nI 1) dX6_fix_175 (by decide) ?_
            refine wa_iadd dX6_fix_176 ?_
            refine wa_goto 181 dX6_fix_177 (by decide) ?_
            refine wa_putI dX6_fix_181 fgX6_219 fw6_23 (by first | assumption | rfl) (by rfl) ?_
            refine wa_aload_n dX6_fix_184 rfl ?_
            refine wa_getI dX6_fix_185 fgX6_219 (by first | assumption | rfl) (by rfl) ?_
            refine wa_aload_n dX6_fix_188 rfl ?_
            refine wa_getI dX6_fix_189 fgX6_46 (by first | assumption | rfl) (by rfl) ?_
            refine wa_ic_lt 199 dX6_fix_192 (by decide) (fun c192_5 => ?_) (fun c192_5 => ?_)
            · try simp (disch := omega) only [nI_toInt, Int32.toInt_toInt64, not_true_eq_false, sI_off, sL_off, r1e, r1m, mT_off, mTake_l, r1l, r2l, m18_, m19_, m20_, m21_, n22_, n23_, e1_, e2_, nI_add] at c192_5
              try (exfalso; omega)
              all_goals
                skip
                refine wa_aload_n dX6_fix_199 rfl ?_
                refine wa_getI dX6_fix_200 fgX6_219 (by first | assumption | rfl) (by rfl) ?_
                refine wa_if_le 210 dX6_fix_203 (by decide) (fun c203_6 => ?_) (fun c203_6 => ?_)
                · try simp (disch := omega) only [nI_toInt, Int32.toInt_toInt64, not_true_eq_false, sI_off, sL_off, r1e, r1m, mT_off, mTake_l, r1l, r2l, m18_, m19_, m20_, m21_, n22_, n23_, e1_, e2_, nI_add] at c203_6
                  try (exfalso; omega)
                  all_goals
                    skip
                    refine wa_iconst (nI 0) dX6_fix_210 (by decide) ?_
                    refine wa_iret dX6_fix_211 rfl ?_
                    refine ⟨rfl, ?_⟩
                    refine Rel_M hrel ?relm ?fs ?fr ?fp ?fw
                    case fs =>
                      intro j_ hj_
                      refine ⟨?_, ?_, ?_, ?_, ?_, ?_, fun i_ hi_ => ?_, fun i_ hi_ => ?_⟩
                      all_goals
                        simp (disch := omega) only [sI_off, bI_off, sL_off, bL_off, r1l, r2l, rb1l, rb2l, r1m, r2m, rb1e, rb2e,mT_off,mTake_l]
                    case fr =>
                      intro r_ hr_
                      refine ⟨?_, ?_, ?_, fun i_ hi_ => ?_⟩
                      all_goals
                        simp (disch := omega) only [sI_off, bI_off, sL_off, bL_off, r1l, r2l, rb1l, rb2l, r1m, r2m, rb1e, rb2e,mT_off,mTake_l]
                    case fp =>
                      refine ⟨?_, ?_, ?_, ?_, ?_⟩
                      all_goals
                        simp (disch := omega) only [sI_off, bI_off, sL_off, bL_off, r1l, r2l, rb1l, rb2l, r1m, r2m, rb1e, rb2e,mT_off,mTake_l]
                    case fw =>
                      refine ⟨?_, fun q_ ha_ hb_ => ?_⟩
                      all_goals
                        simp (disch := omega) only [sI_off, bI_off, sL_off, bL_off, r1l, r2l, rb1l, rb2l, r1m, r2m, rb1e, rb2e,mT_off,mTake_l]
                    case relm =>
                      refine ⟨p_ + 1, (o_ + 1), by omega, by omega, ?_, ?_, ?_, ?_, ?_, ?_, ?_, ?_, ?_, ?_, ?_, ?_, ?_, ?_, ?_, ?_⟩
                      all_goals simp (disch := omega) only [sI_off, sL_off, r1e, r1m, r2e, r2m, r1l, r2l, mT_off, mTake_l, t3_, t4_, t5_, t6_, t7_, t8_, t9_, n54_, n55_, n22_, n23_, nI_add, b0_, b1_, b2_, b3_, x6_, x7_, x8_, x9_]
                      all_goals first | exact m18_ | exact m19_ | exact m20_ | exact m21_
                · try simp (disch := omega) only [nI_toInt, Int32.toInt_toInt64, not_true_eq_false, sI_off, sL_off, r1e, r1m, mT_off, mTake_l, r1l, r2l, m18_, m19_, m20_, m21_, n22_, n23_, e1_, e2_, nI_add] at c203_6
                  try (exfalso; omega)
                  all_goals
                    skip
                    refine wa_iconst (nI 1) dX6_fix_206 (by decide) ?_
                    refine wa_goto 211 dX6_fix_207 (by decide) ?_
                    refine wa_iret dX6_fix_211 rfl ?_
                    refine ⟨rfl, ?_⟩
                    refine Rel_M hrel ?relm ?fs ?fr ?fp ?fw
                    case fs =>
                      intro j_ hj_
                      refine ⟨?_, ?_, ?_, ?_, ?_, ?_, fun i_ hi_ => ?_, fun i_ hi_ => ?_⟩
                      all_goals
                        simp (disch := omega) only [sI_off, bI_off, sL_off, bL_off, r1l, r2l, rb1l, rb2l, r1m, r2m, rb1e, rb2e,mT_off,mTake_l]
                    case fr =>
                      intro r_ hr_
                      refine ⟨?_, ?_, ?_, fun i_ hi_ => ?_⟩
                      all_goals
                        simp (disch := omega) only [sI_off, bI_off, sL_off, bL_off, r1l, r2l, rb1l, rb2l, r1m, r2m, rb1e, rb2e,mT_off,mTake_l]
                    case fp =>
                      refine ⟨?_, ?_, ?_, ?_, ?_⟩
                      all_goals
                        simp (disch := omega) only [sI_off, bI_off, sL_off, bL_off, r1l, r2l, rb1l, rb2l, r1m, r2m, rb1e, rb2e,mT_off,mTake_l]
                    case fw =>
                      refine ⟨?_, fun q_ ha_ hb_ => ?_⟩
                      all_goals
                        simp (disch := omega) only [sI_off, bI_off, sL_off, bL_off, r1l, r2l, rb1l, rb2l, r1m, r2m, rb1e, rb2e,mT_off,mTake_l]
                    case relm =>
                      refine ⟨p_ + 1, (o_ + 1), by omega, by omega, ?_, ?_, ?_, ?_, ?_, ?_, ?_, ?_, ?_, ?_, ?_, ?_, ?_, ?_, ?_, ?_⟩
                      all_goals simp (disch := omega) only [sI_off, sL_off, r1e, r1m, r2e, r2m, r1l, r2l, mT_off, mTake_l, t3_, t4_, t5_, t6_, t7_, t8_, t9_, n54_, n55_, n22_, n23_, nI_add, b0_, b1_, b2_, b3_, x6_, x7_, x8_, x9_]
                      all_goals first | exact m18_ | exact m19_ | exact m20_ | exact m21_
            · try simp (disch := omega) only [nI_toInt, Int32.toInt_toInt64, not_true_eq_false, sI_off, sL_off, r1e, r1m, mT_off, mTake_l, r1l, r2l, m18_, m19_, m20_, m21_, n22_, n23_, e1_, e2_, nI_add] at c192_5
              try (exfalso; omega)
              all_goals
                skip
                refine wa_iconst (nI 2) dX6_fix_195 (by decide) ?_
                refine wa_goto 211 dX6_fix_196 (by decide) ?_
                refine wa_iret dX6_fix_211 rfl ?_
                refine ⟨rfl, ?_⟩
                refine Rel_M hrel ?relm ?fs ?fr ?fp ?fw
                case fs =>
                  intro j_ hj_
                  refine ⟨?_, ?_, ?_, ?_, ?_, ?_, fun i_ hi_ => ?_, fun i_ hi_ => ?_⟩
                  all_goals
                    simp (disch := omega) only [sI_off, bI_off, sL_off, bL_off, r1l, r2l, rb1l, rb2l, r1m, r2m, rb1e, rb2e,mT_off,mTake_l]
                case fr =>
                  intro r_ hr_
                  refine ⟨?_, ?_, ?_, fun i_ hi_ => ?_⟩
                  all_goals
                    simp (disch := omega) only [sI_off, bI_off, sL_off, bL_off, r1l, r2l, rb1l, rb2l, r1m, r2m, rb1e, rb2e,mT_off,mTake_l]
                case fp =>
                  refine ⟨?_, ?_, ?_, ?_, ?_⟩
                  all_goals
                    simp (disch := omega) only [sI_off, bI_off, sL_off, bL_off, r1l, r2l, rb1l, rb2l, r1m, r2m, rb1e, rb2e,mT_off,mTake_l]
                case fw =>
                  refine ⟨?_, fun q_ ha_ hb_ => ?_⟩
                  all_goals
                    simp (disch := omega) only [sI_off, bI_off, sL_off, bL_off, r1l, r2l, rb1l, rb2l, r1m, r2m, rb1e, rb2e,mT_off,mTake_l]
                case relm =>
                  refine ⟨p_ + 1, (o_ + 1), by omega, by omega, ?_, ?_, ?_, ?_, ?_, ?_, ?_, ?_, ?_, ?_, ?_, ?_, ?_, ?_, ?_, ?_⟩
                  all_goals simp (disch := omega) only [sI_off, sL_off, r1e, r1m, r2e, r2m, r1l, r2l, mT_off, mTake_l, t3_, t4_, t5_, t6_, t7_, t8_, t9_, n54_, n55_, n22_, n23_, nI_add, b0_, b1_, b2_, b3_, x6_, x7_, x8_, x9_]
                  all_goals first | exact m18_ | exact m19_ | exact m20_ | exact m21_
    · skip
      unfold isOutP at ho_; rw [b0_, b1_, b2_] at ho_
      refine wa_aload_n dX5_fix_20 rfl ?_
      refine wa_getR dX5_fix_21 fgX5_40 (by first | assumption | rfl) (by rfl) ?_
      refine wa_callV0 (k' := kX0_state) (d' := 0) dX5_fix_24 lmX5_232 kvX0_state (by first | assumption | rfl) (by rfl) (by decide) (by omega) (Nat.le_of_ble_eq_true rfl) ?_
      refine wp_X0_state (fun hw_ => ?_) (fun hw_ hv_ => ?_) (fun hw_ hv_ => ?_)
      · skip
        simp (disch := omega) only [r1e, r1m, t3_, n55_, b3_, nI_add, nI_toInt] at hw_
        refine wa_iret dX5_fix_27 rfl ?_
        skip
        refine MW_of (by decide) [some (.ref 73), some (.int x), some (.int y), none, none, none, none] rfl (Nat.le_of_ble_eq_true rfl) ?_
        refine wa_iload_n dX6_fix_0 rfl ?_
        refine wa_iload_n dX6_fix_1 rfl ?_
        refine wa_callS2 (k' := kX6_isPlace) (d' := 1) dX6_fix_2 lmX6_204 ksX6_isPlace (by decide) (by omega) (Nat.le_of_ble_eq_true rfl) ?_
        refine wp_X6_isPlace (by omega) (fun hp_ => ?_) (fun hp_ => absurd hpl hp_)
        refine wa_if_neT 11 dX6_fix_5 (by decide) (by decide) ?_
        refine fix_1 (p := p_) (by simp (disch := omega) only [sI_off, r1m, mT_off]; exact n22_) (by omega) ?_
        refine fix_2 (p := p_) (by simp (disch := omega) only [sI_off, r1m, mT_off]; exact n22_) (by omega) ?_
        refine fix_3 (p := p_) (by simp (disch := omega) only [sI_off, r1m, mT_off]; exact n22_) (by omega) ?_
        refine fix_4 (p := p_) (by simp (disch := omega) only [sI_off, r1m, mT_off]; exact n22_) (by omega) ?_
        refine wa_aload_n dX6_fix_119 rfl ?_
        first | refine wa_dupr dX6_fix_120 ?_ | refine wa_dupi dX6_fix_120 ?_
        refine wa_getI dX6_fix_121 fgX6_216 (by first | assumption | rfl) (by rfl) ?_
        refine wa_iconst (nI 1) dX6_fix_124 (by decide) ?_
        refine wa_iadd dX6_fix_125 ?_
        refine wa_putI dX6_fix_126 fgX6_216 fw6_22 (by first | assumption | rfl) (by rfl) ?_
        refine wa_iload_n dX6_fix_129 rfl ?_
        refine wa_aload_n dX6_fix_130 rfl ?_
        refine wa_getI dX6_fix_131 fgX6_207 (by first | assumption | rfl) (by rfl) ?_
        refine wa_isub dX6_fix_134 ?_
        refine wa_i2l dX6_fix_135 ?_
        refine wa_lstore_n dX6_fix_136 (by decide) ?_
        refine wa_iload_n dX6_fix_137 rfl ?_
        refine wa_aload_n dX6_fix_138 rfl ?_
        refine wa_getI dX6_fix_139 fgX6_210 (by first | assumption | rfl) (by rfl) ?_
        refine wa_isub dX6_fix_142 ?_
        refine wa_i2l dX6_fix_143 ?_
        refine wa_lstore dX6_fix_144 (by decide) ?_
        refine wa_aload_n dX6_fix_146 rfl ?_
        refine wa_lload_n dX6_fix_147 rfl ?_
        refine wa_lload_n dX6_fix_148 rfl ?_
        refine wa_lmul dX6_fix_149 ?_
        refine wa_lload dX6_fix_150 rfl ?_
        refine wa_lload dX6_fix_152 rfl ?_
        refine wa_lmul dX6_fix_154 ?_
        refine wa_ladd dX6_fix_155 ?_
        refine wa_aload_n dX6_fix_156 rfl ?_
        refine wa_getI dX6_fix_157 fgX6_213 (by first | assumption | rfl) (by rfl) ?_
        refine wa_i2l dX6_fix_160 ?_
        refine wa_aload_n dX6_fix_161 rfl ?_
        refine wa_getI dX6_fix_162 fgX6_213 (by first | assumption | rfl) (by rfl) ?_
        refine wa_i2l dX6_fix_165 ?_
        refine wa_lmul dX6_fix_166 ?_
        refine wa_lc_le 180 dX6_fix_167 dX6_fix_168 (by decide) (fun c167_2 => ?_) (fun c167_2 => ?_)
        · try simp (disch := omega) only [nI_toInt, Int32.toInt_toInt64, not_true_eq_false, sI_off, sL_off, r1e, r1m, mT_off, mTake_l, r1l, r2l, m18_, m19_, m20_, m21_, n22_, n23_, e1_, e2_, nI_add] at c167_2
          try (exfalso; omega)
          all_goals
            skip
            refine wa_iconst (nI 0) dX6_fix_180 (by decide) ?_
            refine wa_putI dX6_fix_181 fgX6_219 fw6_23 (by first | assumption | rfl) (by rfl) ?_
            refine wa_aload_n dX6_fix_184 rfl ?_
            refine wa_getI dX6_fix_185 fgX6_219 (by first | assumption | rfl) (by rfl) ?_
            refine wa_aload_n dX6_fix_188 rfl ?_
            refine wa_getI dX6_fix_189 fgX6_46 (by first | assumption | rfl) (by rfl) ?_
            refine wa_ic_lt 199 dX6_fix_192 (by decide) (fun c192_3 => ?_) (fun c192_3 => ?_)
            · try simp (disch := omega) only [nI_toInt, Int32.toInt_toInt64, not_true_eq_false, sI_off, sL_off, r1e, r1m, mT_off, mTake_l, r1l, r2l, m18_, m19_, m20_, m21_, n22_, n23_, e1_, e2_, nI_add] at c192_3
              try (exfalso; omega)
              all_goals
                skip
                refine wa_aload_n dX6_fix_199 rfl ?_
                refine wa_getI dX6_fix_200 fgX6_219 (by first | assumption | rfl) (by rfl) ?_
                refine wa_if_le 210 dX6_fix_203 (by decide) (fun c203_4 => ?_) (fun c203_4 => ?_)
                · try simp (disch := omega) only [nI_toInt, Int32.toInt_toInt64, not_true_eq_false, sI_off, sL_off, r1e, r1m, mT_off, mTake_l, r1l, r2l, m18_, m19_, m20_, m21_, n22_, n23_, e1_, e2_, nI_add] at c203_4
                  try (exfalso; omega)
                  all_goals
                    skip
                    refine wa_iconst (nI 0) dX6_fix_210 (by decide) ?_
                    refine wa_iret dX6_fix_211 rfl ?_
                    refine ⟨rfl, ?_⟩
                    refine Rel_M hrel ?relm ?fs ?fr ?fp ?fw
                    case fs =>
                      intro j_ hj_
                      refine ⟨?_, ?_, ?_, ?_, ?_, ?_, fun i_ hi_ => ?_, fun i_ hi_ => ?_⟩
                      all_goals
                        simp (disch := omega) only [sI_off, bI_off, sL_off, bL_off, r1l, r2l, rb1l, rb2l, r1m, r2m, rb1e, rb2e,mT_off,mTake_l]
                    case fr =>
                      intro r_ hr_
                      refine ⟨?_, ?_, ?_, fun i_ hi_ => ?_⟩
                      all_goals
                        simp (disch := omega) only [sI_off, bI_off, sL_off, bL_off, r1l, r2l, rb1l, rb2l, r1m, r2m, rb1e, rb2e,mT_off,mTake_l]
                    case fp =>
                      refine ⟨?_, ?_, ?_, ?_, ?_⟩
                      all_goals
                        simp (disch := omega) only [sI_off, bI_off, sL_off, bL_off, r1l, r2l, rb1l, rb2l, r1m, r2m, rb1e, rb2e,mT_off,mTake_l]
                    case fw =>
                      refine ⟨?_, fun q_ ha_ hb_ => ?_⟩
                      all_goals
                        simp (disch := omega) only [sI_off, bI_off, sL_off, bL_off, r1l, r2l, rb1l, rb2l, r1m, r2m, rb1e, rb2e,mT_off,mTake_l]
                    case relm =>
                      refine ⟨p_ + 1, 0, by omega, by omega, ?_, ?_, ?_, ?_, ?_, ?_, ?_, ?_, ?_, ?_, ?_, ?_, ?_, ?_, ?_, ?_⟩
                      all_goals simp (disch := omega) only [sI_off, sL_off, r1e, r1m, r2e, r2m, r1l, r2l, mT_off, mTake_l, t3_, t4_, t5_, t6_, t7_, t8_, t9_, n54_, n55_, n22_, n23_, nI_add, b0_, b1_, b2_, b3_, x6_, x7_, x8_, x9_]
                      all_goals first | exact m18_ | exact m19_ | exact m20_ | exact m21_
                · try simp (disch := omega) only [nI_toInt, Int32.toInt_toInt64, not_true_eq_false, sI_off, sL_off, r1e, r1m, mT_off, mTake_l, r1l, r2l, m18_, m19_, m20_, m21_, n22_, n23_, e1_, e2_, nI_add] at c203_4
                  try (exfalso; omega)
                  all_goals
                    skip
                    refine wa_iconst (nI 1) dX6_fix_206 (by decide) ?_
                    refine wa_goto 211 dX6_fix_207 (by decide) ?_
                    refine wa_iret dX6_fix_211 rfl ?_
                    refine ⟨rfl, ?_⟩
                    refine Rel_M hrel ?relm ?fs ?fr ?fp ?fw
                    case fs =>
                      intro j_ hj_
                      refine ⟨?_, ?_, ?_, ?_, ?_, ?_, fun i_ hi_ => ?_, fun i_ hi_ => ?_⟩
                      all_goals
                        simp (disch := omega) only [sI_off, bI_off, sL_off, bL_off, r1l, r2l, rb1l, rb2l, r1m, r2m, rb1e, rb2e,mT_off,mTake_l]
                    case fr =>
                      intro r_ hr_
                      refine ⟨?_, ?_, ?_, fun i_ hi_ => ?_⟩
                      all_goals
                        simp (disch := omega) only [sI_off, bI_off, sL_off, bL_off, r1l, r2l, rb1l, rb2l, r1m, r2m, rb1e, rb2e,mT_off,mTake_l]
                    case fp =>
                      refine ⟨?_, ?_, ?_, ?_, ?_⟩
                      all_goals
                        simp (disch := omega) only [sI_off, bI_off, sL_off, bL_off, r1l, r2l, rb1l, rb2l, r1m, r2m, rb1e, rb2e,mT_off,mTake_l]
                    case fw =>
                      refine ⟨?_, fun q_ ha_ hb_ => ?_⟩
                      all_goals
                        simp (disch := omega) only [sI_off, bI_off, sL_off, bL_off, r1l, r2l, rb1l, rb2l, r1m, r2m, rb1e, rb2e,mT_off,mTake_l]
                    case relm =>
                      refine ⟨p_ + 1, 0, by omega, by omega, ?_, ?_, ?_, ?_, ?_, ?_, ?_, ?_, ?_, ?_, ?_, ?_, ?_, ?_, ?_, ?_⟩
                      all_goals simp (disch := omega) only [sI_off, sL_off, r1e, r1m, r2e, r2m, r1l, r2l, mT_off, mTake_l, t3_, t4_, t5_, t6_, t7_, t8_, t9_, n54_, n55_, n22_, n23_, nI_add, b0_, b1_, b2_, b3_, x6_, x7_, x8_, x9_]
                      all_goals first | exact m18_ | exact m19_ | exact m20_ | exact m21_
            · try simp (disch := omega) only [nI_toInt, Int32.toInt_toInt64, not_true_eq_false, sI_off, sL_off, r1e, r1m, mT_off, mTake_l, r1l, r2l, m18_, m19_, m20_, m21_, n22_, n23_, e1_, e2_, nI_add] at c192_3
              try (exfalso; omega)
              all_goals
                skip
                refine wa_iconst (nI 2) dX6_fix_195 (by decide) ?_
                refine wa_goto 211 dX6_fix_196 (by decide) ?_
                refine wa_iret dX6_fix_211 rfl ?_
                refine ⟨rfl, ?_⟩
                refine Rel_M hrel ?relm ?fs ?fr ?fp ?fw
                case fs =>
                  intro j_ hj_
                  refine ⟨?_, ?_, ?_, ?_, ?_, ?_, fun i_ hi_ => ?_, fun i_ hi_ => ?_⟩
                  all_goals
                    simp (disch := omega) only [sI_off, bI_off, sL_off, bL_off, r1l, r2l, rb1l, rb2l, r1m, r2m, rb1e, rb2e,mT_off,mTake_l]
                case fr =>
                  intro r_ hr_
                  refine ⟨?_, ?_, ?_, fun i_ hi_ => ?_⟩
                  all_goals
                    simp (disch := omega) only [sI_off, bI_off, sL_off, bL_off, r1l, r2l, rb1l, rb2l, r1m, r2m, rb1e, rb2e,mT_off,mTake_l]
                case fp =>
                  refine ⟨?_, ?_, ?_, ?_, ?_⟩
                  all_goals
                    simp (disch := omega) only [sI_off, bI_off, sL_off, bL_off, r1l, r2l, rb1l, rb2l, r1m, r2m, rb1e, rb2e,mT_off,mTake_l]
                case fw =>
                  refine ⟨?_, fun q_ ha_ hb_ => ?_⟩
                  all_goals
                    simp (disch := omega) only [sI_off, bI_off, sL_off, bL_off, r1l, r2l, rb1l, rb2l, r1m, r2m, rb1e, rb2e,mT_off,mTake_l]
                case relm =>
                  refine ⟨p_ + 1, 0, by omega, by omega, ?_, ?_, ?_, ?_, ?_, ?_, ?_, ?_, ?_, ?_, ?_, ?_, ?_, ?_, ?_, ?_⟩
                  all_goals simp (disch := omega) only [sI_off, sL_off, r1e, r1m, r2e, r2m, r1l, r2l, mT_off, mTake_l, t3_, t4_, t5_, t6_, t7_, t8_, t9_, n54_, n55_, n22_, n23_, nI_add, b0_, b1_, b2_, b3_, x6_, x7_, x8_, x9_]
                  all_goals first | exact m18_ | exact m19_ | exact m20_ | exact m21_
        · try simp (disch := omega) only [nI_toInt, Int32.toInt_toInt64, not_true_eq_false, sI_off, sL_off, r1e, r1m, mT_off, mTake_l, r1l, r2l, m18_, m19_, m20_, m21_, n22_, n23_, e1_, e2_, nI_add] at c167_2
          try (exfalso; omega)
          all_goals
            skip
            refine wa_aload_n dX6_fix_171 rfl ?_
            refine wa_getI dX6_fix_172 fgX6_219 (by first | assumption | rfl) (by rfl) ?_
            refine wa_iconst (nI 1) dX6_fix_175 (by decide) ?_
            refine wa_iadd dX6_fix_176 ?_
            refine wa_goto 181 dX6_fix_177 (by decide) ?_
            refine wa_putI dX6_fix_181 fgX6_219 fw6_23 (by first | assumption | rfl) (by rfl) ?_
            refine wa_aload_n dX6_fix_184 rfl ?_
            refine wa_getI dX6_fix_185 fgX6_219 (by first | assumption | rfl) (by rfl) ?_
            refine wa_aload_n dX6_fix_188 rfl ?_
            refine wa_getI dX6_fix_189 fgX6_46 (by first | assumption | rfl) (by rfl) ?_
            refine wa_ic_lt 199 dX6_fix_192 (by decide) (fun c192_5 => ?_) (fun c192_5 => ?_)
            · try simp (disch := omega) only [nI_toInt, Int32.toInt_toInt64, not_true_eq_false, sI_off, sL_off, r1e, r1m, mT_off, mTake_l, r1l, r2l, m18_, m19_, m20_, m21_, n22_, n23_, e1_, e2_, nI_add] at c192_5
              try (exfalso; omega)
              all_goals
                skip
                refine wa_aload_n dX6_fix_199 rfl ?_
                refine wa_getI dX6_fix_200 fgX6_219 (by first | assumption | rfl) (by rfl) ?_
                refine wa_if_le 210 dX6_fix_203 (by decide) (fun c203_6 => ?_) (fun c203_6 => ?_)
                · try simp (disch := omega) only [nI_toInt, Int32.toInt_toInt64, not_true_eq_false, sI_off, sL_off, r1e, r1m, mT_off, mTake_l, r1l, r2l, m18_, m19_, m20_, m21_, n22_, n23_, e1_, e2_, nI_add] at c203_6
                  try (exfalso; omega)
                  all_goals
                    skip
                    refine wa_iconst (nI 0) dX6_fix_210 (by decide) ?_
                    refine wa_iret dX6_fix_211 rfl ?_
                    refine ⟨rfl, ?_⟩
                    refine Rel_M hrel ?relm ?fs ?fr ?fp ?fw
                    case fs =>
                      intro j_ hj_
                      refine ⟨?_, ?_, ?_, ?_, ?_, ?_, fun i_ hi_ => ?_, fun i_ hi_ => ?_⟩
                      all_goals
                        simp (disch := omega) only [sI_off, bI_off, sL_off, bL_off, r1l, r2l, rb1l, rb2l, r1m, r2m, rb1e, rb2e,mT_off,mTake_l]
                    case fr =>
                      intro r_ hr_
                      refine ⟨?_, ?_, ?_, fun i_ hi_ => ?_⟩
                      all_goals
                        simp (disch := omega) only [sI_off, bI_off, sL_off, bL_off, r1l, r2l, rb1l, rb2l, r1m, r2m, rb1e, rb2e,mT_off,mTake_l]
                    case fp =>
                      refine ⟨?_, ?_, ?_, ?_, ?_⟩
                      all_goals
                        simp (disch := omega) only [sI_off, bI_off, sL_off, bL_off, r1l, r2l, rb1l, rb2l, r1m, r2m, rb1e, rb2e,mT_off,mTake_l]
                    case fw =>
                      refine ⟨?_, fun q_ ha_ hb_ => ?_⟩
                      all_goals
                        simp (disch := omega) only [sI_off, bI_off, sL_off, bL_off, r1l, r2l, rb1l, rb2l, r1m, r2m, rb1e, rb2e,mT_off,mTake_l]
                    case relm =>
                      refine ⟨p_ + 1, 0, by omega, by omega, ?_, ?_, ?_, ?_, ?_, ?_, ?_, ?_, ?_, ?_, ?_, ?_, ?_, ?_, ?_, ?_⟩
                      all_goals simp (disch := omega) only [sI_off, sL_off, r1e, r1m, r2e, r2m, r1l, r2l, mT_off, mTake_l, t3_, t4_, t5_, t6_, t7_, t8_, t9_, n54_, n55_, n22_, n23_, nI_add, b0_, b1_, b2_, b3_, x6_, x7_, x8_, x9_]
                      all_goals first | exact m18_ | exact m19_ | exact m20_ | exact m21_
                · try simp (disch := omega) only [nI_toInt, Int32.toInt_toInt64, not_true_eq_false, sI_off, sL_off, r1e, r1m, mT_off, mTake_l, r1l, r2l, m18_, m19_, m20_, m21_, n22_, n23_, e1_, e2_, nI_add] at c203_6
                  try (exfalso; omega)
                  all_goals
                    skip
                    refine wa_iconst (nI 1) dX6_fix_206 (by decide) ?_
                    refine wa_goto 211 dX6_fix_207 (by decide) ?_
                    refine wa_iret dX6_fix_211 rfl ?_
                    refine ⟨rfl, ?_⟩
                    refine Rel_M hrel ?relm ?fs ?fr ?fp ?fw
                    case fs =>
                      intro j_ hj_
                      refine ⟨?_, ?_, ?_, ?_, ?_, ?_, fun i_ hi_ => ?_, fun i_ hi_ => ?_⟩
                      all_goals
                        simp (disch := omega) only [sI_off, bI_off, sL_off, bL_off, r1l, r2l, rb1l, rb2l, r1m, r2m, rb1e, rb2e,mT_off,mTake_l]
                    case fr =>
                      intro r_ hr_
                      refine ⟨?_, ?_, ?_, fun i_ hi_ => ?_⟩
                      all_goals
                        simp (disch := omega) only [sI_off, bI_off, sL_off, bL_off, r1l, r2l, rb1l, rb2l, r1m, r2m, rb1e, rb2e,mT_off,mTake_l]
                    case fp =>
                      refine ⟨?_, ?_, ?_, ?_, ?_⟩
                      all_goals
                        simp (disch := omega) only [sI_off, bI_off, sL_off, bL_off, r1l, r2l, rb1l, rb2l, r1m, r2m, rb1e, rb2e,mT_off,mTake_l]
                    case fw =>
                      refine ⟨?_, fun q_ ha_ hb_ => ?_⟩
                      all_goals
                        simp (disch := omega) only [sI_off, bI_off, sL_off, bL_off, r1l, r2l, rb1l, rb2l, r1m, r2m, rb1e, rb2e,mT_off,mTake_l]
                    case relm =>
                      refine ⟨p_ + 1, 0, by omega, by omega, ?_, ?_, ?_, ?_, ?_, ?_, ?_, ?_, ?_, ?_, ?_, ?_, ?_, ?_, ?_, ?_⟩
                      all_goals simp (disch := omega) only [sI_off, sL_off, r1e, r1m, r2e, r2m, r1l, r2l, mT_off, mTake_l, t3_, t4_, t5_, t6_, t7_, t8_, t9_, n54_, n55_, n22_, n23_, nI_add, b0_, b1_, b2_, b3_, x6_, x7_, x8_, x9_]
                      all_goals first | exact m18_ | exact m19_ | exact m20_ | exact m21_
            · try simp (disch := omega) only [nI_toInt, Int32.toInt_toInt64, not_true_eq_false, sI_off, sL_off, r1e, r1m, mT_off, mTake_l, r1l, r2l, m18_, m19_, m20_, m21_, n22_, n23_, e1_, e2_, nI_add] at c192_5
              try (exfalso; omega)
              all_goals
                skip
                refine wa_iconst (nI 2) dX6_fix_195 (by decide) ?_
                refine wa_goto 211 dX6_fix_196 (by decide) ?_
                refine wa_iret dX6_fix_211 rfl ?_
                refine ⟨rfl, ?_⟩
                refine Rel_M hrel ?relm ?fs ?fr ?fp ?fw
                case fs =>
                  intro j_ hj_
                  refine ⟨?_, ?_, ?_, ?_, ?_, ?_, fun i_ hi_ => ?_, fun i_ hi_ => ?_⟩
                  all_goals
                    simp (disch := omega) only [sI_off, bI_off, sL_off, bL_off, r1l, r2l, rb1l, rb2l, r1m, r2m, rb1e, rb2e,mT_off,mTake_l]
                case fr =>
                  intro r_ hr_
                  refine ⟨?_, ?_, ?_, fun i_ hi_ => ?_⟩
                  all_goals
                    simp (disch := omega) only [sI_off, bI_off, sL_off, bL_off, r1l, r2l, rb1l, rb2l, r1m, r2m, rb1e, rb2e,mT_off,mTake_l]
                case fp =>
                  refine ⟨?_, ?_, ?_, ?_, ?_⟩
                  all_goals
                    simp (disch := omega) only [sI_off, bI_off, sL_off, bL_off, r1l, r2l, rb1l, rb2l, r1m, r2m, rb1e, rb2e,mT_off,mTake_l]
                case fw =>
                  refine ⟨?_, fun q_ ha_ hb_ => ?_⟩
                  all_goals
                    simp (disch := omega) only [sI_off, bI_off, sL_off, bL_off, r1l, r2l, rb1l, rb2l, r1m, r2m, rb1e, rb2e,mT_off,mTake_l]
                case relm =>
                  refine ⟨p_ + 1, 0, by omega, by omega, ?_, ?_, ?_, ?_, ?_, ?_, ?_, ?_, ?_, ?_, ?_, ?_, ?_, ?_, ?_, ?_⟩
                  all_goals simp (disch := omega) only [sI_off, sL_off, r1e, r1m, r2e, r2m, r1l, r2l, mT_off, mTake_l, t3_, t4_, t5_, t6_, t7_, t8_, t9_, n54_, n55_, n22_, n23_, nI_add, b0_, b1_, b2_, b3_, x6_, x7_, x8_, x9_]
                  all_goals first | exact m18_ | exact m19_ | exact m20_ | exact m21_
      · skip
        simp (disch := omega) only [r1e, r1m, t3_, n55_, b3_, nI_add, nI_toInt] at hw_ hv_
        refine wa_iret dX5_fix_27 rfl ?_
        omega
      · skip
        simp (disch := omega) only [r1e, r1m, t3_, n55_, b3_, nI_add, nI_toInt] at hw_ hv_
        refine wa_iret dX5_fix_27 rfl ?_
        omega
  · skip
    refine wa_if_neF 11 dX5_fix_5 (by decide) (by decide) ?_
    refine wa_bipush (-2) dX5_fix_8 (by decide) ?_
    refine wa_iret dX5_fix_10 rfl ?_
    skip
    refine MW_of (by decide) [some (.ref 73), some (.int x), some (.int y), none, none, none, none] rfl (Nat.le_of_ble_eq_true rfl) ?_
    refine wa_iload_n dX6_fix_0 rfl ?_
    refine wa_iload_n dX6_fix_1 rfl ?_
    refine wa_callS2 (k' := kX6_isPlace) (d' := 1) dX6_fix_2 lmX6_204 ksX6_isPlace (by decide) (by omega) (Nat.le_of_ble_eq_true rfl) ?_
    refine wp_X6_isPlace (by omega) (fun hp_ => absurd hp_ hpl) (fun hp_ => ?_)
    refine wa_if_neF 11 dX6_fix_5 (by decide) (by decide) ?_
    refine wa_bipush (-2) dX6_fix_8 (by decide) ?_
    refine wa_iret dX6_fix_10 rfl ?_
    exact ⟨rfl, hrel.up⟩
