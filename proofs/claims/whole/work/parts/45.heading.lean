/-! PAIRS: the way -/
theorem prS_z (v w : Nat → Int64) : ∀ n, prS v w n = Int64.ofInt (sumZ (fun k => vZ v k * vZ w k) n)
  | 0 => rfl
  | n + 1 => by rw [prS, sumZ, prS_z v w n, z_v v n, z_v w n, ← Int64.ofInt_mul, Int64.ofInt_add]
theorem prS_le {v w : Nat → Int64} {n : Nat} (hn : n ≤ 64) (h1 : inB v n 1000) (h2 : inB w n 1000) : -64000000 ≤ (prS v w n).toInt ∧ (prS v w n).toInt ≤ 64000000 := by
  have b := sumZ_le (f := fun k => vZ v k * vZ w k) (C := 1000 * 1000) (m := n) (fun k hk => zmul_le (h1 k hk).1 (h1 k hk).2 (h2 k hk).1 (h2 k hk).2)
  have e_ : (prS v w n).toInt = sumZ (fun k => vZ v k * vZ w k) n := by
    rw [prS_z]
    exact zin (by omega) (by omega)
  rw [e_]
  omega
theorem neg_z {x : Int64} (h : -64000000 ≤ x.toInt) : (-x).toInt = -x.toInt := by
  have hl := x.toInt_lt
  rw [z_to x, Int64.neg_ofInt, Int64.toInt_ofInt_of_le (by omega) (by omega), Int64.toInt_ofInt_of_le (by omega) (by omega)]
theorem sqF_prS (v : Nat → Int64) {b : Int} {n : Nat} (hb : (n : Int) ≤ b) : ∀ m i, n ≤ i + m → i ≤ n → sqF v b n m i (prS v v i) = prS v v n
  | 0, i, h1, h2 => by
    obtain rfl : i = n := by omega
    rfl
  | m + 1, i, h1, h2 => by
    rw [sqF]
    by_cases hi : i < n
    · rw [if_pos ⟨hi, by omega⟩]
      exact sqF_prS v hb m (i + 1) (by omega) (by omega)
    · obtain rfl : i = n := by omega
      rw [if_neg (by omega)]
theorem k100_L : (100 : Int64).toInt = 100 := by decide
theorem ei_00 : ei1 0 0 = -1 := by decide
set_option maxHeartbeats 4000000 in
/-- the model's way, from its sums on -/
theorem wa_heading {d : Nat} {X Y A : Int64} {a b : Int} {z1 z2 z3 z4 : Option Value} {μ : Mem} {Q : QM} (hx : X.toInt = a) (hy : Y.toInt = b) (hnx : (-X).toInt = -a) (hny : (-Y).toInt = -b) (h1 : a = 0 → b = 0 → Q (some (.int (-1))) μ) (h2 : ((100 : Int64) * (X * X + Y * Y)).toInt < A.toInt → Q (some (.int (-1))) μ) (h3 : ¬ ((100 : Int64) * (X * X + Y * Y)).toInt < A.toInt → Q (some (.int (ei1 a b))) μ) : WA kX6_heading d Q 145 [some (.ref 73), z1, z2, z3, z4, some (.long X), none, some (.long Y), none, some (.long A), none] [] μ := by
  refine wa_lload dX6_heading_145 rfl ?_
  refine wa_lconst (0) dX6_heading_147 (by decide) ?_
  refine wa_lc_ne 159 dX6_heading_148 dX6_heading_149 (by decide) (fun c148_1 => ?_) (fun c148_1 => ?_)
  · try simp (disch := omega) only [nI_toInt, Int32.toInt_toInt64, not_true_eq_false, hx, hy, hnx, hny, z64] at c148_1
    try (exfalso; omega)
    all_goals
      skip
      refine wa_ldc2 (100) dX6_heading_159 lcX6_167 ?_
      refine wa_lload dX6_heading_162 rfl ?_
      refine wa_lload dX6_heading_164 rfl ?_
      refine wa_lmul dX6_heading_166 ?_
      refine wa_lload dX6_heading_167 rfl ?_
      refine wa_lload dX6_heading_169 rfl ?_
      refine wa_lmul dX6_heading_171 ?_
      refine wa_ladd dX6_heading_172 ?_
      refine wa_lmul dX6_heading_173 ?_
      refine wa_lload dX6_heading_174 rfl ?_
      refine wa_lc_ge 182 dX6_heading_176 dX6_heading_177 (by decide) (fun c176_2 => ?_) (fun c176_2 => ?_)
      · try simp (disch := omega) only [nI_toInt, Int32.toInt_toInt64, not_true_eq_false, hx, hy, hnx, hny, z64] at c176_2
        try (exfalso; omega)
        all_goals
          skip
          refine wa_lload dX6_heading_182 rfl ?_
          refine wa_lconst (0) dX6_heading_184 (by decide) ?_
          refine wa_lc_lt 210 dX6_heading_185 dX6_heading_186 (by decide) (fun c185_3 => ?_) (fun c185_3 => ?_)
          · try simp (disch := omega) only [nI_toInt, Int32.toInt_toInt64, not_true_eq_false, hx, hy, hnx, hny, z64] at c185_3
            try (exfalso; omega)
            all_goals
              skip
              refine wa_lload dX6_heading_210 rfl ?_
              refine wa_lconst (0) dX6_heading_212 (by decide) ?_
              refine wa_lc_gt 239 dX6_heading_213 dX6_heading_214 (by decide) (fun c213_4 => ?_) (fun c213_4 => ?_)
              · try simp (disch := omega) only [nI_toInt, Int32.toInt_toInt64, not_true_eq_false, hx, hy, hnx, hny, z64] at c213_4
                try (exfalso; omega)
                all_goals
                  skip
                  refine wa_lload dX6_heading_239 rfl ?_
                  refine wa_lconst (0) dX6_heading_241 (by decide) ?_
                  refine wa_lc_gt 269 dX6_heading_242 dX6_heading_243 (by decide) (fun c242_5 => ?_) (fun c242_5 => ?_)
                  · try simp (disch := omega) only [nI_toInt, Int32.toInt_toInt64, not_true_eq_false, hx, hy, hnx, hny, z64] at c242_5
                    try (exfalso; omega)
                    all_goals
                      skip
                      refine wa_lload dX6_heading_269 rfl ?_
                      refine wa_lneg dX6_heading_271 ?_
                      refine wa_lload dX6_heading_272 rfl ?_
                      refine wa_lc_le 283 dX6_heading_274 dX6_heading_275 (by decide) (fun c274_6 => ?_) (fun c274_6 => ?_)
                      · try simp (disch := omega) only [nI_toInt, Int32.toInt_toInt64, not_true_eq_false, hx, hy, hnx, hny, z64] at c274_6
                        try (exfalso; omega)
                        all_goals
                          skip
                          refine wa_bipush (nI 7) dX6_heading_283 (by decide) ?_
                          refine wa_iret dX6_heading_285 rfl ?_
                          have q_ := h3 (by omega)
                          simp only [ei1, ei2, ei3, ei4, ei5, ei6, ei7, ei8] at q_
                          repeat (first | rw [if_pos (by omega)] at q_ | rw [if_neg (by omega)] at q_)
                          exact q_
                      · try simp (disch := omega) only [nI_toInt, Int32.toInt_toInt64, not_true_eq_false, hx, hy, hnx, hny, z64] at c274_6
                        try (exfalso; omega)
                        all_goals
                          skip
                          refine wa_bipush (nI 6) dX6_heading_278 (by decide) ?_
                          refine wa_goto 285 dX6_heading_280 (by decide) ?_
                          refine wa_iret dX6_heading_285 rfl ?_
                          have q_ := h3 (by omega)
                          simp only [ei1, ei2, ei3, ei4, ei5, ei6, ei7, ei8] at q_
                          repeat (first | rw [if_pos (by omega)] at q_ | rw [if_neg (by omega)] at q_)
                          exact q_
                  · try simp (disch := omega) only [nI_toInt, Int32.toInt_toInt64, not_true_eq_false, hx, hy, hnx, hny, z64] at c242_5
                    try (exfalso; omega)
                    all_goals
                      skip
                      refine wa_lload dX6_heading_246 rfl ?_
                      refine wa_lconst (0) dX6_heading_248 (by decide) ?_
                      refine wa_lc_ge 269 dX6_heading_249 dX6_heading_250 (by decide) (fun c249_7 => ?_) (fun c249_7 => ?_)
                      · try simp (disch := omega) only [nI_toInt, Int32.toInt_toInt64, not_true_eq_false, hx, hy, hnx, hny, z64] at c249_7
                        try (exfalso; omega)
                        all_goals
                          skip
                          refine wa_lload dX6_heading_269 rfl ?_
                          refine wa_lneg dX6_heading_271 ?_
                          refine wa_lload dX6_heading_272 rfl ?_
                          refine wa_lc_le 283 dX6_heading_274 dX6_heading_275 (by decide) (fun c274_8 => ?_) (fun c274_8 => ?_)
                          · try simp (disch := omega) only [nI_toInt, Int32.toInt_toInt64, not_true_eq_false, hx, hy, hnx, hny, z64] at c274_8
                            try (exfalso; omega)
                            all_goals
                              skip
                              refine wa_bipush (nI 7) dX6_heading_283 (by decide) ?_
                              refine wa_iret dX6_heading_285 rfl ?_
                              have q_ := h3 (by omega)
                              simp only [ei1, ei2, ei3, ei4, ei5, ei6, ei7, ei8] at q_
                              repeat (first | rw [if_pos (by omega)] at q_ | rw [if_neg (by omega)] at q_)
                              exact q_
                          · try simp (disch := omega) only [nI_toInt, Int32.toInt_toInt64, not_true_eq_false, hx, hy, hnx, hny, z64] at c274_8
                            try (exfalso; omega)
                            all_goals
                              skip
                              refine wa_bipush (nI 6) dX6_heading_278 (by decide) ?_
                              refine wa_goto 285 dX6_heading_280 (by decide) ?_
                              refine wa_iret dX6_heading_285 rfl ?_
                              have q_ := h3 (by omega)
                              simp only [ei1, ei2, ei3, ei4, ei5, ei6, ei7, ei8] at q_
                              repeat (first | rw [if_pos (by omega)] at q_ | rw [if_neg (by omega)] at q_)
                              exact q_
                      · try simp (disch := omega) only [nI_toInt, Int32.toInt_toInt64, not_true_eq_false, hx, hy, hnx, hny, z64] at c249_7
                        try (exfalso; omega)
                        all_goals
                          skip
                          refine wa_lload dX6_heading_253 rfl ?_
                          refine wa_lneg dX6_heading_255 ?_
                          refine wa_lload dX6_heading_256 rfl ?_
                          refine wa_lneg dX6_heading_258 ?_
                          refine wa_lc_le 267 dX6_heading_259 dX6_heading_260 (by decide) (fun c259_9 => ?_) (fun c259_9 => ?_)
                          · try simp (disch := omega) only [nI_toInt, Int32.toInt_toInt64, not_true_eq_false, hx, hy, hnx, hny, z64] at c259_9
                            try (exfalso; omega)
                            all_goals
                              skip
                              refine wa_iconst (nI 5) dX6_heading_267 (by decide) ?_
                              refine wa_iret dX6_heading_268 rfl ?_
                              have q_ := h3 (by omega)
                              simp only [ei1, ei2, ei3, ei4, ei5, ei6, ei7, ei8] at q_
                              repeat (first | rw [if_pos (by omega)] at q_ | rw [if_neg (by omega)] at q_)
                              exact q_
                          · try simp (disch := omega) only [nI_toInt, Int32.toInt_toInt64, not_true_eq_false, hx, hy, hnx, hny, z64] at c259_9
                            try (exfalso; omega)
                            all_goals
                              skip
                              refine wa_iconst (nI 4) dX6_heading_263 (by decide) ?_
                              refine wa_goto 268 dX6_heading_264 (by decide) ?_
                              refine wa_iret dX6_heading_268 rfl ?_
                              have q_ := h3 (by omega)
                              simp only [ei1, ei2, ei3, ei4, ei5, ei6, ei7, ei8] at q_
                              repeat (first | rw [if_pos (by omega)] at q_ | rw [if_neg (by omega)] at q_)
                              exact q_
              · try simp (disch := omega) only [nI_toInt, Int32.toInt_toInt64, not_true_eq_false, hx, hy, hnx, hny, z64] at c213_4
                try (exfalso; omega)
                all_goals
                  skip
                  refine wa_lload dX6_heading_217 rfl ?_
                  refine wa_lconst (0) dX6_heading_219 (by decide) ?_
                  refine wa_lc_le 239 dX6_heading_220 dX6_heading_221 (by decide) (fun c220_10 => ?_) (fun c220_10 => ?_)
                  · try simp (disch := omega) only [nI_toInt, Int32.toInt_toInt64, not_true_eq_false, hx, hy, hnx, hny, z64] at c220_10
                    try (exfalso; omega)
                    all_goals
                      skip
                      refine wa_lload dX6_heading_239 rfl ?_
                      refine wa_lconst (0) dX6_heading_241 (by decide) ?_
                      refine wa_lc_gt 269 dX6_heading_242 dX6_heading_243 (by decide) (fun c242_11 => ?_) (fun c242_11 => ?_)
                      · try simp (disch := omega) only [nI_toInt, Int32.toInt_toInt64, not_true_eq_false, hx, hy, hnx, hny, z64] at c242_11
                        try (exfalso; omega)
                        all_goals
                          skip
                          refine wa_lload dX6_heading_269 rfl ?_
                          refine wa_lneg dX6_heading_271 ?_
                          refine wa_lload dX6_heading_272 rfl ?_
                          refine wa_lc_le 283 dX6_heading_274 dX6_heading_275 (by decide) (fun c274_12 => ?_) (fun c274_12 => ?_)
                          · try simp (disch := omega) only [nI_toInt, Int32.toInt_toInt64, not_true_eq_false, hx, hy, hnx, hny, z64] at c274_12
                            try (exfalso; omega)
                            all_goals
                              skip
                              refine wa_bipush (nI 7) dX6_heading_283 (by decide) ?_
                              refine wa_iret dX6_heading_285 rfl ?_
                              have q_ := h3 (by omega)
                              simp only [ei1, ei2, ei3, ei4, ei5, ei6, ei7, ei8] at q_
                              repeat (first | rw [if_pos (by omega)] at q_ | rw [if_neg (by omega)] at q_)
                              exact q_
                          · try simp (disch := omega) only [nI_toInt, Int32.toInt_toInt64, not_true_eq_false, hx, hy, hnx, hny, z64] at c274_12
                            try (exfalso; omega)
                            all_goals
                              skip
                              refine wa_bipush (nI 6) dX6_heading_278 (by decide) ?_
                              refine wa_goto 285 dX6_heading_280 (by decide) ?_
                              refine wa_iret dX6_heading_285 rfl ?_
                              have q_ := h3 (by omega)
                              simp only [ei1, ei2, ei3, ei4, ei5, ei6, ei7, ei8] at q_
                              repeat (first | rw [if_pos (by omega)] at q_ | rw [if_neg (by omega)] at q_)
                              exact q_
                      · try simp (disch := omega) only [nI_toInt, Int32.toInt_toInt64, not_true_eq_false, hx, hy, hnx, hny, z64] at c242_11
                        try (exfalso; omega)
                        all_goals
                          skip
                          refine wa_lload dX6_heading_246 rfl ?_
                          refine wa_lconst (0) dX6_heading_248 (by decide) ?_
                          refine wa_lc_ge 269 dX6_heading_249 dX6_heading_250 (by decide) (fun c249_13 => ?_) (fun c249_13 => ?_)
                          · try simp (disch := omega) only [nI_toInt, Int32.toInt_toInt64, not_true_eq_false, hx, hy, hnx, hny, z64] at c249_13
                            try (exfalso; omega)
                            all_goals
                              skip
                              refine wa_lload dX6_heading_269 rfl ?_
                              refine wa_lneg dX6_heading_271 ?_
                              refine wa_lload dX6_heading_272 rfl ?_
                              refine wa_lc_le 283 dX6_heading_274 dX6_heading_275 (by decide) (fun c274_14 => ?_) (fun c274_14 => ?_)
                              · try simp (disch := omega) only [nI_toInt, Int32.toInt_toInt64, not_true_eq_false, hx, hy, hnx, hny, z64] at c274_14
                                try (exfalso; omega)
                                all_goals
                                  skip
                                  refine wa_bipush (nI 7) dX6_heading_283 (by decide) ?_
                                  refine wa_iret dX6_heading_285 rfl ?_
                                  have q_ := h3 (by omega)
                                  simp only [ei1, ei2, ei3, ei4, ei5, ei6, ei7, ei8] at q_
                                  repeat (first | rw [if_pos (by omega)] at q_ | rw [if_neg (by omega)] at q_)
                                  exact q_
                              · try simp (disch := omega) only [nI_toInt, Int32.toInt_toInt64, not_true_eq_false, hx, hy, hnx, hny, z64] at c274_14
                                try (exfalso; omega)
                                all_goals
                                  skip
                                  refine wa_bipush (nI 6) dX6_heading_278 (by decide) ?_
                                  refine wa_goto 285 dX6_heading_280 (by decide) ?_
                                  refine wa_iret dX6_heading_285 rfl ?_
                                  have q_ := h3 (by omega)
                                  simp only [ei1, ei2, ei3, ei4, ei5, ei6, ei7, ei8] at q_
                                  repeat (first | rw [if_pos (by omega)] at q_ | rw [if_neg (by omega)] at q_)
                                  exact q_
                          · try simp (disch := omega) only [nI_toInt, Int32.toInt_toInt64, not_true_eq_false, hx, hy, hnx, hny, z64] at c249_13
                            try (exfalso; omega)
                            all_goals
                              skip
                              refine wa_lload dX6_heading_253 rfl ?_
                              refine wa_lneg dX6_heading_255 ?_
                              refine wa_lload dX6_heading_256 rfl ?_
                              refine wa_lneg dX6_heading_258 ?_
                              refine wa_lc_le 267 dX6_heading_259 dX6_heading_260 (by decide) (fun c259_15 => ?_) (fun c259_15 => ?_)
                              · try simp (disch := omega) only [nI_toInt, Int32.toInt_toInt64, not_true_eq_false, hx, hy, hnx, hny, z64] at c259_15
                                try (exfalso; omega)
                                all_goals
                                  skip
                                  refine wa_iconst (nI 5) dX6_heading_267 (by decide) ?_
                                  refine wa_iret dX6_heading_268 rfl ?_
                                  have q_ := h3 (by omega)
                                  simp only [ei1, ei2, ei3, ei4, ei5, ei6, ei7, ei8] at q_
                                  repeat (first | rw [if_pos (by omega)] at q_ | rw [if_neg (by omega)] at q_)
                                  exact q_
                              · try simp (disch := omega) only [nI_toInt, Int32.toInt_toInt64, not_true_eq_false, hx, hy, hnx, hny, z64] at c259_15
                                try (exfalso; omega)
                                all_goals
                                  skip
                                  refine wa_iconst (nI 4) dX6_heading_263 (by decide) ?_
                                  refine wa_goto 268 dX6_heading_264 (by decide) ?_
                                  refine wa_iret dX6_heading_268 rfl ?_
                                  have q_ := h3 (by omega)
                                  simp only [ei1, ei2, ei3, ei4, ei5, ei6, ei7, ei8] at q_
                                  repeat (first | rw [if_pos (by omega)] at q_ | rw [if_neg (by omega)] at q_)
                                  exact q_
                  · try simp (disch := omega) only [nI_toInt, Int32.toInt_toInt64, not_true_eq_false, hx, hy, hnx, hny, z64] at c220_10
                    try (exfalso; omega)
                    all_goals
                      skip
                      refine wa_lload dX6_heading_224 rfl ?_
                      refine wa_lload dX6_heading_226 rfl ?_
                      refine wa_lneg dX6_heading_228 ?_
                      refine wa_lc_le 237 dX6_heading_229 dX6_heading_230 (by decide) (fun c229_16 => ?_) (fun c229_16 => ?_)
                      · try simp (disch := omega) only [nI_toInt, Int32.toInt_toInt64, not_true_eq_false, hx, hy, hnx, hny, z64] at c229_16
                        try (exfalso; omega)
                        all_goals
                          skip
                          refine wa_iconst (nI 3) dX6_heading_237 (by decide) ?_
                          refine wa_iret dX6_heading_238 rfl ?_
                          have q_ := h3 (by omega)
                          simp only [ei1, ei2, ei3, ei4, ei5, ei6, ei7, ei8] at q_
                          repeat (first | rw [if_pos (by omega)] at q_ | rw [if_neg (by omega)] at q_)
                          exact q_
                      · try simp (disch := omega) only [nI_toInt, Int32.toInt_toInt64, not_true_eq_false, hx, hy, hnx, hny, z64] at c229_16
                        try (exfalso; omega)
                        all_goals
                          skip
                          refine wa_iconst (nI 2) dX6_heading_233 (by decide) ?_
                          refine wa_goto 238 dX6_heading_234 (by decide) ?_
                          refine wa_iret dX6_heading_238 rfl ?_
                          have q_ := h3 (by omega)
                          simp only [ei1, ei2, ei3, ei4, ei5, ei6, ei7, ei8] at q_
                          repeat (first | rw [if_pos (by omega)] at q_ | rw [if_neg (by omega)] at q_)
                          exact q_
          · try simp (disch := omega) only [nI_toInt, Int32.toInt_toInt64, not_true_eq_false, hx, hy, hnx, hny, z64] at c185_3
            try (exfalso; omega)
            all_goals
              skip
              refine wa_lload dX6_heading_189 rfl ?_
              refine wa_lconst (0) dX6_heading_191 (by decide) ?_
              refine wa_lc_le 210 dX6_heading_192 dX6_heading_193 (by decide) (fun c192_17 => ?_) (fun c192_17 => ?_)
              · try simp (disch := omega) only [nI_toInt, Int32.toInt_toInt64, not_true_eq_false, hx, hy, hnx, hny, z64] at c192_17
                try (exfalso; omega)
                all_goals
                  skip
                  refine wa_lload dX6_heading_210 rfl ?_
                  refine wa_lconst (0) dX6_heading_212 (by decide) ?_
                  refine wa_lc_gt 239 dX6_heading_213 dX6_heading_214 (by decide) (fun c213_18 => ?_) (fun c213_18 => ?_)
                  · try simp (disch := omega) only [nI_toInt, Int32.toInt_toInt64, not_true_eq_false, hx, hy, hnx, hny, z64] at c213_18
                    try (exfalso; omega)
                    all_goals
                      skip
                      refine wa_lload dX6_heading_239 rfl ?_
                      refine wa_lconst (0) dX6_heading_241 (by decide) ?_
                      refine wa_lc_gt 269 dX6_heading_242 dX6_heading_243 (by decide) (fun c242_19 => ?_) (fun c242_19 => ?_)
                      · try simp (disch := omega) only [nI_toInt, Int32.toInt_toInt64, not_true_eq_false, hx, hy, hnx, hny, z64] at c242_19
                        try (exfalso; omega)
                        all_goals
                          skip
                          refine wa_lload dX6_heading_269 rfl ?_
                          refine wa_lneg dX6_heading_271 ?_
                          refine wa_lload dX6_heading_272 rfl ?_
                          refine wa_lc_le 283 dX6_heading_274 dX6_heading_275 (by decide) (fun c274_20 => ?_) (fun c274_20 => ?_)
                          · try simp (disch := omega) only [nI_toInt, Int32.toInt_toInt64, not_true_eq_false, hx, hy, hnx, hny, z64] at c274_20
                            try (exfalso; omega)
                            all_goals
                              skip
                              refine wa_bipush (nI 7) dX6_heading_283 (by decide) ?_
                              refine wa_iret dX6_heading_285 rfl ?_
                              have q_ := h3 (by omega)
                              simp only [ei1, ei2, ei3, ei4, ei5, ei6, ei7, ei8] at q_
                              repeat (first | rw [if_pos (by omega)] at q_ | rw [if_neg (by omega)] at q_)
                              exact q_
                          · try simp (disch := omega) only [nI_toInt, Int32.toInt_toInt64, not_true_eq_false, hx, hy, hnx, hny, z64] at c274_20
                            try (exfalso; omega)
                            all_goals
                              skip
                              refine wa_bipush (nI 6) dX6_heading_278 (by decide) ?_
                              refine wa_goto 285 dX6_heading_280 (by decide) ?_
                              refine wa_iret dX6_heading_285 rfl ?_
                              have q_ := h3 (by omega)
                              simp only [ei1, ei2, ei3, ei4, ei5, ei6, ei7, ei8] at q_
                              repeat (first | rw [if_pos (by omega)] at q_ | rw [if_neg (by omega)] at q_)
                              exact q_
                      · try simp (disch := omega) only [nI_toInt, Int32.toInt_toInt64, not_true_eq_false, hx, hy, hnx, hny, z64] at c242_19
                        try (exfalso; omega)
                        all_goals
                          skip
                          refine wa_lload dX6_heading_246 rfl ?_
                          refine wa_lconst (0) dX6_heading_248 (by decide) ?_
                          refine wa_lc_ge 269 dX6_heading_249 dX6_heading_250 (by decide) (fun c249_21 => ?_) (fun c249_21 => ?_)
                          · try simp (disch := omega) only [nI_toInt, Int32.toInt_toInt64, not_true_eq_false, hx, hy, hnx, hny, z64] at c249_21
                            try (exfalso; omega)
                            all_goals
                              skip
                              refine wa_lload dX6_heading_269 rfl ?_
                              refine wa_lneg dX6_heading_271 ?_
                              refine wa_lload dX6_heading_272 rfl ?_
                              refine wa_lc_le 283 dX6_heading_274 dX6_heading_275 (by decide) (fun c274_22 => ?_) (fun c274_22 => ?_)
                              · try simp (disch := omega) only [nI_toInt, Int32.toInt_toInt64, not_true_eq_false, hx, hy, hnx, hny, z64] at c274_22
                                try (exfalso; omega)
                                all_goals
                                  skip
                                  refine wa_bipush (nI 7) dX6_heading_283 (by decide) ?_
                                  refine wa_iret dX6_heading_285 rfl ?_
                                  have q_ := h3 (by omega)
                                  simp only [ei1, ei2, ei3, ei4, ei5, ei6, ei7, ei8] at q_
                                  repeat (first | rw [if_pos (by omega)] at q_ | rw [if_neg (by omega)] at q_)
                                  exact q_
                              · try simp (disch := omega) only [nI_toInt, Int32.toInt_toInt64, not_true_eq_false, hx, hy, hnx, hny, z64] at c274_22
                                try (exfalso; omega)
                                all_goals
                                  skip
                                  refine wa_bipush (nI 6) dX6_heading_278 (by decide) ?_
                                  refine wa_goto 285 dX6_heading_280 (by decide) ?_
                                  refine wa_iret dX6_heading_285 rfl ?_
                                  have q_ := h3 (by omega)
                                  simp only [ei1, ei2, ei3, ei4, ei5, ei6, ei7, ei8] at q_
                                  repeat (first | rw [if_pos (by omega)] at q_ | rw [if_neg (by omega)] at q_)
                                  exact q_
                          · try simp (disch := omega) only [nI_toInt, Int32.toInt_toInt64, not_true_eq_false, hx, hy, hnx, hny, z64] at c249_21
                            try (exfalso; omega)
                            all_goals
                              skip
                              refine wa_lload dX6_heading_253 rfl ?_
                              refine wa_lneg dX6_heading_255 ?_
                              refine wa_lload dX6_heading_256 rfl ?_
                              refine wa_lneg dX6_heading_258 ?_
                              refine wa_lc_le 267 dX6_heading_259 dX6_heading_260 (by decide) (fun c259_23 => ?_) (fun c259_23 => ?_)
                              · try simp (disch := omega) only [nI_toInt, Int32.toInt_toInt64, not_true_eq_false, hx, hy, hnx, hny, z64] at c259_23
                                try (exfalso; omega)
                                all_goals
                                  skip
                                  refine wa_iconst (nI 5) dX6_heading_267 (by decide) ?_
                                  refine wa_iret dX6_heading_268 rfl ?_
                                  have q_ := h3 (by omega)
                                  simp only [ei1, ei2, ei3, ei4, ei5, ei6, ei7, ei8] at q_
                                  repeat (first | rw [if_pos (by omega)] at q_ | rw [if_neg (by omega)] at q_)
                                  exact q_
                              · try simp (disch := omega) only [nI_toInt, Int32.toInt_toInt64, not_true_eq_false, hx, hy, hnx, hny, z64] at c259_23
                                try (exfalso; omega)
                                all_goals
                                  skip
                                  refine wa_iconst (nI 4) dX6_heading_263 (by decide) ?_
                                  refine wa_goto 268 dX6_heading_264 (by decide) ?_
                                  refine wa_iret dX6_heading_268 rfl ?_
                                  have q_ := h3 (by omega)
                                  simp only [ei1, ei2, ei3, ei4, ei5, ei6, ei7, ei8] at q_
                                  repeat (first | rw [if_pos (by omega)] at q_ | rw [if_neg (by omega)] at q_)
                                  exact q_
                  · try simp (disch := omega) only [nI_toInt, Int32.toInt_toInt64, not_true_eq_false, hx, hy, hnx, hny, z64] at c213_18
                    try (exfalso; omega)
                    all_goals
                      skip
                      refine wa_lload dX6_heading_217 rfl ?_
                      refine wa_lconst (0) dX6_heading_219 (by decide) ?_
                      refine wa_lc_le 239 dX6_heading_220 dX6_heading_221 (by decide) (fun c220_24 => ?_) (fun c220_24 => ?_)
                      · try simp (disch := omega) only [nI_toInt, Int32.toInt_toInt64, not_true_eq_false, hx, hy, hnx, hny, z64] at c220_24
                        try (exfalso; omega)
                        all_goals
                          skip
                          refine wa_lload dX6_heading_239 rfl ?_
                          refine wa_lconst (0) dX6_heading_241 (by decide) ?_
                          refine wa_lc_gt 269 dX6_heading_242 dX6_heading_243 (by decide) (fun c242_25 => ?_) (fun c242_25 => ?_)
                          · try simp (disch := omega) only [nI_toInt, Int32.toInt_toInt64, not_true_eq_false, hx, hy, hnx, hny, z64] at c242_25
                            try (exfalso; omega)
                            all_goals
                              skip
                              refine wa_lload dX6_heading_269 rfl ?_
                              refine wa_lneg dX6_heading_271 ?_
                              refine wa_lload dX6_heading_272 rfl ?_
                              refine wa_lc_le 283 dX6_heading_274 dX6_heading_275 (by decide) (fun c274_26 => ?_) (fun c274_26 => ?_)
                              · try simp (disch := omega) only [nI_toInt, Int32.toInt_toInt64, not_true_eq_false, hx, hy, hnx, hny, z64] at c274_26
                                try (exfalso; omega)
                                all_goals
                                  skip
                                  refine wa_bipush (nI 7) dX6_heading_283 (by decide) ?_
                                  refine wa_iret dX6_heading_285 rfl ?_
                                  have q_ := h3 (by omega)
                                  simp only [ei1, ei2, ei3, ei4, ei5, ei6, ei7, ei8] at q_
                                  repeat (first | rw [if_pos (by omega)] at q_ | rw [if_neg (by omega)] at q_)
                                  exact q_
                              · try simp (disch := omega) only [nI_toInt, Int32.toInt_toInt64, not_true_eq_false, hx, hy, hnx, hny, z64] at c274_26
                                try (exfalso; omega)
                                all_goals
                                  skip
                                  refine wa_bipush (nI 6) dX6_heading_278 (by decide) ?_
                                  refine wa_goto 285 dX6_heading_280 (by decide) ?_
                                  refine wa_iret dX6_heading_285 rfl ?_
                                  have q_ := h3 (by omega)
                                  simp only [ei1, ei2, ei3, ei4, ei5, ei6, ei7, ei8] at q_
                                  repeat (first | rw [if_pos (by omega)] at q_ | rw [if_neg (by omega)] at q_)
                                  exact q_
                          · try simp (disch := omega) only [nI_toInt, Int32.toInt_toInt64, not_true_eq_false, hx, hy, hnx, hny, z64] at c242_25
                            try (exfalso; omega)
                            all_goals
                              skip
                              refine wa_lload dX6_heading_246 rfl ?_
                              refine wa_lconst (0) dX6_heading_248 (by decide) ?_
                              refine wa_lc_ge 269 dX6_heading_249 dX6_heading_250 (by decide) (fun c249_27 => ?_) (fun c249_27 => ?_)
                              · try simp (disch := omega) only [nI_toInt, Int32.toInt_toInt64, not_true_eq_false, hx, hy, hnx, hny, z64] at c249_27
                                try (exfalso; omega)
                                all_goals
                                  skip
                                  refine wa_lload dX6_heading_269 rfl ?_
                                  refine wa_lneg dX6_heading_271 ?_
                                  refine wa_lload dX6_heading_272 rfl ?_
                                  refine wa_lc_le 283 dX6_heading_274 dX6_heading_275 (by decide) (fun c274_28 => ?_) (fun c274_28 => ?_)
                                  · try simp (disch := omega) only [nI_toInt, Int32.toInt_toInt64, not_true_eq_false, hx, hy, hnx, hny, z64] at c274_28
                                    try (exfalso; omega)
                                    all_goals
                                      skip
                                      refine wa_bipush (nI 7) dX6_heading_283 (by decide) ?_
                                      refine wa_iret dX6_heading_285 rfl ?_
                                      have q_ := h3 (by omega)
                                      simp only [ei1, ei2, ei3, ei4, ei5, ei6, ei7, ei8] at q_
                                      repeat (first | rw [if_pos (by omega)] at q_ | rw [if_neg (by omega)] at q_)
                                      exact q_
                                  · try simp (disch := omega) only [nI_toInt, Int32.toInt_toInt64, not_true_eq_false, hx, hy, hnx, hny, z64] at c274_28
                                    try (exfalso; omega)
                                    all_goals
                                      skip
                                      refine wa_bipush (nI 6) dX6_heading_278 (by decide) ?_
                                      refine wa_goto 285 dX6_heading_280 (by decide) ?_
                                      refine wa_iret dX6_heading_285 rfl ?_
                                      have q_ := h3 (by omega)
                                      simp only [ei1, ei2, ei3, ei4, ei5, ei6, ei7, ei8] at q_
                                      repeat (first | rw [if_pos (by omega)] at q_ | rw [if_neg (by omega)] at q_)
                                      exact q_
                              · try simp (disch := omega) only [nI_toInt, Int32.toInt_toInt64, not_true_eq_false, hx, hy, hnx, hny, z64] at c249_27
                                try (exfalso; omega)
                                all_goals
                                  skip
                                  refine wa_lload dX6_heading_253 rfl ?_
                                  refine wa_lneg dX6_heading_255 ?_
                                  refine wa_lload dX6_heading_256 rfl ?_
                                  refine wa_lneg dX6_heading_258 ?_
                                  refine wa_lc_le 267 dX6_heading_259 dX6_heading_260 (by decide) (fun c259_29 => ?_) (fun c259_29 => ?_)
                                  · try simp (disch := omega) only [nI_toInt, Int32.toInt_toInt64, not_true_eq_false, hx, hy, hnx, hny, z64] at c259_29
                                    try (exfalso; omega)
                                    all_goals
                                      skip
                                      refine wa_iconst (nI 5) dX6_heading_267 (by decide) ?_
                                      refine wa_iret dX6_heading_268 rfl ?_
                                      have q_ := h3 (by omega)
                                      simp only [ei1, ei2, ei3, ei4, ei5, ei6, ei7, ei8] at q_
                                      repeat (first | rw [if_pos (by omega)] at q_ | rw [if_neg (by omega)] at q_)
                                      exact q_
                                  · try simp (disch := omega) only [nI_toInt, Int32.toInt_toInt64, not_true_eq_false, hx, hy, hnx, hny, z64] at c259_29
                                    try (exfalso; omega)
                                    all_goals
                                      skip
                                      refine wa_iconst (nI 4) dX6_heading_263 (by decide) ?_
                                      refine wa_goto 268 dX6_heading_264 (by decide) ?_
                                      refine wa_iret dX6_heading_268 rfl ?_
                                      have q_ := h3 (by omega)
                                      simp only [ei1, ei2, ei3, ei4, ei5, ei6, ei7, ei8] at q_
                                      repeat (first | rw [if_pos (by omega)] at q_ | rw [if_neg (by omega)] at q_)
                                      exact q_
                      · try simp (disch := omega) only [nI_toInt, Int32.toInt_toInt64, not_true_eq_false, hx, hy, hnx, hny, z64] at c220_24
                        try (exfalso; omega)
                        all_goals
                          skip
                          refine wa_lload dX6_heading_224 rfl ?_
                          refine wa_lload dX6_heading_226 rfl ?_
                          refine wa_lneg dX6_heading_228 ?_
                          refine wa_lc_le 237 dX6_heading_229 dX6_heading_230 (by decide) (fun c229_30 => ?_) (fun c229_30 => ?_)
                          · try simp (disch := omega) only [nI_toInt, Int32.toInt_toInt64, not_true_eq_false, hx, hy, hnx, hny, z64] at c229_30
                            try (exfalso; omega)
                            all_goals
                              skip
                              refine wa_iconst (nI 3) dX6_heading_237 (by decide) ?_
                              refine wa_iret dX6_heading_238 rfl ?_
                              have q_ := h3 (by omega)
                              simp only [ei1, ei2, ei3, ei4, ei5, ei6, ei7, ei8] at q_
                              repeat (first | rw [if_pos (by omega)] at q_ | rw [if_neg (by omega)] at q_)
                              exact q_
                          · try simp (disch := omega) only [nI_toInt, Int32.toInt_toInt64, not_true_eq_false, hx, hy, hnx, hny, z64] at c229_30
                            try (exfalso; omega)
                            all_goals
                              skip
                              refine wa_iconst (nI 2) dX6_heading_233 (by decide) ?_
                              refine wa_goto 238 dX6_heading_234 (by decide) ?_
                              refine wa_iret dX6_heading_238 rfl ?_
                              have q_ := h3 (by omega)
                              simp only [ei1, ei2, ei3, ei4, ei5, ei6, ei7, ei8] at q_
                              repeat (first | rw [if_pos (by omega)] at q_ | rw [if_neg (by omega)] at q_)
                              exact q_
              · try simp (disch := omega) only [nI_toInt, Int32.toInt_toInt64, not_true_eq_false, hx, hy, hnx, hny, z64] at c192_17
                try (exfalso; omega)
                all_goals
                  skip
                  refine wa_lload dX6_heading_196 rfl ?_
                  refine wa_lload dX6_heading_198 rfl ?_
                  refine wa_lc_le 208 dX6_heading_200 dX6_heading_201 (by decide) (fun c200_31 => ?_) (fun c200_31 => ?_)
                  · try simp (disch := omega) only [nI_toInt, Int32.toInt_toInt64, not_true_eq_false, hx, hy, hnx, hny, z64] at c200_31
                    try (exfalso; omega)
                    all_goals
                      skip
                      refine wa_iconst (nI 1) dX6_heading_208 (by decide) ?_
                      refine wa_iret dX6_heading_209 rfl ?_
                      have q_ := h3 (by omega)
                      simp only [ei1, ei2, ei3, ei4, ei5, ei6, ei7, ei8] at q_
                      repeat (first | rw [if_pos (by omega)] at q_ | rw [if_neg (by omega)] at q_)
                      exact q_
                  · try simp (disch := omega) only [nI_toInt, Int32.toInt_toInt64, not_true_eq_false, hx, hy, hnx, hny, z64] at c200_31
                    try (exfalso; omega)
                    all_goals
                      skip
                      refine wa_iconst (nI 0) dX6_heading_204 (by decide) ?_
                      refine wa_goto 209 dX6_heading_205 (by decide) ?_
                      refine wa_iret dX6_heading_209 rfl ?_
                      have q_ := h3 (by omega)
                      simp only [ei1, ei2, ei3, ei4, ei5, ei6, ei7, ei8] at q_
                      repeat (first | rw [if_pos (by omega)] at q_ | rw [if_neg (by omega)] at q_)
                      exact q_
      · try simp (disch := omega) only [nI_toInt, Int32.toInt_toInt64, not_true_eq_false, hx, hy, hnx, hny, z64] at c176_2
        try (exfalso; omega)
        all_goals
          skip
          refine wa_iconst (-1) dX6_heading_180 (by decide) ?_
          refine wa_iret dX6_heading_181 rfl ?_
          first | exact h1 (by omega) (by omega) | exact h2 (by omega)
  · try simp (disch := omega) only [nI_toInt, Int32.toInt_toInt64, not_true_eq_false, hx, hy, hnx, hny, z64] at c148_1
    try (exfalso; omega)
    all_goals
      skip
      refine wa_lload dX6_heading_152 rfl ?_
      refine wa_lconst (0) dX6_heading_154 (by decide) ?_
      refine wa_lc_eq 180 dX6_heading_155 dX6_heading_156 (by decide) (fun c155_32 => ?_) (fun c155_32 => ?_)
      · try simp (disch := omega) only [nI_toInt, Int32.toInt_toInt64, not_true_eq_false, hx, hy, hnx, hny, z64] at c155_32
        try (exfalso; omega)
        all_goals
          skip
          refine wa_iconst (-1) dX6_heading_180 (by decide) ?_
          refine wa_iret dX6_heading_181 rfl ?_
          first | exact h1 (by omega) (by omega) | exact h2 (by omega)
      · try simp (disch := omega) only [nI_toInt, Int32.toInt_toInt64, not_true_eq_false, hx, hy, hnx, hny, z64] at c155_32
        try (exfalso; omega)
        all_goals
          skip
          refine wa_ldc2 (100) dX6_heading_159 lcX6_167 ?_
          refine wa_lload dX6_heading_162 rfl ?_
          refine wa_lload dX6_heading_164 rfl ?_
          refine wa_lmul dX6_heading_166 ?_
          refine wa_lload dX6_heading_167 rfl ?_
          refine wa_lload dX6_heading_169 rfl ?_
          refine wa_lmul dX6_heading_171 ?_
          refine wa_ladd dX6_heading_172 ?_
          refine wa_lmul dX6_heading_173 ?_
          refine wa_lload dX6_heading_174 rfl ?_
          refine wa_lc_ge 182 dX6_heading_176 dX6_heading_177 (by decide) (fun c176_33 => ?_) (fun c176_33 => ?_)
          · try simp (disch := omega) only [nI_toInt, Int32.toInt_toInt64, not_true_eq_false, hx, hy, hnx, hny, z64] at c176_33
            try (exfalso; omega)
            all_goals
              skip
              refine wa_lload dX6_heading_182 rfl ?_
              refine wa_lconst (0) dX6_heading_184 (by decide) ?_
              refine wa_lc_lt 210 dX6_heading_185 dX6_heading_186 (by decide) (fun c185_34 => ?_) (fun c185_34 => ?_)
              · try simp (disch := omega) only [nI_toInt, Int32.toInt_toInt64, not_true_eq_false, hx, hy, hnx, hny, z64] at c185_34
                try (exfalso; omega)
                all_goals
                  skip
                  refine wa_lload dX6_heading_210 rfl ?_
                  refine wa_lconst (0) dX6_heading_212 (by decide) ?_
                  refine wa_lc_gt 239 dX6_heading_213 dX6_heading_214 (by decide) (fun c213_35 => ?_) (fun c213_35 => ?_)
                  · try simp (disch := omega) only [nI_toInt, Int32.toInt_toInt64, not_true_eq_false, hx, hy, hnx, hny, z64] at c213_35
                    try (exfalso; omega)
                    all_goals
                      skip
                      refine wa_lload dX6_heading_239 rfl ?_
                      refine wa_lconst (0) dX6_heading_241 (by decide) ?_
                      refine wa_lc_gt 269 dX6_heading_242 dX6_heading_243 (by decide) (fun c242_36 => ?_) (fun c242_36 => ?_)
                      · try simp (disch := omega) only [nI_toInt, Int32.toInt_toInt64, not_true_eq_false, hx, hy, hnx, hny, z64] at c242_36
                        try (exfalso; omega)
                        all_goals
                          skip
                          refine wa_lload dX6_heading_269 rfl ?_
                          refine wa_lneg dX6_heading_271 ?_
                          refine wa_lload dX6_heading_272 rfl ?_
                          refine wa_lc_le 283 dX6_heading_274 dX6_heading_275 (by decide) (fun c274_37 => ?_) (fun c274_37 => ?_)
                          · try simp (disch := omega) only [nI_toInt, Int32.toInt_toInt64, not_true_eq_false, hx, hy, hnx, hny, z64] at c274_37
                            try (exfalso; omega)
                            all_goals
                              skip
                              refine wa_bipush (nI 7) dX6_heading_283 (by decide) ?_
                              refine wa_iret dX6_heading_285 rfl ?_
                              have q_ := h3 (by omega)
                              simp only [ei1, ei2, ei3, ei4, ei5, ei6, ei7, ei8] at q_
                              repeat (first | rw [if_pos (by omega)] at q_ | rw [if_neg (by omega)] at q_)
                              exact q_
                          · try simp (disch := omega) only [nI_toInt, Int32.toInt_toInt64, not_true_eq_false, hx, hy, hnx, hny, z64] at c274_37
                            try (exfalso; omega)
                            all_goals
                              skip
                              refine wa_bipush (nI 6) dX6_heading_278 (by decide) ?_
                              refine wa_goto 285 dX6_heading_280 (by decide) ?_
                              refine wa_iret dX6_heading_285 rfl ?_
                              have q_ := h3 (by omega)
                              simp only [ei1, ei2, ei3, ei4, ei5, ei6, ei7, ei8] at q_
                              repeat (first | rw [if_pos (by omega)] at q_ | rw [if_neg (by omega)] at q_)
                              exact q_
                      · try simp (disch := omega) only [nI_toInt, Int32.toInt_toInt64, not_true_eq_false, hx, hy, hnx, hny, z64] at c242_36
                        try (exfalso; omega)
                        all_goals
                          skip
                          refine wa_lload dX6_heading_246 rfl ?_
                          refine wa_lconst (0) dX6_heading_248 (by decide) ?_
                          refine wa_lc_ge 269 dX6_heading_249 dX6_heading_250 (by decide) (fun c249_38 => ?_) (fun c249_38 => ?_)
                          · try simp (disch := omega) only [nI_toInt, Int32.toInt_toInt64, not_true_eq_false, hx, hy, hnx, hny, z64] at c249_38
                            try (exfalso; omega)
                            all_goals
                              skip
                              refine wa_lload dX6_heading_269 rfl ?_
                              refine wa_lneg dX6_heading_271 ?_
                              refine wa_lload dX6_heading_272 rfl ?_
                              refine wa_lc_le 283 dX6_heading_274 dX6_heading_275 (by decide) (fun c274_39 => ?_) (fun c274_39 => ?_)
                              · try simp (disch := omega) only [nI_toInt, Int32.toInt_toInt64, not_true_eq_false, hx, hy, hnx, hny, z64] at c274_39
                                try (exfalso; omega)
                                all_goals
                                  skip
                                  refine wa_bipush (nI 7) dX6_heading_283 (by decide) ?_
                                  refine wa_iret dX6_heading_285 rfl ?_
                                  have q_ := h3 (by omega)
                                  simp only [ei1, ei2, ei3, ei4, ei5, ei6, ei7, ei8] at q_
                                  repeat (first | rw [if_pos (by omega)] at q_ | rw [if_neg (by omega)] at q_)
                                  exact q_
                              · try simp (disch := omega) only [nI_toInt, Int32.toInt_toInt64, not_true_eq_false, hx, hy, hnx, hny, z64] at c274_39
                                try (exfalso; omega)
                                all_goals
                                  skip
                                  refine wa_bipush (nI 6) dX6_heading_278 (by decide) ?_
                                  refine wa_goto 285 dX6_heading_280 (by decide) ?_
                                  refine wa_iret dX6_heading_285 rfl ?_
                                  have q_ := h3 (by omega)
                                  simp only [ei1, ei2, ei3, ei4, ei5, ei6, ei7, ei8] at q_
                                  repeat (first | rw [if_pos (by omega)] at q_ | rw [if_neg (by omega)] at q_)
                                  exact q_
                          · try simp (disch := omega) only [nI_toInt, Int32.toInt_toInt64, not_true_eq_false, hx, hy, hnx, hny, z64] at c249_38
                            try (exfalso; omega)
                            all_goals
                              skip
                              refine wa_lload dX6_heading_253 rfl ?_
                              refine wa_lneg dX6_heading_255 ?_
                              refine wa_lload dX6_heading_256 rfl ?_
                              refine wa_lneg dX6_heading_258 ?_
                              refine wa_lc_le 267 dX6_heading_259 dX6_heading_260 (by decide) (fun c259_40 => ?_) (fun c259_40 => ?_)
                              · try simp (disch := omega) only [nI_toInt, Int32.toInt_toInt64, not_true_eq_false, hx, hy, hnx, hny, z64] at c259_40
                                try (exfalso; omega)
                                all_goals
                                  skip
                                  refine wa_iconst (nI 5) dX6_heading_267 (by decide) ?_
                                  refine wa_iret dX6_heading_268 rfl ?_
                                  have q_ := h3 (by omega)
                                  simp only [ei1, ei2, ei3, ei4, ei5, ei6, ei7, ei8] at q_
                                  repeat (first | rw [if_pos (by omega)] at q_ | rw [if_neg (by omega)] at q_)
                                  exact q_
                              · try simp (disch := omega) only [nI_toInt, Int32.toInt_toInt64, not_true_eq_false, hx, hy, hnx, hny, z64] at c259_40
                                try (exfalso; omega)
                                all_goals
                                  skip
                                  refine wa_iconst (nI 4) dX6_heading_263 (by decide) ?_
                                  refine wa_goto 268 dX6_heading_264 (by decide) ?_
                                  refine wa_iret dX6_heading_268 rfl ?_
                                  have q_ := h3 (by omega)
                                  simp only [ei1, ei2, ei3, ei4, ei5, ei6, ei7, ei8] at q_
                                  repeat (first | rw [if_pos (by omega)] at q_ | rw [if_neg (by omega)] at q_)
                                  exact q_
                  · try simp (disch := omega) only [nI_toInt, Int32.toInt_toInt64, not_true_eq_false, hx, hy, hnx, hny, z64] at c213_35
                    try (exfalso; omega)
                    all_goals
                      skip
                      refine wa_lload dX6_heading_217 rfl ?_
                      refine wa_lconst (0) dX6_heading_219 (by decide) ?_
                      refine wa_lc_le 239 dX6_heading_220 dX6_heading_221 (by decide) (fun c220_41 => ?_) (fun c220_41 => ?_)
                      · try simp (disch := omega) only [nI_toInt, Int32.toInt_toInt64, not_true_eq_false, hx, hy, hnx, hny, z64] at c220_41
                        try (exfalso; omega)
                        all_goals
                          skip
                          refine wa_lload dX6_heading_239 rfl ?_
                          refine wa_lconst (0) dX6_heading_241 (by decide) ?_
                          refine wa_lc_gt 269 dX6_heading_242 dX6_heading_243 (by decide) (fun c242_42 => ?_) (fun c242_42 => ?_)
                          · try simp (disch := omega) only [nI_toInt, Int32.toInt_toInt64, not_true_eq_false, hx, hy, hnx, hny, z64] at c242_42
                            try (exfalso; omega)
                            all_goals
                              skip
                              refine wa_lload dX6_heading_269 rfl ?_
                              refine wa_lneg dX6_heading_271 ?_
                              refine wa_lload dX6_heading_272 rfl ?_
                              refine wa_lc_le 283 dX6_heading_274 dX6_heading_275 (by decide) (fun c274_43 => ?_) (fun c274_43 => ?_)
                              · try simp (disch := omega) only [nI_toInt, Int32.toInt_toInt64, not_true_eq_false, hx, hy, hnx, hny, z64] at c274_43
                                try (exfalso; omega)
                                all_goals
                                  skip
                                  refine wa_bipush (nI 7) dX6_heading_283 (by decide) ?_
                                  refine wa_iret dX6_heading_285 rfl ?_
                                  have q_ := h3 (by omega)
                                  simp only [ei1, ei2, ei3, ei4, ei5, ei6, ei7, ei8] at q_
                                  repeat (first | rw [if_pos (by omega)] at q_ | rw [if_neg (by omega)] at q_)
                                  exact q_
                              · try simp (disch := omega) only [nI_toInt, Int32.toInt_toInt64, not_true_eq_false, hx, hy, hnx, hny, z64] at c274_43
                                try (exfalso; omega)
                                all_goals
                                  skip
                                  refine wa_bipush (nI 6) dX6_heading_278 (by decide) ?_
                                  refine wa_goto 285 dX6_heading_280 (by decide) ?_
                                  refine wa_iret dX6_heading_285 rfl ?_
                                  have q_ := h3 (by omega)
                                  simp only [ei1, ei2, ei3, ei4, ei5, ei6, ei7, ei8] at q_
                                  repeat (first | rw [if_pos (by omega)] at q_ | rw [if_neg (by omega)] at q_)
                                  exact q_
                          · try simp (disch := omega) only [nI_toInt, Int32.toInt_toInt64, not_true_eq_false, hx, hy, hnx, hny, z64] at c242_42
                            try (exfalso; omega)
                            all_goals
                              skip
                              refine wa_lload dX6_heading_246 rfl ?_
                              refine wa_lconst (0) dX6_heading_248 (by decide) ?_
                              refine wa_lc_ge 269 dX6_heading_249 dX6_heading_250 (by decide) (fun c249_44 => ?_) (fun c249_44 => ?_)
                              · try simp (disch := omega) only [nI_toInt, Int32.toInt_toInt64, not_true_eq_false, hx, hy, hnx, hny, z64] at c249_44
                                try (exfalso; omega)
                                all_goals
                                  skip
                                  refine wa_lload dX6_heading_269 rfl ?_
                                  refine wa_lneg dX6_heading_271 ?_
                                  refine wa_lload dX6_heading_272 rfl ?_
                                  refine wa_lc_le 283 dX6_heading_274 dX6_heading_275 (by decide) (fun c274_45 => ?_) (fun c274_45 => ?_)
                                  · try simp (disch := omega) only [nI_toInt, Int32.toInt_toInt64, not_true_eq_false, hx, hy, hnx, hny, z64] at c274_45
                                    try (exfalso; omega)
                                    all_goals
                                      skip
                                      refine wa_bipush (nI 7) dX6_heading_283 (by decide) ?_
                                      refine wa_iret dX6_heading_285 rfl ?_
                                      have q_ := h3 (by omega)
                                      simp only [ei1, ei2, ei3, ei4, ei5, ei6, ei7, ei8] at q_
                                      repeat (first | rw [if_pos (by omega)] at q_ | rw [if_neg (by omega)] at q_)
                                      exact q_
                                  · try simp (disch := omega) only [nI_toInt, Int32.toInt_toInt64, not_true_eq_false, hx, hy, hnx, hny, z64] at c274_45
                                    try (exfalso; omega)
                                    all_goals
                                      skip
                                      refine wa_bipush (nI 6) dX6_heading_278 (by decide) ?_
                                      refine wa_goto 285 dX6_heading_280 (by decide) ?_
                                      refine wa_iret dX6_heading_285 rfl ?_
                                      have q_ := h3 (by omega)
                                      simp only [ei1, ei2, ei3, ei4, ei5, ei6, ei7, ei8] at q_
                                      repeat (first | rw [if_pos (by omega)] at q_ | rw [if_neg (by omega)] at q_)
                                      exact q_
                              · try simp (disch := omega) only [nI_toInt, Int32.toInt_toInt64, not_true_eq_false, hx, hy, hnx, hny, z64] at c249_44
                                try (exfalso; omega)
                                all_goals
                                  skip
                                  refine wa_lload dX6_heading_253 rfl ?_
                                  refine wa_lneg dX6_heading_255 ?_
                                  refine wa_lload dX6_heading_256 rfl ?_
                                  refine wa_lneg dX6_heading_258 ?_
                                  refine wa_lc_le 267 dX6_heading_259 dX6_heading_260 (by decide) (fun c259_46 => ?_) (fun c259_46 => ?_)
                                  · try simp (disch := omega) only [nI_toInt, Int32.toInt_toInt64, not_true_eq_false, hx, hy, hnx, hny, z64] at c259_46
                                    try (exfalso; omega)
                                    all_goals
                                      skip
                                      refine wa_iconst (nI 5) dX6_heading_267 (by decide) ?_
                                      refine wa_iret dX6_heading_268 rfl ?_
                                      have q_ := h3 (by omega)
                                      simp only [ei1, ei2, ei3, ei4, ei5, ei6, ei7, ei8] at q_
                                      repeat (first | rw [if_pos (by omega)] at q_ | rw [if_neg (by omega)] at q_)
                                      exact q_
                                  · try simp (disch := omega) only [nI_toInt, Int32.toInt_toInt64, not_true_eq_false, hx, hy, hnx, hny, z64] at c259_46
                                    try (exfalso; omega)
                                    all_goals
                                      skip
                                      refine wa_iconst (nI 4) dX6_heading_263 (by decide) ?_
                                      refine wa_goto 268 dX6_heading_264 (by decide) ?_
                                      refine wa_iret dX6_heading_268 rfl ?_
                                      have q_ := h3 (by omega)
                                      simp only [ei1, ei2, ei3, ei4, ei5, ei6, ei7, ei8] at q_
                                      repeat (first | rw [if_pos (by omega)] at q_ | rw [if_neg (by omega)] at q_)
                                      exact q_
                      · try simp (disch := omega) only [nI_toInt, Int32.toInt_toInt64, not_true_eq_false, hx, hy, hnx, hny, z64] at c220_41
                        try (exfalso; omega)
                        all_goals
                          skip
                          refine wa_lload dX6_heading_224 rfl ?_
                          refine wa_lload dX6_heading_226 rfl ?_
                          refine wa_lneg dX6_heading_228 ?_
                          refine wa_lc_le 237 dX6_heading_229 dX6_heading_230 (by decide) (fun c229_47 => ?_) (fun c229_47 => ?_)
                          · try simp (disch := omega) only [nI_toInt, Int32.toInt_toInt64, not_true_eq_false, hx, hy, hnx, hny, z64] at c229_47
                            try (exfalso; omega)
                            all_goals
                              skip
                              refine wa_iconst (nI 3) dX6_heading_237 (by decide) ?_
                              refine wa_iret dX6_heading_238 rfl ?_
                              have q_ := h3 (by omega)
                              simp only [ei1, ei2, ei3, ei4, ei5, ei6, ei7, ei8] at q_
                              repeat (first | rw [if_pos (by omega)] at q_ | rw [if_neg (by omega)] at q_)
                              exact q_
                          · try simp (disch := omega) only [nI_toInt, Int32.toInt_toInt64, not_true_eq_false, hx, hy, hnx, hny, z64] at c229_47
                            try (exfalso; omega)
                            all_goals
                              skip
                              refine wa_iconst (nI 2) dX6_heading_233 (by decide) ?_
                              refine wa_goto 238 dX6_heading_234 (by decide) ?_
                              refine wa_iret dX6_heading_238 rfl ?_
                              have q_ := h3 (by omega)
                              simp only [ei1, ei2, ei3, ei4, ei5, ei6, ei7, ei8] at q_
                              repeat (first | rw [if_pos (by omega)] at q_ | rw [if_neg (by omega)] at q_)
                              exact q_
              · try simp (disch := omega) only [nI_toInt, Int32.toInt_toInt64, not_true_eq_false, hx, hy, hnx, hny, z64] at c185_34
                try (exfalso; omega)
                all_goals
                  skip
                  refine wa_lload dX6_heading_189 rfl ?_
                  refine wa_lconst (0) dX6_heading_191 (by decide) ?_
                  refine wa_lc_le 210 dX6_heading_192 dX6_heading_193 (by decide) (fun c192_48 => ?_) (fun c192_48 => ?_)
                  · try simp (disch := omega) only [nI_toInt, Int32.toInt_toInt64, not_true_eq_false, hx, hy, hnx, hny, z64] at c192_48
                    try (exfalso; omega)
                    all_goals
                      skip
                      refine wa_lload dX6_heading_210 rfl ?_
                      refine wa_lconst (0) dX6_heading_212 (by decide) ?_
                      refine wa_lc_gt 239 dX6_heading_213 dX6_heading_214 (by decide) (fun c213_49 => ?_) (fun c213_49 => ?_)
                      · try simp (disch := omega) only [nI_toInt, Int32.toInt_toInt64, not_true_eq_false, hx, hy, hnx, hny, z64] at c213_49
                        try (exfalso; omega)
                        all_goals
                          skip
                          refine wa_lload dX6_heading_239 rfl ?_
                          refine wa_lconst (0) dX6_heading_241 (by decide) ?_
                          refine wa_lc_gt 269 dX6_heading_242 dX6_heading_243 (by decide) (fun c242_50 => ?_) (fun c242_50 => ?_)
                          · try simp (disch := omega) only [nI_toInt, Int32.toInt_toInt64, not_true_eq_false, hx, hy, hnx, hny, z64] at c242_50
                            try (exfalso; omega)
                            all_goals
                              skip
                              refine wa_lload dX6_heading_269 rfl ?_
                              refine wa_lneg dX6_heading_271 ?_
                              refine wa_lload dX6_heading_272 rfl ?_
                              refine wa_lc_le 283 dX6_heading_274 dX6_heading_275 (by decide) (fun c274_51 => ?_) (fun c274_51 => ?_)
                              · try simp (disch := omega) only [nI_toInt, Int32.toInt_toInt64, not_true_eq_false, hx, hy, hnx, hny, z64] at c274_51
                                try (exfalso; omega)
                                all_goals
                                  skip
                                  refine wa_bipush (nI 7) dX6_heading_283 (by decide) ?_
                                  refine wa_iret dX6_heading_285 rfl ?_
                                  have q_ := h3 (by omega)
                                  simp only [ei1, ei2, ei3, ei4, ei5, ei6, ei7, ei8] at q_
                                  repeat (first | rw [if_pos (by omega)] at q_ | rw [if_neg (by omega)] at q_)
                                  exact q_
                              · try simp (disch := omega) only [nI_toInt, Int32.toInt_toInt64, not_true_eq_false, hx, hy, hnx, hny, z64] at c274_51
                                try (exfalso; omega)
                                all_goals
                                  skip
                                  refine wa_bipush (nI 6) dX6_heading_278 (by decide) ?_
                                  refine wa_goto 285 dX6_heading_280 (by decide) ?_
                                  refine wa_iret dX6_heading_285 rfl ?_
                                  have q_ := h3 (by omega)
                                  simp only [ei1, ei2, ei3, ei4, ei5, ei6, ei7, ei8] at q_
                                  repeat (first | rw [if_pos (by omega)] at q_ | rw [if_neg (by omega)] at q_)
                                  exact q_
                          · try simp (disch := omega) only [nI_toInt, Int32.toInt_toInt64, not_true_eq_false, hx, hy, hnx, hny, z64] at c242_50
                            try (exfalso; omega)
                            all_goals
                              skip
                              refine wa_lload dX6_heading_246 rfl ?_
                              refine wa_lconst (0) dX6_heading_248 (by decide) ?_
                              refine wa_lc_ge 269 dX6_heading_249 dX6_heading_250 (by decide) (fun c249_52 => ?_) (fun c249_52 => ?_)
                              · try simp (disch := omega) only [nI_toInt, Int32.toInt_toInt64, not_true_eq_false, hx, hy, hnx, hny, z64] at c249_52
                                try (exfalso; omega)
                                all_goals
                                  skip
                                  refine wa_lload dX6_heading_269 rfl ?_
                                  refine wa_lneg dX6_heading_271 ?_
                                  refine wa_lload dX6_heading_272 rfl ?_
                                  refine wa_lc_le 283 dX6_heading_274 dX6_heading_275 (by decide) (fun c274_53 => ?_) (fun c274_53 => ?_)
                                  · try simp (disch := omega) only [nI_toInt, Int32.toInt_toInt64, not_true_eq_false, hx, hy, hnx, hny, z64] at c274_53
                                    try (exfalso; omega)
                                    all_goals
                                      skip
                                      refine wa_bipush (nI 7) dX6_heading_283 (by decide) ?_
                                      refine wa_iret dX6_heading_285 rfl ?_
                                      have q_ := h3 (by omega)
                                      simp only [ei1, ei2, ei3, ei4, ei5, ei6, ei7, ei8] at q_
                                      repeat (first | rw [if_pos (by omega)] at q_ | rw [if_neg (by omega)] at q_)
                                      exact q_
                                  · try simp (disch := omega) only [nI_toInt, Int32.toInt_toInt64, not_true_eq_false, hx, hy, hnx, hny, z64] at c274_53
                                    try (exfalso; omega)
                                    all_goals
                                      skip
                                      refine wa_bipush (nI 6) dX6_heading_278 (by decide) ?_
                                      refine wa_goto 285 dX6_heading_280 (by decide) ?_
                                      refine wa_iret dX6_heading_285 rfl ?_
                                      have q_ := h3 (by omega)
                                      simp only [ei1, ei2, ei3, ei4, ei5, ei6, ei7, ei8] at q_
                                      repeat (first | rw [if_pos (by omega)] at q_ | rw [if_neg (by omega)] at q_)
                                      exact q_
                              · try simp (disch := omega) only [nI_toInt, Int32.toInt_toInt64, not_true_eq_false, hx, hy, hnx, hny, z64] at c249_52
                                try (exfalso; omega)
                                all_goals
                                  skip
                                  refine wa_lload dX6_heading_253 rfl ?_
                                  refine wa_lneg dX6_heading_255 ?_
                                  refine wa_lload dX6_heading_256 rfl ?_
                                  refine wa_lneg dX6_heading_258 ?_
                                  refine wa_lc_le 267 dX6_heading_259 dX6_heading_260 (by decide) (fun c259_54 => ?_) (fun c259_54 => ?_)
                                  · try simp (disch := omega) only [nI_toInt, Int32.toInt_toInt64, not_true_eq_false, hx, hy, hnx, hny, z64] at c259_54
                                    try (exfalso; omega)
                                    all_goals
                                      skip
                                      refine wa_iconst (nI 5) dX6_heading_267 (by decide) ?_
                                      refine wa_iret dX6_heading_268 rfl ?_
                                      have q_ := h3 (by omega)
                                      simp only [ei1, ei2, ei3, ei4, ei5, ei6, ei7, ei8] at q_
                                      repeat (first | rw [if_pos (by omega)] at q_ | rw [if_neg (by omega)] at q_)
                                      exact q_
                                  · try simp (disch := omega) only [nI_toInt, Int32.toInt_toInt64, not_true_eq_false, hx, hy, hnx, hny, z64] at c259_54
                                    try (exfalso; omega)
                                    all_goals
                                      skip
                                      refine wa_iconst (nI 4) dX6_heading_263 (by decide) ?_
                                      refine wa_goto 268 dX6_heading_264 (by decide) ?_
                                      refine wa_iret dX6_heading_268 rfl ?_
                                      have q_ := h3 (by omega)
                                      simp only [ei1, ei2, ei3, ei4, ei5, ei6, ei7, ei8] at q_
                                      repeat (first | rw [if_pos (by omega)] at q_ | rw [if_neg (by omega)] at q_)
                                      exact q_
                      · try simp (disch := omega) only [nI_toInt, Int32.toInt_toInt64, not_true_eq_false, hx, hy, hnx, hny, z64] at c213_49
                        try (exfalso; omega)
                        all_goals
                          skip
                          refine wa_lload dX6_heading_217 rfl ?_
                          refine wa_lconst (0) dX6_heading_219 (by decide) ?_
                          refine wa_lc_le 239 dX6_heading_220 dX6_heading_221 (by decide) (fun c220_55 => ?_) (fun c220_55 => ?_)
                          · try simp (disch := omega) only [nI_toInt, Int32.toInt_toInt64, not_true_eq_false, hx, hy, hnx, hny, z64] at c220_55
                            try (exfalso; omega)
                            all_goals
                              skip
                              refine wa_lload dX6_heading_239 rfl ?_
                              refine wa_lconst (0) dX6_heading_241 (by decide) ?_
                              refine wa_lc_gt 269 dX6_heading_242 dX6_heading_243 (by decide) (fun c242_56 => ?_) (fun c242_56 => ?_)
                              · try simp (disch := omega) only [nI_toInt, Int32.toInt_toInt64, not_true_eq_false, hx, hy, hnx, hny, z64] at c242_56
                                try (exfalso; omega)
                                all_goals
                                  skip
                                  refine wa_lload dX6_heading_269 rfl ?_
                                  refine wa_lneg dX6_heading_271 ?_
                                  refine wa_lload dX6_heading_272 rfl ?_
                                  refine wa_lc_le 283 dX6_heading_274 dX6_heading_275 (by decide) (fun c274_57 => ?_) (fun c274_57 => ?_)
                                  · try simp (disch := omega) only [nI_toInt, Int32.toInt_toInt64, not_true_eq_false, hx, hy, hnx, hny, z64] at c274_57
                                    try (exfalso; omega)
                                    all_goals
                                      skip
                                      refine wa_bipush (nI 7) dX6_heading_283 (by decide) ?_
                                      refine wa_iret dX6_heading_285 rfl ?_
                                      have q_ := h3 (by omega)
                                      simp only [ei1, ei2, ei3, ei4, ei5, ei6, ei7, ei8] at q_
                                      repeat (first | rw [if_pos (by omega)] at q_ | rw [if_neg (by omega)] at q_)
                                      exact q_
                                  · try simp (disch := omega) only [nI_toInt, Int32.toInt_toInt64, not_true_eq_false, hx, hy, hnx, hny, z64] at c274_57
                                    try (exfalso; omega)
                                    all_goals
                                      skip
                                      refine wa_bipush (nI 6) dX6_heading_278 (by decide) ?_
                                      refine wa_goto 285 dX6_heading_280 (by decide) ?_
                                      refine wa_iret dX6_heading_285 rfl ?_
                                      have q_ := h3 (by omega)
                                      simp only [ei1, ei2, ei3, ei4, ei5, ei6, ei7, ei8] at q_
                                      repeat (first | rw [if_pos (by omega)] at q_ | rw [if_neg (by omega)] at q_)
                                      exact q_
                              · try simp (disch := omega) only [nI_toInt, Int32.toInt_toInt64, not_true_eq_false, hx, hy, hnx, hny, z64] at c242_56
                                try (exfalso; omega)
                                all_goals
                                  skip
                                  refine wa_lload dX6_heading_246 rfl ?_
                                  refine wa_lconst (0) dX6_heading_248 (by decide) ?_
                                  refine wa_lc_ge 269 dX6_heading_249 dX6_heading_250 (by decide) (fun c249_58 => ?_) (fun c249_58 => ?_)
                                  · try simp (disch := omega) only [nI_toInt, Int32.toInt_toInt64, not_true_eq_false, hx, hy, hnx, hny, z64] at c249_58
                                    try (exfalso; omega)
                                    all_goals
                                      skip
                                      refine wa_lload dX6_heading_269 rfl ?_
                                      refine wa_lneg dX6_heading_271 ?_
                                      refine wa_lload dX6_heading_272 rfl ?_
                                      refine wa_lc_le 283 dX6_heading_274 dX6_heading_275 (by decide) (fun c274_59 => ?_) (fun c274_59 => ?_)
                                      · try simp (disch := omega) only [nI_toInt, Int32.toInt_toInt64, not_true_eq_false, hx, hy, hnx, hny, z64] at c274_59
                                        try (exfalso; omega)
                                        all_goals
                                          skip
                                          refine wa_bipush (nI 7) dX6_heading_283 (by decide) ?_
                                          refine wa_iret dX6_heading_285 rfl ?_
                                          have q_ := h3 (by omega)
                                          simp only [ei1, ei2, ei3, ei4, ei5, ei6, ei7, ei8] at q_
                                          repeat (first | rw [if_pos (by omega)] at q_ | rw [if_neg (by omega)] at q_)
                                          exact q_
                                      · try simp (disch := omega) only [nI_toInt, Int32.toInt_toInt64, not_true_eq_false, hx, hy, hnx, hny, z64] at c274_59
                                        try (exfalso; omega)
                                        all_goals
                                          skip
                                          refine wa_bipush (nI 6) dX6_heading_278 (by decide) ?_
                                          refine wa_goto 285 dX6_heading_280 (by decide) ?_
                                          refine wa_iret dX6_heading_285 rfl ?_
                                          have q_ := h3 (by omega)
                                          simp only [ei1, ei2, ei3, ei4, ei5, ei6, ei7, ei8] at q_
                                          repeat (first | rw [if_pos (by omega)] at q_ | rw [if_neg (by omega)] at q_)
                                          exact q_
                                  · try simp (disch := omega) only [nI_toInt, Int32.toInt_toInt64, not_true_eq_false, hx, hy, hnx, hny, z64] at c249_58
                                    try (exfalso; omega)
                                    all_goals
                                      skip
                                      refine wa_lload dX6_heading_253 rfl ?_
                                      refine wa_lneg dX6_heading_255 ?_
                                      refine wa_lload dX6_heading_256 rfl ?_
                                      refine wa_lneg dX6_heading_258 ?_
                                      refine wa_lc_le 267 dX6_heading_259 dX6_heading_260 (by decide) (fun c259_60 => ?_) (fun c259_60 => ?_)
                                      · try simp (disch := omega) only [nI_toInt, Int32.toInt_toInt64, not_true_eq_false, hx, hy, hnx, hny, z64] at c259_60
                                        try (exfalso; omega)
                                        all_goals
                                          skip
                                          refine wa_iconst (nI 5) dX6_heading_267 (by decide) ?_
                                          refine wa_iret dX6_heading_268 rfl ?_
                                          have q_ := h3 (by omega)
                                          simp only [ei1, ei2, ei3, ei4, ei5, ei6, ei7, ei8] at q_
                                          repeat (first | rw [if_pos (by omega)] at q_ | rw [if_neg (by omega)] at q_)
                                          exact q_
                                      · try simp (disch := omega) only [nI_toInt, Int32.toInt_toInt64, not_true_eq_false, hx, hy, hnx, hny, z64] at c259_60
                                        try (exfalso; omega)
                                        all_goals
                                          skip
                                          refine wa_iconst (nI 4) dX6_heading_263 (by decide) ?_
                                          refine wa_goto 268 dX6_heading_264 (by decide) ?_
                                          refine wa_iret dX6_heading_268 rfl ?_
                                          have q_ := h3 (by omega)
                                          simp only [ei1, ei2, ei3, ei4, ei5, ei6, ei7, ei8] at q_
                                          repeat (first | rw [if_pos (by omega)] at q_ | rw [if_neg (by omega)] at q_)
                                          exact q_
                          · try simp (disch := omega) only [nI_toInt, Int32.toInt_toInt64, not_true_eq_false, hx, hy, hnx, hny, z64] at c220_55
                            try (exfalso; omega)
                            all_goals
                              skip
                              refine wa_lload dX6_heading_224 rfl ?_
                              refine wa_lload dX6_heading_226 rfl ?_
                              refine wa_lneg dX6_heading_228 ?_
                              refine wa_lc_le 237 dX6_heading_229 dX6_heading_230 (by decide) (fun c229_61 => ?_) (fun c229_61 => ?_)
                              · try simp (disch := omega) only [nI_toInt, Int32.toInt_toInt64, not_true_eq_false, hx, hy, hnx, hny, z64] at c229_61
                                try (exfalso; omega)
                                all_goals
                                  skip
                                  refine wa_iconst (nI 3) dX6_heading_237 (by decide) ?_
                                  refine wa_iret dX6_heading_238 rfl ?_
                                  have q_ := h3 (by omega)
                                  simp only [ei1, ei2, ei3, ei4, ei5, ei6, ei7, ei8] at q_
                                  repeat (first | rw [if_pos (by omega)] at q_ | rw [if_neg (by omega)] at q_)
                                  exact q_
                              · try simp (disch := omega) only [nI_toInt, Int32.toInt_toInt64, not_true_eq_false, hx, hy, hnx, hny, z64] at c229_61
                                try (exfalso; omega)
                                all_goals
                                  skip
                                  refine wa_iconst (nI 2) dX6_heading_233 (by decide) ?_
                                  refine wa_goto 238 dX6_heading_234 (by decide) ?_
                                  refine wa_iret dX6_heading_238 rfl ?_
                                  have q_ := h3 (by omega)
                                  simp only [ei1, ei2, ei3, ei4, ei5, ei6, ei7, ei8] at q_
                                  repeat (first | rw [if_pos (by omega)] at q_ | rw [if_neg (by omega)] at q_)
                                  exact q_
                  · try simp (disch := omega) only [nI_toInt, Int32.toInt_toInt64, not_true_eq_false, hx, hy, hnx, hny, z64] at c192_48
                    try (exfalso; omega)
                    all_goals
                      skip
                      refine wa_lload dX6_heading_196 rfl ?_
                      refine wa_lload dX6_heading_198 rfl ?_
                      refine wa_lc_le 208 dX6_heading_200 dX6_heading_201 (by decide) (fun c200_62 => ?_) (fun c200_62 => ?_)
                      · try simp (disch := omega) only [nI_toInt, Int32.toInt_toInt64, not_true_eq_false, hx, hy, hnx, hny, z64] at c200_62
                        try (exfalso; omega)
                        all_goals
                          skip
                          refine wa_iconst (nI 1) dX6_heading_208 (by decide) ?_
                          refine wa_iret dX6_heading_209 rfl ?_
                          have q_ := h3 (by omega)
                          simp only [ei1, ei2, ei3, ei4, ei5, ei6, ei7, ei8] at q_
                          repeat (first | rw [if_pos (by omega)] at q_ | rw [if_neg (by omega)] at q_)
                          exact q_
                      · try simp (disch := omega) only [nI_toInt, Int32.toInt_toInt64, not_true_eq_false, hx, hy, hnx, hny, z64] at c200_62
                        try (exfalso; omega)
                        all_goals
                          skip
                          refine wa_iconst (nI 0) dX6_heading_204 (by decide) ?_
                          refine wa_goto 209 dX6_heading_205 (by decide) ?_
                          refine wa_iret dX6_heading_209 rfl ?_
                          have q_ := h3 (by omega)
                          simp only [ei1, ei2, ei3, ei4, ei5, ei6, ei7, ei8] at q_
                          repeat (first | rw [if_pos (by omega)] at q_ | rw [if_neg (by omega)] at q_)
                          exact q_
          · try simp (disch := omega) only [nI_toInt, Int32.toInt_toInt64, not_true_eq_false, hx, hy, hnx, hny, z64] at c176_33
            try (exfalso; omega)
            all_goals
              skip
              refine wa_iconst (-1) dX6_heading_180 (by decide) ?_
              refine wa_iret dX6_heading_181 rfl ?_
              first | exact h1 (by omega) (by omega) | exact h2 (by omega)
set_option maxHeartbeats 4000000 in
theorem pr_heading (h e n t : Int32) : PR kX5_heading kX6_heading [.int h, .int e, .int n, .int t] := by
  intro N μ d c hd hc hN hrel
  have e1_ : (nI 1).toInt = 1 := by decide
  have e100_ : (nI 100).toInt = 100 := by decide
  refine MW_of (by decide) [some (.ref 0), some (.int h), some (.int e), some (.int n), some (.int t), none, none, none, none, none, none, none, none, none, none] rfl (Nat.le_of_ble_eq_true rfl) ?_
  refine wa_iload_n dX5_heading_0 rfl ?_
  refine wa_callS1 (k' := kX5_isRow) (d' := 0) dX5_heading_1 lmX5_111 ksX5_isRow (by decide) (by omega) (Nat.le_of_ble_eq_true rfl) ?_
  refine wp_X5_isRow (fun r_ hr_ hk_ => ?_) (fun hoob => ?_)
  · skip
    subst hk_; obtain ⟨n_, s1_, s2_, s3_, s4_, s5_⟩ := hrel.2.1 r_ (by omega); have hR_ := isR_k (show r_ < 6 by omega); have hsh_ := (isR_sh hR_).1
    refine wa_if_eqF 34 dX5_heading_4 (by decide) (by decide) ?_
    refine wa_iload_n dX5_heading_7 rfl ?_
    refine wa_callS1 (k' := kX5_isRow) (d' := 0) dX5_heading_8 lmX5_111 ksX5_isRow (by decide) (by omega) (Nat.le_of_ble_eq_true rfl) ?_
    refine wp_X5_isRow (fun u_ hu_ he_ => ?_) (fun hoob => ?_)
    · skip
      subst he_; obtain ⟨m_, t1_, t2_, t3_, t4_, t5_⟩ := hrel.2.1 u_ (by omega); have hU_ := isR_k (show u_ < 6 by omega); have hsu_ := (isR_sh hU_).1
      refine wa_if_eqF 34 dX5_heading_11 (by decide) (by decide) ?_
      refine wa_iload_n dX5_heading_14 rfl ?_
      refine wa_callS1 (k' := kX5_isRow) (d' := 0) dX5_heading_15 lmX5_111 ksX5_isRow (by decide) (by omega) (Nat.le_of_ble_eq_true rfl) ?_
      refine wp_X5_isRow (fun w_ hw_ hn_ => ?_) (fun hoob => ?_)
      · skip
        subst hn_; obtain ⟨o_, v1_, v2_, v3_, v4_, v5_⟩ := hrel.2.1 w_ (by omega); have hW_ := isR_k (show w_ < 6 by omega); have hsw_ := (isR_sh hW_).1
        refine wa_if_eqF 34 dX5_heading_18 (by decide) (by decide) ?_
        refine wa_iload dX5_heading_21 rfl ?_
        refine wa_iconst (nI 1) dX5_heading_23 (by decide) ?_
        refine wa_ic_lt 34 dX5_heading_24 (by decide) (fun c24_4 => ?_) (fun c24_4 => ?_)
        · try simp (disch := omega) only [nI_toInt, Int32.toInt_toInt64, e1_, e100_] at c24_4
          refine wa_bipush (-2) dX5_heading_34 (by decide) ?_
          refine wa_iret dX5_heading_36 rfl ?_
          skip
          refine MW_of (by decide) [some (.ref 73), some (.int _), some (.int _), some (.int _), some (.int t), none, none, none, none, none, none] rfl (Nat.le_of_ble_eq_true rfl) ?_
          refine wa_iload_n dX6_heading_0 rfl ?_
          refine wa_callS1 (k' := kX6_isRow) (d' := 1) dX6_heading_1 lmX6_100 ksX6_isRow (by decide) (by omega) (Nat.le_of_ble_eq_true rfl) ?_
          first | refine isRo_1 (by omega) hr_ ?_ | refine isRo_0 (by omega) hoob ?_
          refine wa_if_eq 34 dX6_heading_4 (by decide) (fun c4_2 => ?_) (fun c4_2 => ?_)
          · try simp (disch := omega) only [nI_toInt, Int32.toInt_toInt64, not_true_eq_false] at c4_2
            try (exfalso; omega)
            all_goals
              skip
              refine wa_bipush (-2) dX6_heading_34 (by decide) ?_
              refine wa_iret dX6_heading_36 rfl ?_
              exact ⟨rfl, hrel.up⟩
          · try simp (disch := omega) only [nI_toInt, Int32.toInt_toInt64, not_true_eq_false] at c4_2
            try (exfalso; omega)
            all_goals
              skip
              refine wa_iload_n dX6_heading_7 rfl ?_
              refine wa_callS1 (k' := kX6_isRow) (d' := 1) dX6_heading_8 lmX6_100 ksX6_isRow (by decide) (by omega) (Nat.le_of_ble_eq_true rfl) ?_
              first | refine isRo_1 (by omega) hu_ ?_ | refine isRo_0 (by omega) hoob ?_
              refine wa_if_eq 34 dX6_heading_11 (by decide) (fun c11_4 => ?_) (fun c11_4 => ?_)
              · try simp (disch := omega) only [nI_toInt, Int32.toInt_toInt64, not_true_eq_false] at c11_4
                try (exfalso; omega)
                all_goals
                  skip
                  refine wa_bipush (-2) dX6_heading_34 (by decide) ?_
                  refine wa_iret dX6_heading_36 rfl ?_
                  exact ⟨rfl, hrel.up⟩
              · try simp (disch := omega) only [nI_toInt, Int32.toInt_toInt64, not_true_eq_false] at c11_4
                try (exfalso; omega)
                all_goals
                  skip
                  refine wa_iload_n dX6_heading_14 rfl ?_
                  refine wa_callS1 (k' := kX6_isRow) (d' := 1) dX6_heading_15 lmX6_100 ksX6_isRow (by decide) (by omega) (Nat.le_of_ble_eq_true rfl) ?_
                  first | refine isRo_1 (by omega) hw_ ?_ | refine isRo_0 (by omega) hoob ?_
                  refine wa_if_eq 34 dX6_heading_18 (by decide) (fun c18_6 => ?_) (fun c18_6 => ?_)
                  · try simp (disch := omega) only [nI_toInt, Int32.toInt_toInt64, not_true_eq_false] at c18_6
                    try (exfalso; omega)
                    all_goals
                      skip
                      refine wa_bipush (-2) dX6_heading_34 (by decide) ?_
                      refine wa_iret dX6_heading_36 rfl ?_
                      exact ⟨rfl, hrel.up⟩
                  · try simp (disch := omega) only [nI_toInt, Int32.toInt_toInt64, not_true_eq_false] at c18_6
                    try (exfalso; omega)
                    all_goals
                      skip
                      refine wa_iload dX6_heading_21 rfl ?_
                      refine wa_i2l dX6_heading_23 ?_
                      refine wa_lconst (1) dX6_heading_24 (by decide) ?_
                      refine wa_ldc2 (100) dX6_heading_25 lcX6_167 ?_
                      refine wa_callS3 (k' := kX6_in) (d' := 0) dX6_heading_28 lmX6_60 ksX6_in (by decide) (by omega) (Nat.le_of_ble_eq_true rfl) ?_
                      refine wp_X6_in (fun hy_ => ?_) (fun hy_ => ?_)
                      · skip
                        rw [Int32.toInt_toInt64, k1L, k100_L] at hy_
                        try (exfalso; omega)
                        all_goals
                          skip
                          refine wa_if_neT 37 dX6_heading_31 (by decide) (by decide) ?_
                          skip
                      · skip
                        rw [Int32.toInt_toInt64, k1L, k100_L] at hy_
                        try (exfalso; omega)
                        all_goals
                          skip
                          refine wa_if_neF 37 dX6_heading_31 (by decide) (by decide) ?_
                          refine wa_bipush (-2) dX6_heading_34 (by decide) ?_
                          refine wa_iret dX6_heading_36 rfl ?_
                          exact ⟨rfl, hrel.up⟩
        · try simp (disch := omega) only [nI_toInt, Int32.toInt_toInt64, e1_, e100_] at c24_4
          refine wa_iload dX5_heading_27 rfl ?_
          refine wa_bipush (nI 100) dX5_heading_29 (by decide) ?_
          refine wa_ic_le 37 dX5_heading_31 (by decide) (fun c31_5 => ?_) (fun c31_5 => ?_)
          · try simp (disch := omega) only [nI_toInt, Int32.toInt_toInt64, e1_, e100_] at c31_5
            refine wa_aload_n dX5_heading_37 rfl ?_
            refine wa_getR dX5_heading_38 fgX5_18 (by first | assumption | rfl) (by rfl) ?_
            refine wa_iload_n dX5_heading_41 rfl ?_
            refine wa_aalR _ dX5_heading_42 (by first | assumption | rfl) (by first | with_reducible rfl | with_reducible assumption | with_reducible exact ix_ma _ _ _ | with_reducible exact ix_maa _ _ _ _ | with_reducible exact ix_a _ _ | with_reducible exact ix_mama _ _ _ _ _) (by omega) ?_
            rw [show arf 2 r_ = 43 + 5 * r_ from rfl]
            refine wa_astore dX5_heading_43 (by decide) ?_
            refine wa_aload_n dX5_heading_45 rfl ?_
            refine wa_getR dX5_heading_46 fgX5_18 (by first | assumption | rfl) (by rfl) ?_
            refine wa_iload_n dX5_heading_49 rfl ?_
            refine wa_aalR _ dX5_heading_50 (by first | assumption | rfl) (by first | with_reducible rfl | with_reducible assumption | with_reducible exact ix_ma _ _ _ | with_reducible exact ix_maa _ _ _ _ | with_reducible exact ix_a _ _ | with_reducible exact ix_mama _ _ _ _ _) (by omega) ?_
            rw [show arf 2 u_ = 43 + 5 * u_ from rfl]
            refine wa_astore dX5_heading_51 (by decide) ?_
            refine wa_aload_n dX5_heading_53 rfl ?_
            refine wa_getR dX5_heading_54 fgX5_18 (by first | assumption | rfl) (by rfl) ?_
            refine wa_iload_n dX5_heading_57 rfl ?_
            refine wa_aalR _ dX5_heading_58 (by first | assumption | rfl) (by first | with_reducible rfl | with_reducible assumption | with_reducible exact ix_ma _ _ _ | with_reducible exact ix_maa _ _ _ _ | with_reducible exact ix_a _ _ | with_reducible exact ix_mama _ _ _ _ _) (by omega) ?_
            rw [show arf 2 w_ = 43 + 5 * w_ from rfl]
            refine wa_astore dX5_heading_59 (by decide) ?_
            refine wa_lo (lv' := [some (.ref 0), some (.int (nI r_)), some (.int (nI u_)), some (.int (nI w_)), some (.int t), some (.ref (43 + 5 * r_)), some (.ref (43 + 5 * u_)), some (.ref (43 + 5 * w_)), none, none, none, none, none, none, none]) rfl ?_
            refine wa_aload dX5_heading_61 rfl ?_
            refine wa_callV0 (k' := kX2_size) (d' := 0) dX5_heading_63 lmX5_120 kvX2_size (by first | assumption | rfl) (by rfl) (by decide) (by omega) (Nat.le_of_ble_eq_true rfl) ?_
            refine wp_X2_size hR_ ?_
            rw [s1_]
            refine wa_aload dX5_heading_66 rfl ?_
            refine wa_callV0 (k' := kX2_size) (d' := 0) dX5_heading_68 lmX5_120 kvX2_size (by first | assumption | rfl) (by rfl) (by decide) (by omega) (Nat.le_of_ble_eq_true rfl) ?_
            refine wp_X2_size hU_ ?_
            rw [t1_]
            refine wa_ic_ne 87 dX5_heading_71 (by decide) (fun c71_8 => ?_) (fun c71_8 => ?_)
            · try simp (disch := omega) only [nI_toInt, Int32.toInt_toInt64, e1_, e100_] at c71_8
              refine wa_bipush (-3) dX5_heading_87 (by decide) ?_
              refine wa_iret dX5_heading_89 rfl ?_
              skip
              refine MW_of (by decide) [some (.ref 73), some (.int (nI r_)), some (.int (nI u_)), some (.int (nI w_)), some (.int t), none, none, none, none, none, none] rfl (Nat.le_of_ble_eq_true rfl) ?_
              refine wa_iload_n dX6_heading_0 rfl ?_
              refine wa_callS1 (k' := kX6_isRow) (d' := 1) dX6_heading_1 lmX6_100 ksX6_isRow (by decide) (by omega) (Nat.le_of_ble_eq_true rfl) ?_
              refine isRo_1 (by omega) hr_ ?_
              refine wa_if_eqF 34 dX6_heading_4 (by decide) (by decide) ?_
              refine wa_iload_n dX6_heading_7 rfl ?_
              refine wa_callS1 (k' := kX6_isRow) (d' := 1) dX6_heading_8 lmX6_100 ksX6_isRow (by decide) (by omega) (Nat.le_of_ble_eq_true rfl) ?_
              refine isRo_1 (by omega) hu_ ?_
              refine wa_if_eqF 34 dX6_heading_11 (by decide) (by decide) ?_
              refine wa_iload_n dX6_heading_14 rfl ?_
              refine wa_callS1 (k' := kX6_isRow) (d' := 1) dX6_heading_15 lmX6_100 ksX6_isRow (by decide) (by omega) (Nat.le_of_ble_eq_true rfl) ?_
              refine isRo_1 (by omega) hw_ ?_
              refine wa_if_eqF 34 dX6_heading_18 (by decide) (by decide) ?_
              refine wa_iload dX6_heading_21 rfl ?_
              refine wa_i2l dX6_heading_23 ?_
              refine wa_lconst (1) dX6_heading_24 (by decide) ?_
              refine wa_ldc2 (100) dX6_heading_25 lcX6_167 ?_
              refine wa_callS3 (k' := kX6_in) (d' := 0) dX6_heading_28 lmX6_60 ksX6_in (by decide) (by omega) (Nat.le_of_ble_eq_true rfl) ?_
              refine in_1 (by rw [Int32.toInt_toInt64, k1L, k100_L]; omega) ?_
              refine wa_if_neT 37 dX6_heading_31 (by decide) (by decide) ?_
              refine wa_aload_n dX6_heading_37 rfl ?_
              refine wa_getR dX6_heading_38 fgX6_26 (by first | assumption | rfl) (by rfl) ?_
              refine wa_iload_n dX6_heading_41 rfl ?_
              refine wa_iald _ dX6_heading_42 (by first | assumption | rfl) (by first | with_reducible rfl | with_reducible assumption | with_reducible exact ix_ma _ _ _ | with_reducible exact ix_maa _ _ _ _ | with_reducible exact ix_a _ _ | with_reducible exact ix_mama _ _ _ _ _) (by omega) ?_
              refine wa_aload_n dX6_heading_43 rfl ?_
              refine wa_getR dX6_heading_44 fgX6_26 (by first | assumption | rfl) (by rfl) ?_
              refine wa_iload_n dX6_heading_47 rfl ?_
              refine wa_iald _ dX6_heading_48 (by first | assumption | rfl) (by first | with_reducible rfl | with_reducible assumption | with_reducible exact ix_ma _ _ _ | with_reducible exact ix_maa _ _ _ _ | with_reducible exact ix_a _ _ | with_reducible exact ix_mama _ _ _ _ _) (by omega) ?_
              refine wa_ic_ne 67 dX6_heading_49 (by decide) (fun c49_5 => ?_) (fun c49_5 => ?_)
              · try simp (disch := omega) only [nI_toInt, Int32.toInt_toInt64, not_true_eq_false, s3_, t3_, v3_] at c49_5
                try (exfalso; omega)
                all_goals
                  skip
                  refine wa_bipush (-3) dX6_heading_67 (by decide) ?_
                  refine wa_iret dX6_heading_69 rfl ?_
                  exact ⟨rfl, hrel.up⟩
              · try simp (disch := omega) only [nI_toInt, Int32.toInt_toInt64, not_true_eq_false, s3_, t3_, v3_] at c49_5
                try (exfalso; omega)
                all_goals
                  skip
                  refine wa_aload_n dX6_heading_52 rfl ?_
                  refine wa_getR dX6_heading_53 fgX6_26 (by first | assumption | rfl) (by rfl) ?_
                  refine wa_iload_n dX6_heading_56 rfl ?_
                  refine wa_iald _ dX6_heading_57 (by first | assumption | rfl) (by first | with_reducible rfl | with_reducible assumption | with_reducible exact ix_ma _ _ _ | with_reducible exact ix_maa _ _ _ _ | with_reducible exact ix_a _ _ | with_reducible exact ix_mama _ _ _ _ _) (by omega) ?_
                  refine wa_aload_n dX6_heading_58 rfl ?_
                  refine wa_getR dX6_heading_59 fgX6_26 (by first | assumption | rfl) (by rfl) ?_
                  refine wa_iload_n dX6_heading_62 rfl ?_
                  refine wa_iald _ dX6_heading_63 (by first | assumption | rfl) (by first | with_reducible rfl | with_reducible assumption | with_reducible exact ix_ma _ _ _ | with_reducible exact ix_maa _ _ _ _ | with_reducible exact ix_a _ _ | with_reducible exact ix_mama _ _ _ _ _) (by omega) ?_
                  refine wa_ic_eq 70 dX6_heading_64 (by decide) (fun c64_6 => ?_) (fun c64_6 => ?_)
                  · try simp (disch := omega) only [nI_toInt, Int32.toInt_toInt64, not_true_eq_false, s3_, t3_, v3_] at c64_6
                    try (exfalso; omega)
                    all_goals
                      skip
                      skip
                  · try simp (disch := omega) only [nI_toInt, Int32.toInt_toInt64, not_true_eq_false, s3_, t3_, v3_] at c64_6
                    try (exfalso; omega)
                    all_goals
                      skip
                      refine wa_bipush (-3) dX6_heading_67 (by decide) ?_
                      refine wa_iret dX6_heading_69 rfl ?_
                      exact ⟨rfl, hrel.up⟩
            · try simp (disch := omega) only [nI_toInt, Int32.toInt_toInt64, e1_, e100_] at c71_8
              refine wa_aload dX5_heading_74 rfl ?_
              refine wa_callV0 (k' := kX2_size) (d' := 0) dX5_heading_76 lmX5_120 kvX2_size (by first | assumption | rfl) (by rfl) (by decide) (by omega) (Nat.le_of_ble_eq_true rfl) ?_
              refine wp_X2_size hR_ ?_
              rw [s1_]
              refine wa_aload dX5_heading_79 rfl ?_
              refine wa_callV0 (k' := kX2_size) (d' := 0) dX5_heading_81 lmX5_120 kvX2_size (by first | assumption | rfl) (by rfl) (by decide) (by omega) (Nat.le_of_ble_eq_true rfl) ?_
              refine wp_X2_size hW_ ?_
              rw [v1_]
              refine wa_ic_eq 90 dX5_heading_84 (by decide) (fun c84_11 => ?_) (fun c84_11 => ?_)
              · try simp (disch := omega) only [nI_toInt, Int32.toInt_toInt64, e1_, e100_] at c84_11
                obtain rfl : n_ = m_ := by omega
                obtain rfl : n_ = o_ := by omega
                refine wa_aload dX5_heading_90 rfl ?_
                refine wa_ldc2 (1000) dX5_heading_92 lcX5_140 ?_
                refine wa_callV1 (k' := kX2_anyExceeds) (d' := 2) dX5_heading_95 lmX5_164 kvX2_anyExceeds (by first | assumption | rfl) (by rfl) (by decide) (by omega) (Nat.le_of_ble_eq_true rfl) ?_
                refine wp_X2_anyExceeds (n := n_) hR_ (by omega) s1_ s2_ k1e3 (fun hx_ => ?_) (fun hx_ => ?_)
                · skip
                  refine wa_if_neT 123 dX5_heading_98 (by decide) (by decide) ?_
                  refine wa_bipush (-16) dX5_heading_123 (by decide) ?_
                  refine wa_iret dX5_heading_125 rfl ?_
                  skip
                  refine MW_of (by decide) [some (.ref 73), some (.int (nI r_)), some (.int (nI u_)), some (.int (nI w_)), some (.int t), none, none, none, none, none, none] rfl (Nat.le_of_ble_eq_true rfl) ?_
                  refine wa_iload_n dX6_heading_0 rfl ?_
                  refine wa_callS1 (k' := kX6_isRow) (d' := 1) dX6_heading_1 lmX6_100 ksX6_isRow (by decide) (by omega) (Nat.le_of_ble_eq_true rfl) ?_
                  refine isRo_1 (by omega) hr_ ?_
                  refine wa_if_eqF 34 dX6_heading_4 (by decide) (by decide) ?_
                  refine wa_iload_n dX6_heading_7 rfl ?_
                  refine wa_callS1 (k' := kX6_isRow) (d' := 1) dX6_heading_8 lmX6_100 ksX6_isRow (by decide) (by omega) (Nat.le_of_ble_eq_true rfl) ?_
                  refine isRo_1 (by omega) hu_ ?_
                  refine wa_if_eqF 34 dX6_heading_11 (by decide) (by decide) ?_
                  refine wa_iload_n dX6_heading_14 rfl ?_
                  refine wa_callS1 (k' := kX6_isRow) (d' := 1) dX6_heading_15 lmX6_100 ksX6_isRow (by decide) (by omega) (Nat.le_of_ble_eq_true rfl) ?_
                  refine isRo_1 (by omega) hw_ ?_
                  refine wa_if_eqF 34 dX6_heading_18 (by decide) (by decide) ?_
                  refine wa_iload dX6_heading_21 rfl ?_
                  refine wa_i2l dX6_heading_23 ?_
                  refine wa_lconst (1) dX6_heading_24 (by decide) ?_
                  refine wa_ldc2 (100) dX6_heading_25 lcX6_167 ?_
                  refine wa_callS3 (k' := kX6_in) (d' := 0) dX6_heading_28 lmX6_60 ksX6_in (by decide) (by omega) (Nat.le_of_ble_eq_true rfl) ?_
                  refine in_1 (by rw [Int32.toInt_toInt64, k1L, k100_L]; omega) ?_
                  refine wa_if_neT 37 dX6_heading_31 (by decide) (by decide) ?_
                  refine wa_aload_n dX6_heading_37 rfl ?_
                  refine wa_getR dX6_heading_38 fgX6_26 (by first | assumption | rfl) (by rfl) ?_
                  refine wa_iload_n dX6_heading_41 rfl ?_
                  refine wa_iald _ dX6_heading_42 (by first | assumption | rfl) (by first | with_reducible rfl | with_reducible assumption | with_reducible exact ix_ma _ _ _ | with_reducible exact ix_maa _ _ _ _ | with_reducible exact ix_a _ _ | with_reducible exact ix_mama _ _ _ _ _) (by omega) ?_
                  refine wa_aload_n dX6_heading_43 rfl ?_
                  refine wa_getR dX6_heading_44 fgX6_26 (by first | assumption | rfl) (by rfl) ?_
                  refine wa_iload_n dX6_heading_47 rfl ?_
                  refine wa_iald _ dX6_heading_48 (by first | assumption | rfl) (by first | with_reducible rfl | with_reducible assumption | with_reducible exact ix_ma _ _ _ | with_reducible exact ix_maa _ _ _ _ | with_reducible exact ix_a _ _ | with_reducible exact ix_mama _ _ _ _ _) (by omega) ?_
                  refine wa_ic_neF 67 dX6_heading_49 (by decide) (fun q => q (by rw [s3_, t3_])) ?_
                  refine wa_aload_n dX6_heading_52 rfl ?_
                  refine wa_getR dX6_heading_53 fgX6_26 (by first | assumption | rfl) (by rfl) ?_
                  refine wa_iload_n dX6_heading_56 rfl ?_
                  refine wa_iald _ dX6_heading_57 (by first | assumption | rfl) (by first | with_reducible rfl | with_reducible assumption | with_reducible exact ix_ma _ _ _ | with_reducible exact ix_maa _ _ _ _ | with_reducible exact ix_a _ _ | with_reducible exact ix_mama _ _ _ _ _) (by omega) ?_
                  refine wa_aload_n dX6_heading_58 rfl ?_
                  refine wa_getR dX6_heading_59 fgX6_26 (by first | assumption | rfl) (by rfl) ?_
                  refine wa_iload_n dX6_heading_62 rfl ?_
                  refine wa_iald _ dX6_heading_63 (by first | assumption | rfl) (by first | with_reducible rfl | with_reducible assumption | with_reducible exact ix_ma _ _ _ | with_reducible exact ix_maa _ _ _ _ | with_reducible exact ix_a _ _ | with_reducible exact ix_mama _ _ _ _ _) (by omega) ?_
                  refine wa_ic_eqT 70 dX6_heading_64 (by decide) (by rw [s3_, v3_]) ?_
                  refine wa_aload_n dX6_heading_70 rfl ?_
                  refine wa_iload_n dX6_heading_71 rfl ?_
                  refine wa_callV1 (k' := kX6_isNear) (d' := 1) dX6_heading_72 lmX6_169 kvX6_isNear (by first | assumption | rfl) (by rfl) (by decide) (by omega) (Nat.le_of_ble_eq_true rfl) ?_
                  refine wp_X6_isNear (n := n_) (by omega) hr_ s3_ s2_ (fun hi_ => ?_) (fun hi_ => ?_)
                  · skip
                    refine wa_if_eqF 94 dX6_heading_75 (by decide) (by decide) ?_
                    refine wa_aload_n dX6_heading_78 rfl ?_
                    refine wa_iload_n dX6_heading_79 rfl ?_
                    refine wa_callV1 (k' := kX6_isNear) (d' := 1) dX6_heading_80 lmX6_169 kvX6_isNear (by first | assumption | rfl) (by rfl) (by decide) (by omega) (Nat.le_of_ble_eq_true rfl) ?_
                    refine wp_X6_isNear (n := n_) (by omega) hu_ t3_ s2_ (fun hj_ => ?_) (fun hj_ => ?_)
                    · skip
                      refine wa_if_eqF 94 dX6_heading_83 (by decide) (by decide) ?_
                      refine wa_aload_n dX6_heading_86 rfl ?_
                      refine wa_iload_n dX6_heading_87 rfl ?_
                      refine wa_callV1 (k' := kX6_isNear) (d' := 1) dX6_heading_88 lmX6_169 kvX6_isNear (by first | assumption | rfl) (by rfl) (by decide) (by omega) (Nat.le_of_ble_eq_true rfl) ?_
                      refine wp_X6_isNear (n := n_) (by omega) hw_ v3_ s2_ (fun hl_ => ?_) (fun hl_ => ?_)
                      · skip
                        refine wa_if_neT 97 dX6_heading_91 (by decide) (by decide) ?_
                        first | exact absurd (inB_c (f := mN μ r_) s4_ hi_) hx_ | exact absurd (inB_c (f := mN μ u_) t4_ hj_) hy_ | exact absurd (inB_c (f := mN μ w_) v4_ hl_) hz_
                      · skip
                        refine wa_if_neF 97 dX6_heading_91 (by decide) (by decide) ?_
                        refine wa_bipush (-16) dX6_heading_94 (by decide) ?_
                        refine wa_iret dX6_heading_96 rfl ?_
                        exact ⟨rfl, hrel.up⟩
                    · skip
                      refine wa_if_eqT 94 dX6_heading_83 (by decide) (by decide) ?_
                      refine wa_bipush (-16) dX6_heading_94 (by decide) ?_
                      refine wa_iret dX6_heading_96 rfl ?_
                      exact ⟨rfl, hrel.up⟩
                  · skip
                    refine wa_if_eqT 94 dX6_heading_75 (by decide) (by decide) ?_
                    refine wa_bipush (-16) dX6_heading_94 (by decide) ?_
                    refine wa_iret dX6_heading_96 rfl ?_
                    exact ⟨rfl, hrel.up⟩
                · skip
                  refine wa_if_neF 123 dX5_heading_98 (by decide) (by decide) ?_
                  refine wa_aload dX5_heading_101 rfl ?_
                  refine wa_ldc2 (1000) dX5_heading_103 lcX5_140 ?_
                  refine wa_callV1 (k' := kX2_anyExceeds) (d' := 2) dX5_heading_106 lmX5_164 kvX2_anyExceeds (by first | assumption | rfl) (by rfl) (by decide) (by omega) (Nat.le_of_ble_eq_true rfl) ?_
                  refine wp_X2_anyExceeds (n := n_) hU_ (by omega) t1_ s2_ k1e3 (fun hy_ => ?_) (fun hy_ => ?_)
                  · skip
                    refine wa_if_neT 123 dX5_heading_109 (by decide) (by decide) ?_
                    refine wa_bipush (-16) dX5_heading_123 (by decide) ?_
                    refine wa_iret dX5_heading_125 rfl ?_
                    skip
                    refine MW_of (by decide) [some (.ref 73), some (.int (nI r_)), some (.int (nI u_)), some (.int (nI w_)), some (.int t), none, none, none, none, none, none] rfl (Nat.le_of_ble_eq_true rfl) ?_
                    refine wa_iload_n dX6_heading_0 rfl ?_
                    refine wa_callS1 (k' := kX6_isRow) (d' := 1) dX6_heading_1 lmX6_100 ksX6_isRow (by decide) (by omega) (Nat.le_of_ble_eq_true rfl) ?_
                    refine isRo_1 (by omega) hr_ ?_
                    refine wa_if_eqF 34 dX6_heading_4 (by decide) (by decide) ?_
                    refine wa_iload_n dX6_heading_7 rfl ?_
                    refine wa_callS1 (k' := kX6_isRow) (d' := 1) dX6_heading_8 lmX6_100 ksX6_isRow (by decide) (by omega) (Nat.le_of_ble_eq_true rfl) ?_
                    refine isRo_1 (by omega) hu_ ?_
                    refine wa_if_eqF 34 dX6_heading_11 (by decide) (by decide) ?_
                    refine wa_iload_n dX6_heading_14 rfl ?_
                    refine wa_callS1 (k' := kX6_isRow) (d' := 1) dX6_heading_15 lmX6_100 ksX6_isRow (by decide) (by omega) (Nat.le_of_ble_eq_true rfl) ?_
                    refine isRo_1 (by omega) hw_ ?_
                    refine wa_if_eqF 34 dX6_heading_18 (by decide) (by decide) ?_
                    refine wa_iload dX6_heading_21 rfl ?_
                    refine wa_i2l dX6_heading_23 ?_
                    refine wa_lconst (1) dX6_heading_24 (by decide) ?_
                    refine wa_ldc2 (100) dX6_heading_25 lcX6_167 ?_
                    refine wa_callS3 (k' := kX6_in) (d' := 0) dX6_heading_28 lmX6_60 ksX6_in (by decide) (by omega) (Nat.le_of_ble_eq_true rfl) ?_
                    refine in_1 (by rw [Int32.toInt_toInt64, k1L, k100_L]; omega) ?_
                    refine wa_if_neT 37 dX6_heading_31 (by decide) (by decide) ?_
                    refine wa_aload_n dX6_heading_37 rfl ?_
                    refine wa_getR dX6_heading_38 fgX6_26 (by first | assumption | rfl) (by rfl) ?_
                    refine wa_iload_n dX6_heading_41 rfl ?_
                    refine wa_iald _ dX6_heading_42 (by first | assumption | rfl) (by first | with_reducible rfl | with_reducible assumption | with_reducible exact ix_ma _ _ _ | with_reducible exact ix_maa _ _ _ _ | with_reducible exact ix_a _ _ | with_reducible exact ix_mama _ _ _ _ _) (by omega) ?_
                    refine wa_aload_n dX6_heading_43 rfl ?_
                    refine wa_getR dX6_heading_44 fgX6_26 (by first | assumption | rfl) (by rfl) ?_
                    refine wa_iload_n dX6_heading_47 rfl ?_
                    refine wa_iald _ dX6_heading_48 (by first | assumption | rfl) (by first | with_reducible rfl | with_reducible assumption | with_reducible exact ix_ma _ _ _ | with_reducible exact ix_maa _ _ _ _ | with_reducible exact ix_a _ _ | with_reducible exact ix_mama _ _ _ _ _) (by omega) ?_
                    refine wa_ic_neF 67 dX6_heading_49 (by decide) (fun q => q (by rw [s3_, t3_])) ?_
                    refine wa_aload_n dX6_heading_52 rfl ?_
                    refine wa_getR dX6_heading_53 fgX6_26 (by first | assumption | rfl) (by rfl) ?_
                    refine wa_iload_n dX6_heading_56 rfl ?_
                    refine wa_iald _ dX6_heading_57 (by first | assumption | rfl) (by first | with_reducible rfl | with_reducible assumption | with_reducible exact ix_ma _ _ _ | with_reducible exact ix_maa _ _ _ _ | with_reducible exact ix_a _ _ | with_reducible exact ix_mama _ _ _ _ _) (by omega) ?_
                    refine wa_aload_n dX6_heading_58 rfl ?_
                    refine wa_getR dX6_heading_59 fgX6_26 (by first | assumption | rfl) (by rfl) ?_
                    refine wa_iload_n dX6_heading_62 rfl ?_
                    refine wa_iald _ dX6_heading_63 (by first | assumption | rfl) (by first | with_reducible rfl | with_reducible assumption | with_reducible exact ix_ma _ _ _ | with_reducible exact ix_maa _ _ _ _ | with_reducible exact ix_a _ _ | with_reducible exact ix_mama _ _ _ _ _) (by omega) ?_
                    refine wa_ic_eqT 70 dX6_heading_64 (by decide) (by rw [s3_, v3_]) ?_
                    refine wa_aload_n dX6_heading_70 rfl ?_
                    refine wa_iload_n dX6_heading_71 rfl ?_
                    refine wa_callV1 (k' := kX6_isNear) (d' := 1) dX6_heading_72 lmX6_169 kvX6_isNear (by first | assumption | rfl) (by rfl) (by decide) (by omega) (Nat.le_of_ble_eq_true rfl) ?_
                    refine wp_X6_isNear (n := n_) (by omega) hr_ s3_ s2_ (fun hi_ => ?_) (fun hi_ => ?_)
                    · skip
                      refine wa_if_eqF 94 dX6_heading_75 (by decide) (by decide) ?_
                      refine wa_aload_n dX6_heading_78 rfl ?_
                      refine wa_iload_n dX6_heading_79 rfl ?_
                      refine wa_callV1 (k' := kX6_isNear) (d' := 1) dX6_heading_80 lmX6_169 kvX6_isNear (by first | assumption | rfl) (by rfl) (by decide) (by omega) (Nat.le_of_ble_eq_true rfl) ?_
                      refine wp_X6_isNear (n := n_) (by omega) hu_ t3_ s2_ (fun hj_ => ?_) (fun hj_ => ?_)
                      · skip
                        refine wa_if_eqF 94 dX6_heading_83 (by decide) (by decide) ?_
                        refine wa_aload_n dX6_heading_86 rfl ?_
                        refine wa_iload_n dX6_heading_87 rfl ?_
                        refine wa_callV1 (k' := kX6_isNear) (d' := 1) dX6_heading_88 lmX6_169 kvX6_isNear (by first | assumption | rfl) (by rfl) (by decide) (by omega) (Nat.le_of_ble_eq_true rfl) ?_
                        refine wp_X6_isNear (n := n_) (by omega) hw_ v3_ s2_ (fun hl_ => ?_) (fun hl_ => ?_)
                        · skip
                          refine wa_if_neT 97 dX6_heading_91 (by decide) (by decide) ?_
                          first | exact absurd (inB_c (f := mN μ r_) s4_ hi_) hx_ | exact absurd (inB_c (f := mN μ u_) t4_ hj_) hy_ | exact absurd (inB_c (f := mN μ w_) v4_ hl_) hz_
                        · skip
                          refine wa_if_neF 97 dX6_heading_91 (by decide) (by decide) ?_
                          refine wa_bipush (-16) dX6_heading_94 (by decide) ?_
                          refine wa_iret dX6_heading_96 rfl ?_
                          exact ⟨rfl, hrel.up⟩
                      · skip
                        refine wa_if_eqT 94 dX6_heading_83 (by decide) (by decide) ?_
                        refine wa_bipush (-16) dX6_heading_94 (by decide) ?_
                        refine wa_iret dX6_heading_96 rfl ?_
                        exact ⟨rfl, hrel.up⟩
                    · skip
                      refine wa_if_eqT 94 dX6_heading_75 (by decide) (by decide) ?_
                      refine wa_bipush (-16) dX6_heading_94 (by decide) ?_
                      refine wa_iret dX6_heading_96 rfl ?_
                      exact ⟨rfl, hrel.up⟩
                  · skip
                    refine wa_if_neF 123 dX5_heading_109 (by decide) (by decide) ?_
                    refine wa_aload dX5_heading_112 rfl ?_
                    refine wa_ldc2 (1000) dX5_heading_114 lcX5_140 ?_
                    refine wa_callV1 (k' := kX2_anyExceeds) (d' := 2) dX5_heading_117 lmX5_164 kvX2_anyExceeds (by first | assumption | rfl) (by rfl) (by decide) (by omega) (Nat.le_of_ble_eq_true rfl) ?_
                    refine wp_X2_anyExceeds (n := n_) hW_ (by omega) v1_ s2_ k1e3 (fun hz_ => ?_) (fun hz_ => ?_)
                    · skip
                      refine wa_if_eqF 126 dX5_heading_120 (by decide) (by decide) ?_
                      refine wa_bipush (-16) dX5_heading_123 (by decide) ?_
                      refine wa_iret dX5_heading_125 rfl ?_
                      skip
                      refine MW_of (by decide) [some (.ref 73), some (.int (nI r_)), some (.int (nI u_)), some (.int (nI w_)), some (.int t), none, none, none, none, none, none] rfl (Nat.le_of_ble_eq_true rfl) ?_
                      refine wa_iload_n dX6_heading_0 rfl ?_
                      refine wa_callS1 (k' := kX6_isRow) (d' := 1) dX6_heading_1 lmX6_100 ksX6_isRow (by decide) (by omega) (Nat.le_of_ble_eq_true rfl) ?_
                      refine isRo_1 (by omega) hr_ ?_
                      refine wa_if_eqF 34 dX6_heading_4 (by decide) (by decide) ?_
                      refine wa_iload_n dX6_heading_7 rfl ?_
                      refine wa_callS1 (k' := kX6_isRow) (d' := 1) dX6_heading_8 lmX6_100 ksX6_isRow (by decide) (by omega) (Nat.le_of_ble_eq_true rfl) ?_
                      refine isRo_1 (by omega) hu_ ?_
                      refine wa_if_eqF 34 dX6_heading_11 (by decide) (by decide) ?_
                      refine wa_iload_n dX6_heading_14 rfl ?_
                      refine wa_callS1 (k' := kX6_isRow) (d' := 1) dX6_heading_15 lmX6_100 ksX6_isRow (by decide) (by omega) (Nat.le_of_ble_eq_true rfl) ?_
                      refine isRo_1 (by omega) hw_ ?_
                      refine wa_if_eqF 34 dX6_heading_18 (by decide) (by decide) ?_
                      refine wa_iload dX6_heading_21 rfl ?_
                      refine wa_i2l dX6_heading_23 ?_
                      refine wa_lconst (1) dX6_heading_24 (by decide) ?_
                      refine wa_ldc2 (100) dX6_heading_25 lcX6_167 ?_
                      refine wa_callS3 (k' := kX6_in) (d' := 0) dX6_heading_28 lmX6_60 ksX6_in (by decide) (by omega) (Nat.le_of_ble_eq_true rfl) ?_
                      refine in_1 (by rw [Int32.toInt_toInt64, k1L, k100_L]; omega) ?_
                      refine wa_if_neT 37 dX6_heading_31 (by decide) (by decide) ?_
                      refine wa_aload_n dX6_heading_37 rfl ?_
                      refine wa_getR dX6_heading_38 fgX6_26 (by first | assumption | rfl) (by rfl) ?_
                      refine wa_iload_n dX6_heading_41 rfl ?_
                      refine wa_iald _ dX6_heading_42 (by first | assumption | rfl) (by first | with_reducible rfl | with_reducible assumption | with_reducible exact ix_ma _ _ _ | with_reducible exact ix_maa _ _ _ _ | with_reducible exact ix_a _ _ | with_reducible exact ix_mama _ _ _ _ _) (by omega) ?_
                      refine wa_aload_n dX6_heading_43 rfl ?_
                      refine wa_getR dX6_heading_44 fgX6_26 (by first | assumption | rfl) (by rfl) ?_
                      refine wa_iload_n dX6_heading_47 rfl ?_
                      refine wa_iald _ dX6_heading_48 (by first | assumption | rfl) (by first | with_reducible rfl | with_reducible assumption | with_reducible exact ix_ma _ _ _ | with_reducible exact ix_maa _ _ _ _ | with_reducible exact ix_a _ _ | with_reducible exact ix_mama _ _ _ _ _) (by omega) ?_
                      refine wa_ic_neF 67 dX6_heading_49 (by decide) (fun q => q (by rw [s3_, t3_])) ?_
                      refine wa_aload_n dX6_heading_52 rfl ?_
                      refine wa_getR dX6_heading_53 fgX6_26 (by first | assumption | rfl) (by rfl) ?_
                      refine wa_iload_n dX6_heading_56 rfl ?_
                      refine wa_iald _ dX6_heading_57 (by first | assumption | rfl) (by first | with_reducible rfl | with_reducible assumption | with_reducible exact ix_ma _ _ _ | with_reducible exact ix_maa _ _ _ _ | with_reducible exact ix_a _ _ | with_reducible exact ix_mama _ _ _ _ _) (by omega) ?_
                      refine wa_aload_n dX6_heading_58 rfl ?_
                      refine wa_getR dX6_heading_59 fgX6_26 (by first | assumption | rfl) (by rfl) ?_
                      refine wa_iload_n dX6_heading_62 rfl ?_
                      refine wa_iald _ dX6_heading_63 (by first | assumption | rfl) (by first | with_reducible rfl | with_reducible assumption | with_reducible exact ix_ma _ _ _ | with_reducible exact ix_maa _ _ _ _ | with_reducible exact ix_a _ _ | with_reducible exact ix_mama _ _ _ _ _) (by omega) ?_
                      refine wa_ic_eqT 70 dX6_heading_64 (by decide) (by rw [s3_, v3_]) ?_
                      refine wa_aload_n dX6_heading_70 rfl ?_
                      refine wa_iload_n dX6_heading_71 rfl ?_
                      refine wa_callV1 (k' := kX6_isNear) (d' := 1) dX6_heading_72 lmX6_169 kvX6_isNear (by first | assumption | rfl) (by rfl) (by decide) (by omega) (Nat.le_of_ble_eq_true rfl) ?_
                      refine wp_X6_isNear (n := n_) (by omega) hr_ s3_ s2_ (fun hi_ => ?_) (fun hi_ => ?_)
                      · skip
                        refine wa_if_eqF 94 dX6_heading_75 (by decide) (by decide) ?_
                        refine wa_aload_n dX6_heading_78 rfl ?_
                        refine wa_iload_n dX6_heading_79 rfl ?_
                        refine wa_callV1 (k' := kX6_isNear) (d' := 1) dX6_heading_80 lmX6_169 kvX6_isNear (by first | assumption | rfl) (by rfl) (by decide) (by omega) (Nat.le_of_ble_eq_true rfl) ?_
                        refine wp_X6_isNear (n := n_) (by omega) hu_ t3_ s2_ (fun hj_ => ?_) (fun hj_ => ?_)
                        · skip
                          refine wa_if_eqF 94 dX6_heading_83 (by decide) (by decide) ?_
                          refine wa_aload_n dX6_heading_86 rfl ?_
                          refine wa_iload_n dX6_heading_87 rfl ?_
                          refine wa_callV1 (k' := kX6_isNear) (d' := 1) dX6_heading_88 lmX6_169 kvX6_isNear (by first | assumption | rfl) (by rfl) (by decide) (by omega) (Nat.le_of_ble_eq_true rfl) ?_
                          refine wp_X6_isNear (n := n_) (by omega) hw_ v3_ s2_ (fun hl_ => ?_) (fun hl_ => ?_)
                          · skip
                            refine wa_if_neT 97 dX6_heading_91 (by decide) (by decide) ?_
                            first | exact absurd (inB_c (f := mN μ r_) s4_ hi_) hx_ | exact absurd (inB_c (f := mN μ u_) t4_ hj_) hy_ | exact absurd (inB_c (f := mN μ w_) v4_ hl_) hz_
                          · skip
                            refine wa_if_neF 97 dX6_heading_91 (by decide) (by decide) ?_
                            refine wa_bipush (-16) dX6_heading_94 (by decide) ?_
                            refine wa_iret dX6_heading_96 rfl ?_
                            exact ⟨rfl, hrel.up⟩
                        · skip
                          refine wa_if_eqT 94 dX6_heading_83 (by decide) (by decide) ?_
                          refine wa_bipush (-16) dX6_heading_94 (by decide) ?_
                          refine wa_iret dX6_heading_96 rfl ?_
                          exact ⟨rfl, hrel.up⟩
                      · skip
                        refine wa_if_eqT 94 dX6_heading_75 (by decide) (by decide) ?_
                        refine wa_bipush (-16) dX6_heading_94 (by decide) ?_
                        refine wa_iret dX6_heading_96 rfl ?_
                        exact ⟨rfl, hrel.up⟩
                    · skip
                      refine wa_if_eqT 126 dX5_heading_120 (by decide) (by decide) ?_
                      refine wa_aload dX5_heading_126 rfl ?_
                      refine wa_aload dX5_heading_128 rfl ?_
                      refine wa_callV1 (k' := kX2_products) (d' := 0) dX5_heading_130 lmX5_168 kvX2_products (by first | assumption | rfl) (by rfl) (by decide) (by omega) (Nat.le_of_ble_eq_true rfl) ?_
                      refine wp_X2_products (n := n_) hR_ hU_ s1_ s2_ ?_
                      refine wa_lstore dX5_heading_133 (by decide) ?_
                      refine wa_lo (lv' := [some (.ref 0), some (.int (nI r_)), some (.int (nI u_)), some (.int (nI w_)), some (.int t), some (.ref (43 + 5 * r_)), some (.ref (43 + 5 * u_)), some (.ref (43 + 5 * w_)), some (.long (prS (μ.2 (43 + 5 * r_ + 1)) (μ.2 (43 + 5 * u_ + 1)) n_)), none, none, none, none, none, none]) rfl ?_
                      refine wa_aload dX5_heading_135 rfl ?_
                      refine wa_aload dX5_heading_137 rfl ?_
                      refine wa_callV1 (k' := kX2_products) (d' := 0) dX5_heading_139 lmX5_168 kvX2_products (by first | assumption | rfl) (by rfl) (by decide) (by omega) (Nat.le_of_ble_eq_true rfl) ?_
                      refine wp_X2_products (n := n_) hR_ hW_ s1_ s2_ ?_
                      refine wa_lstore dX5_heading_142 (by decide) ?_
                      refine wa_lo (lv' := [some (.ref 0), some (.int (nI r_)), some (.int (nI u_)), some (.int (nI w_)), some (.int t), some (.ref (43 + 5 * r_)), some (.ref (43 + 5 * u_)), some (.ref (43 + 5 * w_)), some (.long (prS (μ.2 (43 + 5 * r_ + 1)) (μ.2 (43 + 5 * u_ + 1)) n_)), none, some (.long (prS (μ.2 (43 + 5 * r_ + 1)) (μ.2 (43 + 5 * w_ + 1)) n_)), none, none, none, none]) rfl ?_
                      refine wa_aload dX5_heading_144 rfl ?_
                      refine wa_aload dX5_heading_146 rfl ?_
                      refine wa_callV1 (k' := kX2_products) (d' := 0) dX5_heading_148 lmX5_168 kvX2_products (by first | assumption | rfl) (by rfl) (by decide) (by omega) (Nat.le_of_ble_eq_true rfl) ?_
                      refine wp_X2_products (n := n_) hU_ hU_ t1_ s2_ ?_
                      refine wa_aload dX5_heading_151 rfl ?_
                      refine wa_aload dX5_heading_153 rfl ?_
                      refine wa_callV1 (k' := kX2_products) (d' := 0) dX5_heading_155 lmX5_168 kvX2_products (by first | assumption | rfl) (by rfl) (by decide) (by omega) (Nat.le_of_ble_eq_true rfl) ?_
                      refine wp_X2_products (n := n_) hW_ hW_ v1_ s2_ ?_
                      refine wa_ladd dX5_heading_158 ?_
                      refine wa_lstore dX5_heading_159 (by decide) ?_
                      refine wa_lo (lv' := [some (.ref 0), some (.int (nI r_)), some (.int (nI u_)), some (.int (nI w_)), some (.int t), some (.ref (43 + 5 * r_)), some (.ref (43 + 5 * u_)), some (.ref (43 + 5 * w_)), some (.long (prS (μ.2 (43 + 5 * r_ + 1)) (μ.2 (43 + 5 * u_ + 1)) n_)), none, some (.long (prS (μ.2 (43 + 5 * r_ + 1)) (μ.2 (43 + 5 * w_ + 1)) n_)), none, some (.long (prS (μ.2 (43 + 5 * u_ + 1)) (μ.2 (43 + 5 * u_ + 1)) n_ + prS (μ.2 (43 + 5 * w_ + 1)) (μ.2 (43 + 5 * w_ + 1)) n_)), none, none]) rfl ?_
                      refine wa_ldc2 (100) dX5_heading_161 lcX5_197 ?_
                      refine wa_lload dX5_heading_164 rfl ?_
                      refine wa_lload dX5_heading_166 rfl ?_
                      refine wa_lmul dX5_heading_168 ?_
                      refine wa_lload dX5_heading_169 rfl ?_
                      refine wa_lload dX5_heading_171 rfl ?_
                      refine wa_lmul dX5_heading_173 ?_
                      refine wa_ladd dX5_heading_174 ?_
                      refine wa_lmul dX5_heading_175 ?_
                      refine wa_iload dX5_heading_176 rfl ?_
                      refine wa_i2l dX5_heading_178 ?_
                      refine wa_aload dX5_heading_179 rfl ?_
                      refine wa_aload dX5_heading_181 rfl ?_
                      refine wa_callV1 (k' := kX2_products) (d' := 0) dX5_heading_183 lmX5_168 kvX2_products (by first | assumption | rfl) (by rfl) (by decide) (by omega) (Nat.le_of_ble_eq_true rfl) ?_
                      refine wp_X2_products (n := n_) hR_ hR_ s1_ s2_ ?_
                      refine wa_lmul dX5_heading_186 ?_
                      refine wa_lload dX5_heading_187 rfl ?_
                      refine wa_lmul dX5_heading_189 ?_
                      refine wa_lc_lt 198 dX5_heading_190 dX5_heading_191 (by decide) (fun c190_20 => ?_) (fun c190_20 => ?_)
                      · try simp (disch := omega) only [nI_toInt, Int32.toInt_toInt64, e1_, e100_] at c190_20
                        refine wa_iconst (nI 0) dX5_heading_198 (by decide) ?_
                        refine wa_istore dX5_heading_199 (by decide) ?_
                        refine wa_iload dX5_heading_201 rfl ?_
                        refine wa_if_eqT 216 dX5_heading_203 (by decide) (by decide) ?_
                        refine wa_iconst (-1) dX5_heading_216 (by decide) ?_
                        refine wa_iret dX5_heading_217 rfl ?_
                        have i1_ := inB_c (g := mN μ r_) (fun i hi => (s4_ i hi).symm) hx_
                        have i2_ := inB_c (g := mN μ u_) (fun i hi => (t4_ i hi).symm) hy_
                        have i3_ := inB_c (g := mN μ w_) (fun i hi => (v4_ i hi).symm) hz_
                        have big_ : ∀ {v : Nat → Int64}, inB v n_ 1000 → inB v n_ 200000000 := fun h i hi => by have := h i hi; omega
                        have exc_ : ∀ {v : Nat → Int64}, inB v n_ 1000 → excB v 0 n_ (nI 64).toInt 200000000 := fun h i _ hi _ => by have := h i hi; omega
                        refine MW_of (by decide) [some (.ref 73), some (.int (nI r_)), some (.int (nI u_)), some (.int (nI w_)), some (.int t), none, none, none, none, none, none] rfl (Nat.le_of_ble_eq_true rfl) ?_
                        refine wa_iload_n dX6_heading_0 rfl ?_
                        refine wa_callS1 (k' := kX6_isRow) (d' := 1) dX6_heading_1 lmX6_100 ksX6_isRow (by decide) (by omega) (Nat.le_of_ble_eq_true rfl) ?_
                        refine isRo_1 (by omega) hr_ ?_
                        refine wa_if_eqF 34 dX6_heading_4 (by decide) (by decide) ?_
                        refine wa_iload_n dX6_heading_7 rfl ?_
                        refine wa_callS1 (k' := kX6_isRow) (d' := 1) dX6_heading_8 lmX6_100 ksX6_isRow (by decide) (by omega) (Nat.le_of_ble_eq_true rfl) ?_
                        refine isRo_1 (by omega) hu_ ?_
                        refine wa_if_eqF 34 dX6_heading_11 (by decide) (by decide) ?_
                        refine wa_iload_n dX6_heading_14 rfl ?_
                        refine wa_callS1 (k' := kX6_isRow) (d' := 1) dX6_heading_15 lmX6_100 ksX6_isRow (by decide) (by omega) (Nat.le_of_ble_eq_true rfl) ?_
                        refine isRo_1 (by omega) hw_ ?_
                        refine wa_if_eqF 34 dX6_heading_18 (by decide) (by decide) ?_
                        refine wa_iload dX6_heading_21 rfl ?_
                        refine wa_i2l dX6_heading_23 ?_
                        refine wa_lconst (1) dX6_heading_24 (by decide) ?_
                        refine wa_ldc2 (100) dX6_heading_25 lcX6_167 ?_
                        refine wa_callS3 (k' := kX6_in) (d' := 0) dX6_heading_28 lmX6_60 ksX6_in (by decide) (by omega) (Nat.le_of_ble_eq_true rfl) ?_
                        refine in_1 (by rw [Int32.toInt_toInt64, k1L, k100_L]; omega) ?_
                        refine wa_if_neT 37 dX6_heading_31 (by decide) (by decide) ?_
                        refine wa_aload_n dX6_heading_37 rfl ?_
                        refine wa_getR dX6_heading_38 fgX6_26 (by first | assumption | rfl) (by rfl) ?_
                        refine wa_iload_n dX6_heading_41 rfl ?_
                        refine wa_iald _ dX6_heading_42 (by first | assumption | rfl) (by first | with_reducible rfl | with_reducible assumption | with_reducible exact ix_ma _ _ _ | with_reducible exact ix_maa _ _ _ _ | with_reducible exact ix_a _ _ | with_reducible exact ix_mama _ _ _ _ _) (by omega) ?_
                        refine wa_aload_n dX6_heading_43 rfl ?_
                        refine wa_getR dX6_heading_44 fgX6_26 (by first | assumption | rfl) (by rfl) ?_
                        refine wa_iload_n dX6_heading_47 rfl ?_
                        refine wa_iald _ dX6_heading_48 (by first | assumption | rfl) (by first | with_reducible rfl | with_reducible assumption | with_reducible exact ix_ma _ _ _ | with_reducible exact ix_maa _ _ _ _ | with_reducible exact ix_a _ _ | with_reducible exact ix_mama _ _ _ _ _) (by omega) ?_
                        refine wa_ic_neF 67 dX6_heading_49 (by decide) (fun q => q (by rw [s3_, t3_])) ?_
                        refine wa_aload_n dX6_heading_52 rfl ?_
                        refine wa_getR dX6_heading_53 fgX6_26 (by first | assumption | rfl) (by rfl) ?_
                        refine wa_iload_n dX6_heading_56 rfl ?_
                        refine wa_iald _ dX6_heading_57 (by first | assumption | rfl) (by first | with_reducible rfl | with_reducible assumption | with_reducible exact ix_ma _ _ _ | with_reducible exact ix_maa _ _ _ _ | with_reducible exact ix_a _ _ | with_reducible exact ix_mama _ _ _ _ _) (by omega) ?_
                        refine wa_aload_n dX6_heading_58 rfl ?_
                        refine wa_getR dX6_heading_59 fgX6_26 (by first | assumption | rfl) (by rfl) ?_
                        refine wa_iload_n dX6_heading_62 rfl ?_
                        refine wa_iald _ dX6_heading_63 (by first | assumption | rfl) (by first | with_reducible rfl | with_reducible assumption | with_reducible exact ix_ma _ _ _ | with_reducible exact ix_maa _ _ _ _ | with_reducible exact ix_a _ _ | with_reducible exact ix_mama _ _ _ _ _) (by omega) ?_
                        refine wa_ic_eqT 70 dX6_heading_64 (by decide) (by rw [s3_, v3_]) ?_
                        refine wa_aload_n dX6_heading_70 rfl ?_
                        refine wa_iload_n dX6_heading_71 rfl ?_
                        refine wa_callV1 (k' := kX6_isNear) (d' := 1) dX6_heading_72 lmX6_169 kvX6_isNear (by first | assumption | rfl) (by rfl) (by decide) (by omega) (Nat.le_of_ble_eq_true rfl) ?_
                        refine wp_X6_isNear (n := n_) (by omega) hr_ s3_ s2_ (fun _ => ?_) (fun q => absurd i1_ q)
                        refine wa_if_eqF 94 dX6_heading_75 (by decide) (by decide) ?_
                        refine wa_aload_n dX6_heading_78 rfl ?_
                        refine wa_iload_n dX6_heading_79 rfl ?_
                        refine wa_callV1 (k' := kX6_isNear) (d' := 1) dX6_heading_80 lmX6_169 kvX6_isNear (by first | assumption | rfl) (by rfl) (by decide) (by omega) (Nat.le_of_ble_eq_true rfl) ?_
                        refine wp_X6_isNear (n := n_) (by omega) hu_ t3_ s2_ (fun _ => ?_) (fun q => absurd i2_ q)
                        refine wa_if_eqF 94 dX6_heading_83 (by decide) (by decide) ?_
                        refine wa_aload_n dX6_heading_86 rfl ?_
                        refine wa_iload_n dX6_heading_87 rfl ?_
                        refine wa_callV1 (k' := kX6_isNear) (d' := 1) dX6_heading_88 lmX6_169 kvX6_isNear (by first | assumption | rfl) (by rfl) (by decide) (by omega) (Nat.le_of_ble_eq_true rfl) ?_
                        refine wp_X6_isNear (n := n_) (by omega) hw_ v3_ s2_ (fun _ => ?_) (fun q => absurd i3_ q)
                        refine wa_if_neT 97 dX6_heading_91 (by decide) (by decide) ?_
                        refine wa_aload_n dX6_heading_97 rfl ?_
                        refine wa_iload_n dX6_heading_98 rfl ?_
                        refine wa_iload_n dX6_heading_99 rfl ?_
                        refine wa_callV2 (k' := kX6_cross) (d' := 2) dX6_heading_100 lmX6_172 kvX6_cross (by first | assumption | rfl) (by rfl) (by decide) (by omega) (Nat.le_of_ble_eq_true rfl) ?_
                        refine wp_X6_cross (n := n_) (by omega) hr_ hu_ s3_ t3_ s2_ (fun q => absurd ⟨big_ i1_, big_ i2_⟩ q) (fun _ _ => ?_)
                        rw [prS_c (f := mN μ r_) (f2 := mN μ u_) s4_ t4_]
                        refine wa_lstore dX6_heading_103 (by decide) ?_
                        refine wa_lo (lv' := [some (.ref 73), some (.int (nI r_)), some (.int (nI u_)), some (.int (nI w_)), some (.int t), some (.long (prS (μ.2 (43 + 5 * r_ + 1)) (μ.2 (43 + 5 * u_ + 1)) n_)), none, none, none, none, none]) rfl ?_
                        refine wa_aload_n dX6_heading_105 rfl ?_
                        refine wa_iload_n dX6_heading_106 rfl ?_
                        refine wa_iload_n dX6_heading_107 rfl ?_
                        refine wa_callV2 (k' := kX6_cross) (d' := 2) dX6_heading_108 lmX6_172 kvX6_cross (by first | assumption | rfl) (by rfl) (by decide) (by omega) (Nat.le_of_ble_eq_true rfl) ?_
                        refine wp_X6_cross (n := n_) (by omega) hr_ hw_ s3_ v3_ s2_ (fun q => absurd ⟨big_ i1_, big_ i3_⟩ q) (fun _ _ => ?_)
                        rw [prS_c (f := mN μ r_) (f2 := mN μ w_) s4_ v4_]
                        refine wa_lstore dX6_heading_111 (by decide) ?_
                        refine wa_lo (lv' := [some (.ref 73), some (.int (nI r_)), some (.int (nI u_)), some (.int (nI w_)), some (.int t), some (.long (prS (μ.2 (43 + 5 * r_ + 1)) (μ.2 (43 + 5 * u_ + 1)) n_)), none, some (.long (prS (μ.2 (43 + 5 * r_ + 1)) (μ.2 (43 + 5 * w_ + 1)) n_)), none, none, none]) rfl ?_
                        refine wa_iload dX6_heading_113 rfl ?_
                        refine wa_i2l dX6_heading_115 ?_
                        refine wa_aload_n dX6_heading_116 rfl ?_
                        refine wa_iload_n dX6_heading_117 rfl ?_
                        refine wa_iconst (nI 0) dX6_heading_118 (by decide) ?_
                        refine wa_bipush (nI 64) dX6_heading_119 (by decide) ?_
                        refine wa_callV3 (k' := kX6_force) (d' := 2) dX6_heading_121 lmX6_175 kvX6_force (by first | assumption | rfl) (by rfl) (by decide) (by omega) (Nat.le_of_ble_eq_true rfl) ?_
                        refine wp_X6_force (a := 0) (n := n_) (by omega) hr_ s3_ s2_ (by omega) (by decide) (fun q => absurd (exc_ i1_) q) (fun _ => ?_)
                        rw [show (0 : Int64) = prS (mN μ r_) (mN μ r_) 0 from rfl, sqF_prS _ (by rw [nI64]; omega) 64 0 (by omega) (by omega), prS_c (f := mN μ r_) (f2 := mN μ r_) s4_ s4_]
                        refine wa_lmul dX6_heading_124 ?_
                        refine wa_aload_n dX6_heading_125 rfl ?_
                        refine wa_iload_n dX6_heading_126 rfl ?_
                        refine wa_iconst (nI 0) dX6_heading_127 (by decide) ?_
                        refine wa_bipush (nI 64) dX6_heading_128 (by decide) ?_
                        refine wa_callV3 (k' := kX6_force) (d' := 2) dX6_heading_130 lmX6_175 kvX6_force (by first | assumption | rfl) (by rfl) (by decide) (by omega) (Nat.le_of_ble_eq_true rfl) ?_
                        refine wp_X6_force (a := 0) (n := n_) (by omega) hu_ t3_ s2_ (by omega) (by decide) (fun q => absurd (exc_ i2_) q) (fun _ => ?_)
                        rw [show (0 : Int64) = prS (mN μ u_) (mN μ u_) 0 from rfl, sqF_prS _ (by rw [nI64]; omega) 64 0 (by omega) (by omega), prS_c (f := mN μ u_) (f2 := mN μ u_) t4_ t4_]
                        refine wa_aload_n dX6_heading_133 rfl ?_
                        refine wa_iload_n dX6_heading_134 rfl ?_
                        refine wa_iconst (nI 0) dX6_heading_135 (by decide) ?_
                        refine wa_bipush (nI 64) dX6_heading_136 (by decide) ?_
                        refine wa_callV3 (k' := kX6_force) (d' := 2) dX6_heading_138 lmX6_175 kvX6_force (by first | assumption | rfl) (by rfl) (by decide) (by omega) (Nat.le_of_ble_eq_true rfl) ?_
                        refine wp_X6_force (a := 0) (n := n_) (by omega) hw_ v3_ s2_ (by omega) (by decide) (fun q => absurd (exc_ i3_) q) (fun _ => ?_)
                        rw [show (0 : Int64) = prS (mN μ w_) (mN μ w_) 0 from rfl, sqF_prS _ (by rw [nI64]; omega) 64 0 (by omega) (by omega), prS_c (f := mN μ w_) (f2 := mN μ w_) v4_ v4_]
                        refine wa_ladd dX6_heading_141 ?_
                        refine wa_lmul dX6_heading_142 ?_
                        refine wa_lstore dX6_heading_143 (by decide) ?_
                        refine wa_heading rfl rfl (neg_z (prS_le s2_ hx_ hy_).1) (neg_z (prS_le s2_ hx_ hz_).1) (fun q1_ q2_ => ⟨?_, hrel.up⟩) (fun q1_ => ⟨?_, hrel.up⟩) (fun q1_ => ⟨?_, hrel.up⟩)
                        · first | rfl | rw [q1_, q2_, ei_00]
                        · first | rfl | (exfalso; omega)
                        · first | rfl | (exfalso; omega)
                      · try simp (disch := omega) only [nI_toInt, Int32.toInt_toInt64, e1_, e100_] at c190_20
                        refine wa_iconst (nI 1) dX5_heading_194 (by decide) ?_
                        refine wa_goto 199 dX5_heading_195 (by decide) ?_
                        refine wa_istore dX5_heading_199 (by decide) ?_
                        refine wa_iload dX5_heading_201 rfl ?_
                        refine wa_if_eqF 216 dX5_heading_203 (by decide) (by decide) ?_
                        refine wa_lload dX5_heading_206 rfl ?_
                        refine wa_lload dX5_heading_208 rfl ?_
                        refine wa_callS2 (k' := kX5_eighth) (d' := 0) dX5_heading_210 lmX5_199 ksX5_eighth (by decide) (by omega) (Nat.le_of_ble_eq_true rfl) ?_
                        refine wp_X5_eighth rfl rfl (neg_z (prS_le s2_ hx_ hy_).1) (neg_z (prS_le s2_ hx_ hz_).1) ?_
                        refine wa_goto 217 dX5_heading_213 (by decide) ?_
                        refine wa_iret dX5_heading_217 rfl ?_
                        have i1_ := inB_c (g := mN μ r_) (fun i hi => (s4_ i hi).symm) hx_
                        have i2_ := inB_c (g := mN μ u_) (fun i hi => (t4_ i hi).symm) hy_
                        have i3_ := inB_c (g := mN μ w_) (fun i hi => (v4_ i hi).symm) hz_
                        have big_ : ∀ {v : Nat → Int64}, inB v n_ 1000 → inB v n_ 200000000 := fun h i hi => by have := h i hi; omega
                        have exc_ : ∀ {v : Nat → Int64}, inB v n_ 1000 → excB v 0 n_ (nI 64).toInt 200000000 := fun h i _ hi _ => by have := h i hi; omega
                        refine MW_of (by decide) [some (.ref 73), some (.int (nI r_)), some (.int (nI u_)), some (.int (nI w_)), some (.int t), none, none, none, none, none, none] rfl (Nat.le_of_ble_eq_true rfl) ?_
                        refine wa_iload_n dX6_heading_0 rfl ?_
                        refine wa_callS1 (k' := kX6_isRow) (d' := 1) dX6_heading_1 lmX6_100 ksX6_isRow (by decide) (by omega) (Nat.le_of_ble_eq_true rfl) ?_
                        refine isRo_1 (by omega) hr_ ?_
                        refine wa_if_eqF 34 dX6_heading_4 (by decide) (by decide) ?_
                        refine wa_iload_n dX6_heading_7 rfl ?_
                        refine wa_callS1 (k' := kX6_isRow) (d' := 1) dX6_heading_8 lmX6_100 ksX6_isRow (by decide) (by omega) (Nat.le_of_ble_eq_true rfl) ?_
                        refine isRo_1 (by omega) hu_ ?_
                        refine wa_if_eqF 34 dX6_heading_11 (by decide) (by decide) ?_
                        refine wa_iload_n dX6_heading_14 rfl ?_
                        refine wa_callS1 (k' := kX6_isRow) (d' := 1) dX6_heading_15 lmX6_100 ksX6_isRow (by decide) (by omega) (Nat.le_of_ble_eq_true rfl) ?_
                        refine isRo_1 (by omega) hw_ ?_
                        refine wa_if_eqF 34 dX6_heading_18 (by decide) (by decide) ?_
                        refine wa_iload dX6_heading_21 rfl ?_
                        refine wa_i2l dX6_heading_23 ?_
                        refine wa_lconst (1) dX6_heading_24 (by decide) ?_
                        refine wa_ldc2 (100) dX6_heading_25 lcX6_167 ?_
                        refine wa_callS3 (k' := kX6_in) (d' := 0) dX6_heading_28 lmX6_60 ksX6_in (by decide) (by omega) (Nat.le_of_ble_eq_true rfl) ?_
                        refine in_1 (by rw [Int32.toInt_toInt64, k1L, k100_L]; omega) ?_
                        refine wa_if_neT 37 dX6_heading_31 (by decide) (by decide) ?_
                        refine wa_aload_n dX6_heading_37 rfl ?_
                        refine wa_getR dX6_heading_38 fgX6_26 (by first | assumption | rfl) (by rfl) ?_
                        refine wa_iload_n dX6_heading_41 rfl ?_
                        refine wa_iald _ dX6_heading_42 (by first | assumption | rfl) (by first | with_reducible rfl | with_reducible assumption | with_reducible exact ix_ma _ _ _ | with_reducible exact ix_maa _ _ _ _ | with_reducible exact ix_a _ _ | with_reducible exact ix_mama _ _ _ _ _) (by omega) ?_
                        refine wa_aload_n dX6_heading_43 rfl ?_
                        refine wa_getR dX6_heading_44 fgX6_26 (by first | assumption | rfl) (by rfl) ?_
                        refine wa_iload_n dX6_heading_47 rfl ?_
                        refine wa_iald _ dX6_heading_48 (by first | assumption | rfl) (by first | with_reducible rfl | with_reducible assumption | with_reducible exact ix_ma _ _ _ | with_reducible exact ix_maa _ _ _ _ | with_reducible exact ix_a _ _ | with_reducible exact ix_mama _ _ _ _ _) (by omega) ?_
                        refine wa_ic_neF 67 dX6_heading_49 (by decide) (fun q => q (by rw [s3_, t3_])) ?_
                        refine wa_aload_n dX6_heading_52 rfl ?_
                        refine wa_getR dX6_heading_53 fgX6_26 (by first | assumption | rfl) (by rfl) ?_
                        refine wa_iload_n dX6_heading_56 rfl ?_
                        refine wa_iald _ dX6_heading_57 (by first | assumption | rfl) (by first | with_reducible rfl | with_reducible assumption | with_reducible exact ix_ma _ _ _ | with_reducible exact ix_maa _ _ _ _ | with_reducible exact ix_a _ _ | with_reducible exact ix_mama _ _ _ _ _) (by omega) ?_
                        refine wa_aload_n dX6_heading_58 rfl ?_
                        refine wa_getR dX6_heading_59 fgX6_26 (by first | assumption | rfl) (by rfl) ?_
                        refine wa_iload_n dX6_heading_62 rfl ?_
                        refine wa_iald _ dX6_heading_63 (by first | assumption | rfl) (by first | with_reducible rfl | with_reducible assumption | with_reducible exact ix_ma _ _ _ | with_reducible exact ix_maa _ _ _ _ | with_reducible exact ix_a _ _ | with_reducible exact ix_mama _ _ _ _ _) (by omega) ?_
                        refine wa_ic_eqT 70 dX6_heading_64 (by decide) (by rw [s3_, v3_]) ?_
                        refine wa_aload_n dX6_heading_70 rfl ?_
                        refine wa_iload_n dX6_heading_71 rfl ?_
                        refine wa_callV1 (k' := kX6_isNear) (d' := 1) dX6_heading_72 lmX6_169 kvX6_isNear (by first | assumption | rfl) (by rfl) (by decide) (by omega) (Nat.le_of_ble_eq_true rfl) ?_
                        refine wp_X6_isNear (n := n_) (by omega) hr_ s3_ s2_ (fun _ => ?_) (fun q => absurd i1_ q)
                        refine wa_if_eqF 94 dX6_heading_75 (by decide) (by decide) ?_
                        refine wa_aload_n dX6_heading_78 rfl ?_
                        refine wa_iload_n dX6_heading_79 rfl ?_
                        refine wa_callV1 (k' := kX6_isNear) (d' := 1) dX6_heading_80 lmX6_169 kvX6_isNear (by first | assumption | rfl) (by rfl) (by decide) (by omega) (Nat.le_of_ble_eq_true rfl) ?_
                        refine wp_X6_isNear (n := n_) (by omega) hu_ t3_ s2_ (fun _ => ?_) (fun q => absurd i2_ q)
                        refine wa_if_eqF 94 dX6_heading_83 (by decide) (by decide) ?_
                        refine wa_aload_n dX6_heading_86 rfl ?_
                        refine wa_iload_n dX6_heading_87 rfl ?_
                        refine wa_callV1 (k' := kX6_isNear) (d' := 1) dX6_heading_88 lmX6_169 kvX6_isNear (by first | assumption | rfl) (by rfl) (by decide) (by omega) (Nat.le_of_ble_eq_true rfl) ?_
                        refine wp_X6_isNear (n := n_) (by omega) hw_ v3_ s2_ (fun _ => ?_) (fun q => absurd i3_ q)
                        refine wa_if_neT 97 dX6_heading_91 (by decide) (by decide) ?_
                        refine wa_aload_n dX6_heading_97 rfl ?_
                        refine wa_iload_n dX6_heading_98 rfl ?_
                        refine wa_iload_n dX6_heading_99 rfl ?_
                        refine wa_callV2 (k' := kX6_cross) (d' := 2) dX6_heading_100 lmX6_172 kvX6_cross (by first | assumption | rfl) (by rfl) (by decide) (by omega) (Nat.le_of_ble_eq_true rfl) ?_
                        refine wp_X6_cross (n := n_) (by omega) hr_ hu_ s3_ t3_ s2_ (fun q => absurd ⟨big_ i1_, big_ i2_⟩ q) (fun _ _ => ?_)
                        rw [prS_c (f := mN μ r_) (f2 := mN μ u_) s4_ t4_]
                        refine wa_lstore dX6_heading_103 (by decide) ?_
                        refine wa_lo (lv' := [some (.ref 73), some (.int (nI r_)), some (.int (nI u_)), some (.int (nI w_)), some (.int t), some (.long (prS (μ.2 (43 + 5 * r_ + 1)) (μ.2 (43 + 5 * u_ + 1)) n_)), none, none, none, none, none]) rfl ?_
                        refine wa_aload_n dX6_heading_105 rfl ?_
                        refine wa_iload_n dX6_heading_106 rfl ?_
                        refine wa_iload_n dX6_heading_107 rfl ?_
                        refine wa_callV2 (k' := kX6_cross) (d' := 2) dX6_heading_108 lmX6_172 kvX6_cross (by first | assumption | rfl) (by rfl) (by decide) (by omega) (Nat.le_of_ble_eq_true rfl) ?_
                        refine wp_X6_cross (n := n_) (by omega) hr_ hw_ s3_ v3_ s2_ (fun q => absurd ⟨big_ i1_, big_ i3_⟩ q) (fun _ _ => ?_)
                        rw [prS_c (f := mN μ r_) (f2 := mN μ w_) s4_ v4_]
                        refine wa_lstore dX6_heading_111 (by decide) ?_
                        refine wa_lo (lv' := [some (.ref 73), some (.int (nI r_)), some (.int (nI u_)), some (.int (nI w_)), some (.int t), some (.long (prS (μ.2 (43 + 5 * r_ + 1)) (μ.2 (43 + 5 * u_ + 1)) n_)), none, some (.long (prS (μ.2 (43 + 5 * r_ + 1)) (μ.2 (43 + 5 * w_ + 1)) n_)), none, none, none]) rfl ?_
                        refine wa_iload dX6_heading_113 rfl ?_
                        refine wa_i2l dX6_heading_115 ?_
                        refine wa_aload_n dX6_heading_116 rfl ?_
                        refine wa_iload_n dX6_heading_117 rfl ?_
                        refine wa_iconst (nI 0) dX6_heading_118 (by decide) ?_
                        refine wa_bipush (nI 64) dX6_heading_119 (by decide) ?_
                        refine wa_callV3 (k' := kX6_force) (d' := 2) dX6_heading_121 lmX6_175 kvX6_force (by first | assumption | rfl) (by rfl) (by decide) (by omega) (Nat.le_of_ble_eq_true rfl) ?_
                        refine wp_X6_force (a := 0) (n := n_) (by omega) hr_ s3_ s2_ (by omega) (by decide) (fun q => absurd (exc_ i1_) q) (fun _ => ?_)
                        rw [show (0 : Int64) = prS (mN μ r_) (mN μ r_) 0 from rfl, sqF_prS _ (by rw [nI64]; omega) 64 0 (by omega) (by omega), prS_c (f := mN μ r_) (f2 := mN μ r_) s4_ s4_]
                        refine wa_lmul dX6_heading_124 ?_
                        refine wa_aload_n dX6_heading_125 rfl ?_
                        refine wa_iload_n dX6_heading_126 rfl ?_
                        refine wa_iconst (nI 0) dX6_heading_127 (by decide) ?_
                        refine wa_bipush (nI 64) dX6_heading_128 (by decide) ?_
                        refine wa_callV3 (k' := kX6_force) (d' := 2) dX6_heading_130 lmX6_175 kvX6_force (by first | assumption | rfl) (by rfl) (by decide) (by omega) (Nat.le_of_ble_eq_true rfl) ?_
                        refine wp_X6_force (a := 0) (n := n_) (by omega) hu_ t3_ s2_ (by omega) (by decide) (fun q => absurd (exc_ i2_) q) (fun _ => ?_)
                        rw [show (0 : Int64) = prS (mN μ u_) (mN μ u_) 0 from rfl, sqF_prS _ (by rw [nI64]; omega) 64 0 (by omega) (by omega), prS_c (f := mN μ u_) (f2 := mN μ u_) t4_ t4_]
                        refine wa_aload_n dX6_heading_133 rfl ?_
                        refine wa_iload_n dX6_heading_134 rfl ?_
                        refine wa_iconst (nI 0) dX6_heading_135 (by decide) ?_
                        refine wa_bipush (nI 64) dX6_heading_136 (by decide) ?_
                        refine wa_callV3 (k' := kX6_force) (d' := 2) dX6_heading_138 lmX6_175 kvX6_force (by first | assumption | rfl) (by rfl) (by decide) (by omega) (Nat.le_of_ble_eq_true rfl) ?_
                        refine wp_X6_force (a := 0) (n := n_) (by omega) hw_ v3_ s2_ (by omega) (by decide) (fun q => absurd (exc_ i3_) q) (fun _ => ?_)
                        rw [show (0 : Int64) = prS (mN μ w_) (mN μ w_) 0 from rfl, sqF_prS _ (by rw [nI64]; omega) 64 0 (by omega) (by omega), prS_c (f := mN μ w_) (f2 := mN μ w_) v4_ v4_]
                        refine wa_ladd dX6_heading_141 ?_
                        refine wa_lmul dX6_heading_142 ?_
                        refine wa_lstore dX6_heading_143 (by decide) ?_
                        refine wa_heading rfl rfl (neg_z (prS_le s2_ hx_ hy_).1) (neg_z (prS_le s2_ hx_ hz_).1) (fun q1_ q2_ => ⟨?_, hrel.up⟩) (fun q1_ => ⟨?_, hrel.up⟩) (fun q1_ => ⟨?_, hrel.up⟩)
                        · first | rfl | rw [q1_, q2_, ei_00]
                        · first | rfl | (exfalso; omega)
                        · first | rfl | (exfalso; omega)
              · try simp (disch := omega) only [nI_toInt, Int32.toInt_toInt64, e1_, e100_] at c84_11
                refine wa_bipush (-3) dX5_heading_87 (by decide) ?_
                refine wa_iret dX5_heading_89 rfl ?_
                skip
                refine MW_of (by decide) [some (.ref 73), some (.int (nI r_)), some (.int (nI u_)), some (.int (nI w_)), some (.int t), none, none, none, none, none, none] rfl (Nat.le_of_ble_eq_true rfl) ?_
                refine wa_iload_n dX6_heading_0 rfl ?_
                refine wa_callS1 (k' := kX6_isRow) (d' := 1) dX6_heading_1 lmX6_100 ksX6_isRow (by decide) (by omega) (Nat.le_of_ble_eq_true rfl) ?_
                refine isRo_1 (by omega) hr_ ?_
                refine wa_if_eqF 34 dX6_heading_4 (by decide) (by decide) ?_
                refine wa_iload_n dX6_heading_7 rfl ?_
                refine wa_callS1 (k' := kX6_isRow) (d' := 1) dX6_heading_8 lmX6_100 ksX6_isRow (by decide) (by omega) (Nat.le_of_ble_eq_true rfl) ?_
                refine isRo_1 (by omega) hu_ ?_
                refine wa_if_eqF 34 dX6_heading_11 (by decide) (by decide) ?_
                refine wa_iload_n dX6_heading_14 rfl ?_
                refine wa_callS1 (k' := kX6_isRow) (d' := 1) dX6_heading_15 lmX6_100 ksX6_isRow (by decide) (by omega) (Nat.le_of_ble_eq_true rfl) ?_
                refine isRo_1 (by omega) hw_ ?_
                refine wa_if_eqF 34 dX6_heading_18 (by decide) (by decide) ?_
                refine wa_iload dX6_heading_21 rfl ?_
                refine wa_i2l dX6_heading_23 ?_
                refine wa_lconst (1) dX6_heading_24 (by decide) ?_
                refine wa_ldc2 (100) dX6_heading_25 lcX6_167 ?_
                refine wa_callS3 (k' := kX6_in) (d' := 0) dX6_heading_28 lmX6_60 ksX6_in (by decide) (by omega) (Nat.le_of_ble_eq_true rfl) ?_
                refine in_1 (by rw [Int32.toInt_toInt64, k1L, k100_L]; omega) ?_
                refine wa_if_neT 37 dX6_heading_31 (by decide) (by decide) ?_
                refine wa_aload_n dX6_heading_37 rfl ?_
                refine wa_getR dX6_heading_38 fgX6_26 (by first | assumption | rfl) (by rfl) ?_
                refine wa_iload_n dX6_heading_41 rfl ?_
                refine wa_iald _ dX6_heading_42 (by first | assumption | rfl) (by first | with_reducible rfl | with_reducible assumption | with_reducible exact ix_ma _ _ _ | with_reducible exact ix_maa _ _ _ _ | with_reducible exact ix_a _ _ | with_reducible exact ix_mama _ _ _ _ _) (by omega) ?_
                refine wa_aload_n dX6_heading_43 rfl ?_
                refine wa_getR dX6_heading_44 fgX6_26 (by first | assumption | rfl) (by rfl) ?_
                refine wa_iload_n dX6_heading_47 rfl ?_
                refine wa_iald _ dX6_heading_48 (by first | assumption | rfl) (by first | with_reducible rfl | with_reducible assumption | with_reducible exact ix_ma _ _ _ | with_reducible exact ix_maa _ _ _ _ | with_reducible exact ix_a _ _ | with_reducible exact ix_mama _ _ _ _ _) (by omega) ?_
                refine wa_ic_ne 67 dX6_heading_49 (by decide) (fun c49_5 => ?_) (fun c49_5 => ?_)
                · try simp (disch := omega) only [nI_toInt, Int32.toInt_toInt64, not_true_eq_false, s3_, t3_, v3_] at c49_5
                  try (exfalso; omega)
                  all_goals
                    skip
                    refine wa_bipush (-3) dX6_heading_67 (by decide) ?_
                    refine wa_iret dX6_heading_69 rfl ?_
                    exact ⟨rfl, hrel.up⟩
                · try simp (disch := omega) only [nI_toInt, Int32.toInt_toInt64, not_true_eq_false, s3_, t3_, v3_] at c49_5
                  try (exfalso; omega)
                  all_goals
                    skip
                    refine wa_aload_n dX6_heading_52 rfl ?_
                    refine wa_getR dX6_heading_53 fgX6_26 (by first | assumption | rfl) (by rfl) ?_
                    refine wa_iload_n dX6_heading_56 rfl ?_
                    refine wa_iald _ dX6_heading_57 (by first | assumption | rfl) (by first | with_reducible rfl | with_reducible assumption | with_reducible exact ix_ma _ _ _ | with_reducible exact ix_maa _ _ _ _ | with_reducible exact ix_a _ _ | with_reducible exact ix_mama _ _ _ _ _) (by omega) ?_
                    refine wa_aload_n dX6_heading_58 rfl ?_
                    refine wa_getR dX6_heading_59 fgX6_26 (by first | assumption | rfl) (by rfl) ?_
                    refine wa_iload_n dX6_heading_62 rfl ?_
                    refine wa_iald _ dX6_heading_63 (by first | assumption | rfl) (by first | with_reducible rfl | with_reducible assumption | with_reducible exact ix_ma _ _ _ | with_reducible exact ix_maa _ _ _ _ | with_reducible exact ix_a _ _ | with_reducible exact ix_mama _ _ _ _ _) (by omega) ?_
                    refine wa_ic_eq 70 dX6_heading_64 (by decide) (fun c64_6 => ?_) (fun c64_6 => ?_)
                    · try simp (disch := omega) only [nI_toInt, Int32.toInt_toInt64, not_true_eq_false, s3_, t3_, v3_] at c64_6
                      try (exfalso; omega)
                      all_goals
                        skip
                        skip
                    · try simp (disch := omega) only [nI_toInt, Int32.toInt_toInt64, not_true_eq_false, s3_, t3_, v3_] at c64_6
                      try (exfalso; omega)
                      all_goals
                        skip
                        refine wa_bipush (-3) dX6_heading_67 (by decide) ?_
                        refine wa_iret dX6_heading_69 rfl ?_
                        exact ⟨rfl, hrel.up⟩
          · try simp (disch := omega) only [nI_toInt, Int32.toInt_toInt64, e1_, e100_] at c31_5
            refine wa_bipush (-2) dX5_heading_34 (by decide) ?_
            refine wa_iret dX5_heading_36 rfl ?_
            skip
            refine MW_of (by decide) [some (.ref 73), some (.int _), some (.int _), some (.int _), some (.int t), none, none, none, none, none, none] rfl (Nat.le_of_ble_eq_true rfl) ?_
            refine wa_iload_n dX6_heading_0 rfl ?_
            refine wa_callS1 (k' := kX6_isRow) (d' := 1) dX6_heading_1 lmX6_100 ksX6_isRow (by decide) (by omega) (Nat.le_of_ble_eq_true rfl) ?_
            first | refine isRo_1 (by omega) hr_ ?_ | refine isRo_0 (by omega) hoob ?_
            refine wa_if_eq 34 dX6_heading_4 (by decide) (fun c4_2 => ?_) (fun c4_2 => ?_)
            · try simp (disch := omega) only [nI_toInt, Int32.toInt_toInt64, not_true_eq_false] at c4_2
              try (exfalso; omega)
              all_goals
                skip
                refine wa_bipush (-2) dX6_heading_34 (by decide) ?_
                refine wa_iret dX6_heading_36 rfl ?_
                exact ⟨rfl, hrel.up⟩
            · try simp (disch := omega) only [nI_toInt, Int32.toInt_toInt64, not_true_eq_false] at c4_2
              try (exfalso; omega)
              all_goals
                skip
                refine wa_iload_n dX6_heading_7 rfl ?_
                refine wa_callS1 (k' := kX6_isRow) (d' := 1) dX6_heading_8 lmX6_100 ksX6_isRow (by decide) (by omega) (Nat.le_of_ble_eq_true rfl) ?_
                first | refine isRo_1 (by omega) hu_ ?_ | refine isRo_0 (by omega) hoob ?_
                refine wa_if_eq 34 dX6_heading_11 (by decide) (fun c11_4 => ?_) (fun c11_4 => ?_)
                · try simp (disch := omega) only [nI_toInt, Int32.toInt_toInt64, not_true_eq_false] at c11_4
                  try (exfalso; omega)
                  all_goals
                    skip
                    refine wa_bipush (-2) dX6_heading_34 (by decide) ?_
                    refine wa_iret dX6_heading_36 rfl ?_
                    exact ⟨rfl, hrel.up⟩
                · try simp (disch := omega) only [nI_toInt, Int32.toInt_toInt64, not_true_eq_false] at c11_4
                  try (exfalso; omega)
                  all_goals
                    skip
                    refine wa_iload_n dX6_heading_14 rfl ?_
                    refine wa_callS1 (k' := kX6_isRow) (d' := 1) dX6_heading_15 lmX6_100 ksX6_isRow (by decide) (by omega) (Nat.le_of_ble_eq_true rfl) ?_
                    first | refine isRo_1 (by omega) hw_ ?_ | refine isRo_0 (by omega) hoob ?_
                    refine wa_if_eq 34 dX6_heading_18 (by decide) (fun c18_6 => ?_) (fun c18_6 => ?_)
                    · try simp (disch := omega) only [nI_toInt, Int32.toInt_toInt64, not_true_eq_false] at c18_6
                      try (exfalso; omega)
                      all_goals
                        skip
                        refine wa_bipush (-2) dX6_heading_34 (by decide) ?_
                        refine wa_iret dX6_heading_36 rfl ?_
                        exact ⟨rfl, hrel.up⟩
                    · try simp (disch := omega) only [nI_toInt, Int32.toInt_toInt64, not_true_eq_false] at c18_6
                      try (exfalso; omega)
                      all_goals
                        skip
                        refine wa_iload dX6_heading_21 rfl ?_
                        refine wa_i2l dX6_heading_23 ?_
                        refine wa_lconst (1) dX6_heading_24 (by decide) ?_
                        refine wa_ldc2 (100) dX6_heading_25 lcX6_167 ?_
                        refine wa_callS3 (k' := kX6_in) (d' := 0) dX6_heading_28 lmX6_60 ksX6_in (by decide) (by omega) (Nat.le_of_ble_eq_true rfl) ?_
                        refine wp_X6_in (fun hy_ => ?_) (fun hy_ => ?_)
                        · skip
                          rw [Int32.toInt_toInt64, k1L, k100_L] at hy_
                          try (exfalso; omega)
                          all_goals
                            skip
                            refine wa_if_neT 37 dX6_heading_31 (by decide) (by decide) ?_
                            skip
                        · skip
                          rw [Int32.toInt_toInt64, k1L, k100_L] at hy_
                          try (exfalso; omega)
                          all_goals
                            skip
                            refine wa_if_neF 37 dX6_heading_31 (by decide) (by decide) ?_
                            refine wa_bipush (-2) dX6_heading_34 (by decide) ?_
                            refine wa_iret dX6_heading_36 rfl ?_
                            exact ⟨rfl, hrel.up⟩
      · skip
        refine wa_if_eqT 34 dX5_heading_18 (by decide) (by decide) ?_
        refine wa_bipush (-2) dX5_heading_34 (by decide) ?_
        refine wa_iret dX5_heading_36 rfl ?_
        skip
        refine MW_of (by decide) [some (.ref 73), some (.int _), some (.int _), some (.int _), some (.int t), none, none, none, none, none, none] rfl (Nat.le_of_ble_eq_true rfl) ?_
        refine wa_iload_n dX6_heading_0 rfl ?_
        refine wa_callS1 (k' := kX6_isRow) (d' := 1) dX6_heading_1 lmX6_100 ksX6_isRow (by decide) (by omega) (Nat.le_of_ble_eq_true rfl) ?_
        first | refine isRo_1 (by omega) hr_ ?_ | refine isRo_0 (by omega) hoob ?_
        refine wa_if_eq 34 dX6_heading_4 (by decide) (fun c4_2 => ?_) (fun c4_2 => ?_)
        · try simp (disch := omega) only [nI_toInt, Int32.toInt_toInt64, not_true_eq_false] at c4_2
          try (exfalso; omega)
          all_goals
            skip
            refine wa_bipush (-2) dX6_heading_34 (by decide) ?_
            refine wa_iret dX6_heading_36 rfl ?_
            exact ⟨rfl, hrel.up⟩
        · try simp (disch := omega) only [nI_toInt, Int32.toInt_toInt64, not_true_eq_false] at c4_2
          try (exfalso; omega)
          all_goals
            skip
            refine wa_iload_n dX6_heading_7 rfl ?_
            refine wa_callS1 (k' := kX6_isRow) (d' := 1) dX6_heading_8 lmX6_100 ksX6_isRow (by decide) (by omega) (Nat.le_of_ble_eq_true rfl) ?_
            first | refine isRo_1 (by omega) hu_ ?_ | refine isRo_0 (by omega) hoob ?_
            refine wa_if_eq 34 dX6_heading_11 (by decide) (fun c11_4 => ?_) (fun c11_4 => ?_)
            · try simp (disch := omega) only [nI_toInt, Int32.toInt_toInt64, not_true_eq_false] at c11_4
              try (exfalso; omega)
              all_goals
                skip
                refine wa_bipush (-2) dX6_heading_34 (by decide) ?_
                refine wa_iret dX6_heading_36 rfl ?_
                exact ⟨rfl, hrel.up⟩
            · try simp (disch := omega) only [nI_toInt, Int32.toInt_toInt64, not_true_eq_false] at c11_4
              try (exfalso; omega)
              all_goals
                skip
                refine wa_iload_n dX6_heading_14 rfl ?_
                refine wa_callS1 (k' := kX6_isRow) (d' := 1) dX6_heading_15 lmX6_100 ksX6_isRow (by decide) (by omega) (Nat.le_of_ble_eq_true rfl) ?_
                first | refine isRo_1 (by omega) hw_ ?_ | refine isRo_0 (by omega) hoob ?_
                refine wa_if_eq 34 dX6_heading_18 (by decide) (fun c18_6 => ?_) (fun c18_6 => ?_)
                · try simp (disch := omega) only [nI_toInt, Int32.toInt_toInt64, not_true_eq_false] at c18_6
                  try (exfalso; omega)
                  all_goals
                    skip
                    refine wa_bipush (-2) dX6_heading_34 (by decide) ?_
                    refine wa_iret dX6_heading_36 rfl ?_
                    exact ⟨rfl, hrel.up⟩
                · try simp (disch := omega) only [nI_toInt, Int32.toInt_toInt64, not_true_eq_false] at c18_6
                  try (exfalso; omega)
                  all_goals
                    skip
                    refine wa_iload dX6_heading_21 rfl ?_
                    refine wa_i2l dX6_heading_23 ?_
                    refine wa_lconst (1) dX6_heading_24 (by decide) ?_
                    refine wa_ldc2 (100) dX6_heading_25 lcX6_167 ?_
                    refine wa_callS3 (k' := kX6_in) (d' := 0) dX6_heading_28 lmX6_60 ksX6_in (by decide) (by omega) (Nat.le_of_ble_eq_true rfl) ?_
                    refine wp_X6_in (fun hy_ => ?_) (fun hy_ => ?_)
                    · skip
                      rw [Int32.toInt_toInt64, k1L, k100_L] at hy_
                      try (exfalso; omega)
                      all_goals
                        skip
                        refine wa_if_neT 37 dX6_heading_31 (by decide) (by decide) ?_
                        skip
                    · skip
                      rw [Int32.toInt_toInt64, k1L, k100_L] at hy_
                      try (exfalso; omega)
                      all_goals
                        skip
                        refine wa_if_neF 37 dX6_heading_31 (by decide) (by decide) ?_
                        refine wa_bipush (-2) dX6_heading_34 (by decide) ?_
                        refine wa_iret dX6_heading_36 rfl ?_
                        exact ⟨rfl, hrel.up⟩
    · skip
      refine wa_if_eqT 34 dX5_heading_11 (by decide) (by decide) ?_
      refine wa_bipush (-2) dX5_heading_34 (by decide) ?_
      refine wa_iret dX5_heading_36 rfl ?_
      skip
      refine MW_of (by decide) [some (.ref 73), some (.int _), some (.int _), some (.int _), some (.int t), none, none, none, none, none, none] rfl (Nat.le_of_ble_eq_true rfl) ?_
      refine wa_iload_n dX6_heading_0 rfl ?_
      refine wa_callS1 (k' := kX6_isRow) (d' := 1) dX6_heading_1 lmX6_100 ksX6_isRow (by decide) (by omega) (Nat.le_of_ble_eq_true rfl) ?_
      first | refine isRo_1 (by omega) hr_ ?_ | refine isRo_0 (by omega) hoob ?_
      refine wa_if_eq 34 dX6_heading_4 (by decide) (fun c4_2 => ?_) (fun c4_2 => ?_)
      · try simp (disch := omega) only [nI_toInt, Int32.toInt_toInt64, not_true_eq_false] at c4_2
        try (exfalso; omega)
        all_goals
          skip
          refine wa_bipush (-2) dX6_heading_34 (by decide) ?_
          refine wa_iret dX6_heading_36 rfl ?_
          exact ⟨rfl, hrel.up⟩
      · try simp (disch := omega) only [nI_toInt, Int32.toInt_toInt64, not_true_eq_false] at c4_2
        try (exfalso; omega)
        all_goals
          skip
          refine wa_iload_n dX6_heading_7 rfl ?_
          refine wa_callS1 (k' := kX6_isRow) (d' := 1) dX6_heading_8 lmX6_100 ksX6_isRow (by decide) (by omega) (Nat.le_of_ble_eq_true rfl) ?_
          first | refine isRo_1 (by omega) hu_ ?_ | refine isRo_0 (by omega) hoob ?_
          refine wa_if_eq 34 dX6_heading_11 (by decide) (fun c11_4 => ?_) (fun c11_4 => ?_)
          · try simp (disch := omega) only [nI_toInt, Int32.toInt_toInt64, not_true_eq_false] at c11_4
            try (exfalso; omega)
            all_goals
              skip
              refine wa_bipush (-2) dX6_heading_34 (by decide) ?_
              refine wa_iret dX6_heading_36 rfl ?_
              exact ⟨rfl, hrel.up⟩
          · try simp (disch := omega) only [nI_toInt, Int32.toInt_toInt64, not_true_eq_false] at c11_4
            try (exfalso; omega)
            all_goals
              skip
              refine wa_iload_n dX6_heading_14 rfl ?_
              refine wa_callS1 (k' := kX6_isRow) (d' := 1) dX6_heading_15 lmX6_100 ksX6_isRow (by decide) (by omega) (Nat.le_of_ble_eq_true rfl) ?_
              first | refine isRo_1 (by omega) hw_ ?_ | refine isRo_0 (by omega) hoob ?_
              refine wa_if_eq 34 dX6_heading_18 (by decide) (fun c18_6 => ?_) (fun c18_6 => ?_)
              · try simp (disch := omega) only [nI_toInt, Int32.toInt_toInt64, not_true_eq_false] at c18_6
                try (exfalso; omega)
                all_goals
                  skip
                  refine wa_bipush (-2) dX6_heading_34 (by decide) ?_
                  refine wa_iret dX6_heading_36 rfl ?_
                  exact ⟨rfl, hrel.up⟩
              · try simp (disch := omega) only [nI_toInt, Int32.toInt_toInt64, not_true_eq_false] at c18_6
                try (exfalso; omega)
                all_goals
                  skip
                  refine wa_iload dX6_heading_21 rfl ?_
                  refine wa_i2l dX6_heading_23 ?_
                  refine wa_lconst (1) dX6_heading_24 (by decide) ?_
                  refine wa_ldc2 (100) dX6_heading_25 lcX6_167 ?_
                  refine wa_callS3 (k' := kX6_in) (d' := 0) dX6_heading_28 lmX6_60 ksX6_in (by decide) (by omega) (Nat.le_of_ble_eq_true rfl) ?_
                  refine wp_X6_in (fun hy_ => ?_) (fun hy_ => ?_)
                  · skip
                    rw [Int32.toInt_toInt64, k1L, k100_L] at hy_
                    try (exfalso; omega)
                    all_goals
                      skip
                      refine wa_if_neT 37 dX6_heading_31 (by decide) (by decide) ?_
                      skip
                  · skip
                    rw [Int32.toInt_toInt64, k1L, k100_L] at hy_
                    try (exfalso; omega)
                    all_goals
                      skip
                      refine wa_if_neF 37 dX6_heading_31 (by decide) (by decide) ?_
                      refine wa_bipush (-2) dX6_heading_34 (by decide) ?_
                      refine wa_iret dX6_heading_36 rfl ?_
                      exact ⟨rfl, hrel.up⟩
  · skip
    refine wa_if_eqT 34 dX5_heading_4 (by decide) (by decide) ?_
    refine wa_bipush (-2) dX5_heading_34 (by decide) ?_
    refine wa_iret dX5_heading_36 rfl ?_
    skip
    refine MW_of (by decide) [some (.ref 73), some (.int _), some (.int _), some (.int _), some (.int t), none, none, none, none, none, none] rfl (Nat.le_of_ble_eq_true rfl) ?_
    refine wa_iload_n dX6_heading_0 rfl ?_
    refine wa_callS1 (k' := kX6_isRow) (d' := 1) dX6_heading_1 lmX6_100 ksX6_isRow (by decide) (by omega) (Nat.le_of_ble_eq_true rfl) ?_
    first | refine isRo_1 (by omega) hr_ ?_ | refine isRo_0 (by omega) hoob ?_
    refine wa_if_eq 34 dX6_heading_4 (by decide) (fun c4_2 => ?_) (fun c4_2 => ?_)
    · try simp (disch := omega) only [nI_toInt, Int32.toInt_toInt64, not_true_eq_false] at c4_2
      try (exfalso; omega)
      all_goals
        skip
        refine wa_bipush (-2) dX6_heading_34 (by decide) ?_
        refine wa_iret dX6_heading_36 rfl ?_
        exact ⟨rfl, hrel.up⟩
    · try simp (disch := omega) only [nI_toInt, Int32.toInt_toInt64, not_true_eq_false] at c4_2
      try (exfalso; omega)
      all_goals
        skip
        refine wa_iload_n dX6_heading_7 rfl ?_
        refine wa_callS1 (k' := kX6_isRow) (d' := 1) dX6_heading_8 lmX6_100 ksX6_isRow (by decide) (by omega) (Nat.le_of_ble_eq_true rfl) ?_
        first | refine isRo_1 (by omega) hu_ ?_ | refine isRo_0 (by omega) hoob ?_
        refine wa_if_eq 34 dX6_heading_11 (by decide) (fun c11_4 => ?_) (fun c11_4 => ?_)
        · try simp (disch := omega) only [nI_toInt, Int32.toInt_toInt64, not_true_eq_false] at c11_4
          try (exfalso; omega)
          all_goals
            skip
            refine wa_bipush (-2) dX6_heading_34 (by decide) ?_
            refine wa_iret dX6_heading_36 rfl ?_
            exact ⟨rfl, hrel.up⟩
        · try simp (disch := omega) only [nI_toInt, Int32.toInt_toInt64, not_true_eq_false] at c11_4
          try (exfalso; omega)
          all_goals
            skip
            refine wa_iload_n dX6_heading_14 rfl ?_
            refine wa_callS1 (k' := kX6_isRow) (d' := 1) dX6_heading_15 lmX6_100 ksX6_isRow (by decide) (by omega) (Nat.le_of_ble_eq_true rfl) ?_
            first | refine isRo_1 (by omega) hw_ ?_ | refine isRo_0 (by omega) hoob ?_
            refine wa_if_eq 34 dX6_heading_18 (by decide) (fun c18_6 => ?_) (fun c18_6 => ?_)
            · try simp (disch := omega) only [nI_toInt, Int32.toInt_toInt64, not_true_eq_false] at c18_6
              try (exfalso; omega)
              all_goals
                skip
                refine wa_bipush (-2) dX6_heading_34 (by decide) ?_
                refine wa_iret dX6_heading_36 rfl ?_
                exact ⟨rfl, hrel.up⟩
            · try simp (disch := omega) only [nI_toInt, Int32.toInt_toInt64, not_true_eq_false] at c18_6
              try (exfalso; omega)
              all_goals
                skip
                refine wa_iload dX6_heading_21 rfl ?_
                refine wa_i2l dX6_heading_23 ?_
                refine wa_lconst (1) dX6_heading_24 (by decide) ?_
                refine wa_ldc2 (100) dX6_heading_25 lcX6_167 ?_
                refine wa_callS3 (k' := kX6_in) (d' := 0) dX6_heading_28 lmX6_60 ksX6_in (by decide) (by omega) (Nat.le_of_ble_eq_true rfl) ?_
                refine wp_X6_in (fun hy_ => ?_) (fun hy_ => ?_)
                · skip
                  rw [Int32.toInt_toInt64, k1L, k100_L] at hy_
                  try (exfalso; omega)
                  all_goals
                    skip
                    refine wa_if_neT 37 dX6_heading_31 (by decide) (by decide) ?_
                    skip
                · skip
                  rw [Int32.toInt_toInt64, k1L, k100_L] at hy_
                  try (exfalso; omega)
                  all_goals
                    skip
                    refine wa_if_neF 37 dX6_heading_31 (by decide) (by decide) ?_
                    refine wa_bipush (-2) dX6_heading_34 (by decide) ?_
                    refine wa_iret dX6_heading_36 rfl ?_
                    exact ⟨rfl, hrel.up⟩
