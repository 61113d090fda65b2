/-! PAIRS: spikes -/
def lsR (p : Nat → Bool) (old : Nat → Int32) (j m : Nat) : Nat → Int32 := fun q => if (64 * j ≤ q ∧ q < 64 * j + m) ∧ p (q - 64 * j) = true then nI 0 else old q
theorem lsR_0 (p : Nat → Bool) (old : Nat → Int32) (j : Nat) : lsR p old j 0 = old := by
  funext q
  simp only [lsR]
  rw [if_neg (fun h => by omega)]
theorem lsR_y {p : Nat → Bool} {old : Nat → Int32} {j i : Nat} (h : p i = true) : upd (lsR p old j i) (64 * j + i) (nI 0) = lsR p old j (i + 1) := by
  funext q
  by_cases hq : q = 64 * j + i
  · subst hq
    simp only [upd, lsR, if_true]
    rw [if_pos ⟨by omega, by rw [show 64 * j + i - 64 * j = i by omega]; exact h⟩]
  · simp only [upd, lsR, hq, if_false]
    congr 1
    exact propext ⟨fun q => ⟨by omega, q.2⟩, fun q => ⟨by omega, q.2⟩⟩
theorem lsR_n {p : Nat → Bool} {old : Nat → Int32} {j i : Nat} (h : ¬ p i = true) : lsR p old j i = lsR p old j (i + 1) := by
  funext q
  simp only [lsR]
  congr 1
  refine propext ⟨fun q => ⟨by omega, q.2⟩, fun z => ⟨?_, z.2⟩⟩
  by_cases hq : q = 64 * j + i
  · rw [hq, show 64 * j + i - 64 * j = i by omega] at z
    exact absurd z.2 h
  · omega
theorem lsR_no {p : Nat → Bool} {old : Nat → Int32} {j m q : Nat} (h : ¬ (64 * j ≤ q ∧ q < 64 * j + m)) : lsR p old j m q = old q := by
  rw [lsR, if_neg (fun z => h z.1)]
theorem lsR_at {p : Nat → Bool} {old : Nat → Int32} {j m i : Nat} (h : i < m) : lsR p old j m (64 * j + i) = if p i = true then nI 0 else old (64 * j + i) := by
  rw [lsR, show 64 * j + i - 64 * j = i by omega]
  by_cases hp : p i = true
  · rw [if_pos ⟨by omega, hp⟩, if_pos hp]
  · rw [if_neg (fun z => hp z.2), if_neg hp]
theorem bcN_le (p : Nat → Bool) : ∀ n, bcN p n ≤ n
  | 0 => Nat.le_refl 0
  | n + 1 => by
    have := bcN_le p n
    rw [bcN]
    split <;> omega
/-- the second loop: those that are held as 1 are lost -/
theorem wa_spikes2 {d j n : Nat} {e : Int32} {p : Nat → Bool} {μ : Mem} {Q : QM} (hj : j < 8) (hn : μ.1 76 j = nI n) (hn64 : n ≤ 64) (hp : ∀ i, i < n → μ.1 83 i = if p i = true then nI 1 else nI 0) (hQ : Q (some (.int (nI (bcN p n)))) (bI (bI μ 77 (lsR p (μ.1 77) j n)) 78 (lsR p (μ.1 78) j n))) (z1 z2 : Option Value) : WA kX6_spikes d Q 207 [some (.ref 73), some (.int (nI j)), some (.int e), some (.int (nI (64 * j))), some (.int (nI 0)), some (.int (nI 0)), z1, z2] [] μ := by
  have hbl := bcN_le p
  have loop : ∀ m i, i + m = n → WA kX6_spikes d Q 207 [some (.ref 73), some (.int (nI j)), some (.int e), some (.int (nI (64 * j))), some (.int (nI (bcN p i))), some (.int (nI i)), z1, z2] [] (bI (bI μ 77 (lsR p (μ.1 77) j i)) 78 (lsR p (μ.1 78) j i)) := by
    intro m
    induction m with
    | zero =>
      intro i hi
      obtain rfl : i = n := by omega
      refine wa_iload dX6_spikes_207 rfl ?_
      refine wa_aload_n dX6_spikes_209 rfl ?_
      refine wa_getR dX6_spikes_210 fgX6_17 (by first | assumption | rfl) (by rfl) ?_
      refine wa_iload_n dX6_spikes_213 rfl ?_
      refine wa_iald _ dX6_spikes_214 (by first | assumption | rfl) (by first | with_reducible rfl | with_reducible assumption | with_reducible exact ix_ma _ _ _ | with_reducible exact ix_maa _ _ _ _ | with_reducible exact ix_a _ _ | with_reducible exact ix_mama _ _ _ _ _) (by omega) ?_
      refine wa_ic_geT 258 dX6_spikes_215 (by decide) (by simp (disch := omega) only [sI_off, bI_off, sL_off, bL_off, r1l, r2l, rb1l, rb2l, r1m, r2m, rb1e, rb2e, r1e, r2e]; rw [hn]; exact le_nI (by omega) (by omega)) ?_
      refine wa_iload dX6_spikes_258 rfl ?_
      refine wa_iret dX6_spikes_260 rfl ?_
      exact hQ
    | succ m ih =>
      intro i hi
      have e_ := ih (i + 1) (by omega)
      have eh : (bI (bI μ 77 (lsR p (μ.1 77) j i)) 78 (lsR p (μ.1 78) j i)).1 83 i = if p i = true then nI 1 else nI 0 := by
        simp (disch := omega) only [bI_off]
        exact hp i (by omega)
      by_cases hpi : p i = true
      · rw [if_pos hpi] at eh
        rw [bcN, if_pos hpi] at e_
        refine wa_iload dX6_spikes_207 rfl ?_
        refine wa_aload_n dX6_spikes_209 rfl ?_
        refine wa_getR dX6_spikes_210 fgX6_17 (by first | assumption | rfl) (by rfl) ?_
        refine wa_iload_n dX6_spikes_213 rfl ?_
        refine wa_iald _ dX6_spikes_214 (by first | assumption | rfl) (by first | with_reducible rfl | with_reducible assumption | with_reducible exact ix_ma _ _ _ | with_reducible exact ix_maa _ _ _ _ | with_reducible exact ix_a _ _ | with_reducible exact ix_mama _ _ _ _ _) (by omega) ?_
        refine wa_ic_geF 258 dX6_spikes_215 (by decide) (by simp (disch := omega) only [sI_off, bI_off, sL_off, bL_off, r1l, r2l, rb1l, rb2l, r1m, r2m, rb1e, rb2e, r1e, r2e]; rw [hn]; exact nle_nI (by omega) (by omega)) ?_
        refine wa_aload_n dX6_spikes_218 rfl ?_
        refine wa_getR dX6_spikes_219 fgX6_49 (by first | assumption | rfl) (by rfl) ?_
        refine wa_iload dX6_spikes_222 rfl ?_
        refine wa_iald _ dX6_spikes_224 (by first | assumption | rfl) (by first | with_reducible rfl | with_reducible assumption | with_reducible exact ix_ma _ _ _ | with_reducible exact ix_maa _ _ _ _ | with_reducible exact ix_a _ _ | with_reducible exact ix_mama _ _ _ _ _) (by omega) ?_
        refine wa_iconst (nI 1) dX6_spikes_225 (by decide) ?_
        refine wa_ic_neF 252 dX6_spikes_226 (by decide) (by rw [eh]; exact fun q => q rfl) ?_
        refine wa_aload_n dX6_spikes_229 rfl ?_
        refine wa_getR dX6_spikes_230 fgX6_20 (by first | assumption | rfl) (by rfl) ?_
        refine wa_iload_n dX6_spikes_233 rfl ?_
        refine wa_iload dX6_spikes_234 rfl ?_
        refine wa_iadd dX6_spikes_236 ?_
        refine wa_iconst (nI 0) dX6_spikes_237 (by decide) ?_
        refine wa_iast _ dX6_spikes_238 (by first | assumption | rfl) (by first | with_reducible rfl | with_reducible assumption | with_reducible exact ix_ma _ _ _ | with_reducible exact ix_maa _ _ _ _ | with_reducible exact ix_a _ _ | with_reducible exact ix_mama _ _ _ _ _) (by omega) ?_
        refine wa_aload_n dX6_spikes_239 rfl ?_
        refine wa_getR dX6_spikes_240 fgX6_23 (by first | assumption | rfl) (by rfl) ?_
        refine wa_iload_n dX6_spikes_243 rfl ?_
        refine wa_iload dX6_spikes_244 rfl ?_
        refine wa_iadd dX6_spikes_246 ?_
        refine wa_iconst (nI 0) dX6_spikes_247 (by decide) ?_
        refine wa_iast _ dX6_spikes_248 (by first | assumption | rfl) (by first | with_reducible rfl | with_reducible assumption | with_reducible exact ix_ma _ _ _ | with_reducible exact ix_maa _ _ _ _ | with_reducible exact ix_a _ _ | with_reducible exact ix_mama _ _ _ _ _) (by omega) ?_
        refine wa_iinc (nI 1) dX6_spikes_249 rfl (by decide) (by decide) ?_
        refine wa_iinc (nI 1) dX6_spikes_252 rfl (by decide) (by decide) ?_
        refine wa_goto 207 dX6_spikes_255 (by decide) ?_
        rw [two_I _ _ _ (by omega), lsR_y hpi, lsR_y hpi]
        simp only [nI_add]
        exact e_
      · rw [if_neg hpi] at eh
        rw [bcN, if_neg hpi, ← lsR_n hpi, ← lsR_n hpi] at e_
        refine wa_iload dX6_spikes_207 rfl ?_
        refine wa_aload_n dX6_spikes_209 rfl ?_
        refine wa_getR dX6_spikes_210 fgX6_17 (by first | assumption | rfl) (by rfl) ?_
        refine wa_iload_n dX6_spikes_213 rfl ?_
        refine wa_iald _ dX6_spikes_214 (by first | assumption | rfl) (by first | with_reducible rfl | with_reducible assumption | with_reducible exact ix_ma _ _ _ | with_reducible exact ix_maa _ _ _ _ | with_reducible exact ix_a _ _ | with_reducible exact ix_mama _ _ _ _ _) (by omega) ?_
        refine wa_ic_geF 258 dX6_spikes_215 (by decide) (by simp (disch := omega) only [sI_off, bI_off, sL_off, bL_off, r1l, r2l, rb1l, rb2l, r1m, r2m, rb1e, rb2e, r1e, r2e]; rw [hn]; exact nle_nI (by omega) (by omega)) ?_
        refine wa_aload_n dX6_spikes_218 rfl ?_
        refine wa_getR dX6_spikes_219 fgX6_49 (by first | assumption | rfl) (by rfl) ?_
        refine wa_iload dX6_spikes_222 rfl ?_
        refine wa_iald _ dX6_spikes_224 (by first | assumption | rfl) (by first | with_reducible rfl | with_reducible assumption | with_reducible exact ix_ma _ _ _ | with_reducible exact ix_maa _ _ _ _ | with_reducible exact ix_a _ _ | with_reducible exact ix_mama _ _ _ _ _) (by omega) ?_
        refine wa_iconst (nI 1) dX6_spikes_225 (by decide) ?_
        refine wa_ic_neT 252 dX6_spikes_226 (by decide) (by rw [eh]; decide) ?_
        refine wa_iinc (nI 1) dX6_spikes_252 rfl (by decide) (by decide) ?_
        refine wa_goto 207 dX6_spikes_255 (by decide) ?_
        simp only [nI_add]; exact e_
  have e0 := loop n 0 (by omega)
  rw [lsR_0, lsR_0, bI_self, bI_self] at e0
  exact e0
theorem ab_or {x : Int64} {c : Int} (hc : 0 ≤ c) : c < (abL x).toInt ↔ (c < x.toInt ∨ c < (-x).toInt) := by
  unfold abL
  by_cases h : 0 ≤ x.toInt
  · have hl := x.toInt_lt
    have e : (-x).toInt = -x.toInt := by
      rw [z_to x, Int64.neg_ofInt, Int64.toInt_ofInt_of_le (by omega) (by omega), Int64.toInt_ofInt_of_le (by omega) (by omega)]
    rw [if_pos h]
    omega
  · rw [if_neg h]
    omega
theorem z_2d {e : Int32} (h : 0 ≤ e.toInt) : 0 ≤ ((2 : Int64) * e.toInt64).toInt := by
  have hl := e.toInt_lt
  rw [← Int64.ofInt_int32ToInt, show (2 : Int64) = Int64.ofInt 2 from rfl, ← Int64.ofInt_mul, zin (by omega) (by omega)]
  omega
theorem wa_spikes1 {d j n : Nat} {e : Int32} {μ : Mem} {Q : QM} (hj : j < 8) (he : 0 ≤ e.toInt) (hn : μ.1 76 j = nI n) (hn64 : n ≤ 64) (hge : ∀ i, i < n → 0 ≤ (μ.1 77 (64 * j + i)).toInt) (K : ∀ z, WA kX6_spikes d Q 204 [some (.ref 73), some (.int (nI j)), some (.int e), some (.int (nI (64 * j))), some (.int (nI 0)), some (.int (nI n)), z, none] [] (bI μ 83 (spF (mF μ j) (mV μ j) n e (μ.1 83) n))) : WA kX6_spikes d Q 31 [some (.ref 73), some (.int (nI j)), some (.int e), none, none, none, none, none] [] μ := by
  have loop : ∀ m i, i + m = n → ∀ z, WA kX6_spikes d Q 42 [some (.ref 73), some (.int (nI j)), some (.int e), some (.int (nI (64 * j))), some (.int (nI 0)), some (.int (nI i)), z, none] [] (bI μ 83 (spF (mF μ j) (mV μ j) n e (μ.1 83) i)) := by
    intro m
    induction m with
    | zero =>
      intro i hi z
      obtain rfl : i = n := by omega
      refine wa_iload dX6_spikes_42 rfl ?_
      refine wa_aload_n dX6_spikes_44 rfl ?_
      refine wa_getR dX6_spikes_45 fgX6_17 (by first | assumption | rfl) (by rfl) ?_
      refine wa_iload_n dX6_spikes_48 rfl ?_
      refine wa_iald _ dX6_spikes_49 (by first | assumption | rfl) (by first | with_reducible rfl | with_reducible assumption | with_reducible exact ix_ma _ _ _ | with_reducible exact ix_maa _ _ _ _ | with_reducible exact ix_a _ _ | with_reducible exact ix_mama _ _ _ _ _) (by omega) ?_
      refine wa_ic_geT 204 dX6_spikes_50 (by decide) (by simp (disch := omega) only [sI_off, bI_off, sL_off, bL_off, r1l, r2l, rb1l, rb2l, r1m, r2m, rb1e, rb2e, r1e, r2e]; rw [hn]; exact le_nI (by omega) (by omega)) ?_
      exact K _
    | succ m ih =>
      intro i hi z
      have e_ := ih (i + 1) (by omega)
      have a0 := hge i (by omega)
      have a1 := hge (i - 1) (by omega)
      have a2 : i + 1 < n → 0 ≤ (μ.1 77 (64 * j + (i + 1))).toInt := fun q => hge (i + 1) q
      have hb := ab_or (x := bendE (mV μ j) i) (z_2d he)
      have hbe : bendE (mV μ j) i = 2 * (μ.1 78 (64 * j + i)).toInt64 - (μ.1 78 (64 * j + (i - 1))).toInt64 - (μ.1 78 (64 * j + (i + 1))).toInt64 := rfl
      rw [hbe] at hb
      refine wa_iload dX6_spikes_42 rfl ?_
      refine wa_aload_n dX6_spikes_44 rfl ?_
      refine wa_getR dX6_spikes_45 fgX6_17 (by first | assumption | rfl) (by rfl) ?_
      refine wa_iload_n dX6_spikes_48 rfl ?_
      refine wa_iald _ dX6_spikes_49 (by first | assumption | rfl) (by first | with_reducible rfl | with_reducible assumption | with_reducible exact ix_ma _ _ _ | with_reducible exact ix_maa _ _ _ _ | with_reducible exact ix_a _ _ | with_reducible exact ix_mama _ _ _ _ _) (by omega) ?_
      refine wa_ic_geF 204 dX6_spikes_50 (by decide) (by simp (disch := omega) only [sI_off, bI_off, sL_off, bL_off, r1l, r2l, rb1l, rb2l, r1m, r2m, rb1e, rb2e, r1e, r2e]; rw [hn]; exact nle_nI (by omega) (by omega)) ?_
      refine wa_aload_n dX6_spikes_53 rfl ?_
      refine wa_getR dX6_spikes_54 fgX6_49 (by first | assumption | rfl) (by rfl) ?_
      refine wa_iload dX6_spikes_57 rfl ?_
      refine wa_iconst (nI 0) dX6_spikes_59 (by decide) ?_
      refine wa_iast _ dX6_spikes_60 (by first | assumption | rfl) (by first | with_reducible rfl | with_reducible assumption | with_reducible exact ix_ma _ _ _ | with_reducible exact ix_maa _ _ _ _ | with_reducible exact ix_a _ _ | with_reducible exact ix_mama _ _ _ _ _) (by omega) ?_
      refine wa_iload dX6_spikes_61 rfl ?_
      refine wa_if_le 198 dX6_spikes_63 (by decide) (fun c63_1 => ?_) (fun c63_1 => ?_)
      · try simp (disch := omega) only [nI_toInt, Int32.toInt_toInt64, not_true_eq_false, sI_off, bI_off, hn, nI_add] at c63_1
        try (exfalso; omega)
        all_goals
          skip
          refine wa_iinc (nI 1) dX6_spikes_198 rfl (by decide) (by decide) ?_
          refine wa_goto 42 dX6_spikes_201 (by decide) ?_
          refine WA.frg [true, true, true, true, true, true, false, false] ?_
          show WA kX6_spikes d Q 42 [some (.ref 73), some (.int (nI j)), some (.int e), some (.int (nI (64 * j))), some (.int (nI 0)), some (.int (nI i + nI 1)), none, none] [] _
          first
          | (have hp_ : isSp (mF μ j) (mV μ j) n e i = false := decide_eq_false (fun q => by simp only [mF] at q; rw [hbe, hb] at q; omega)
             first | rw [sI_sI, sIb, spF_s _ _ _ _ _ _ (by rw [if_neg (by rw [hp_]; decide)])] | rw [sIb, spF_s _ _ _ _ _ _ (by rw [if_neg (by rw [hp_]; decide)])]
             simp only [nI_add]
             exact e_ _)
          | (have hp_ : isSp (mF μ j) (mV μ j) n e i = true := decide_eq_true (by simp only [mF]; rw [hbe, hb]; omega)
             rw [sI_sI, sIb, spF_s _ _ _ _ _ _ (by rw [if_pos hp_])]
             simp only [nI_add]
             exact e_ _)
      · try simp (disch := omega) only [nI_toInt, Int32.toInt_toInt64, not_true_eq_false, sI_off, bI_off, hn, nI_add] at c63_1
        try (exfalso; omega)
        all_goals
          skip
          refine wa_iload dX6_spikes_66 rfl ?_
          refine wa_iconst (nI 1) dX6_spikes_68 (by decide) ?_
          refine wa_iadd dX6_spikes_69 ?_
          refine wa_aload_n dX6_spikes_70 rfl ?_
          refine wa_getR dX6_spikes_71 fgX6_17 (by first | assumption | rfl) (by rfl) ?_
          refine wa_iload_n dX6_spikes_74 rfl ?_
          refine wa_iald _ dX6_spikes_75 (by first | assumption | rfl) (by first | with_reducible rfl | with_reducible assumption | with_reducible exact ix_ma _ _ _ | with_reducible exact ix_maa _ _ _ _ | with_reducible exact ix_a _ _ | with_reducible exact ix_mama _ _ _ _ _) (by omega) ?_
          refine wa_ic_ge 198 dX6_spikes_76 (by decide) (fun c76_2 => ?_) (fun c76_2 => ?_)
          · try simp (disch := omega) only [nI_toInt, Int32.toInt_toInt64, not_true_eq_false, sI_off, bI_off, hn, nI_add] at c76_2
            try (exfalso; omega)
            all_goals
              skip
              refine wa_iinc (nI 1) dX6_spikes_198 rfl (by decide) (by decide) ?_
              refine wa_goto 42 dX6_spikes_201 (by decide) ?_
              refine WA.frg [true, true, true, true, true, true, false, false] ?_
              show WA kX6_spikes d Q 42 [some (.ref 73), some (.int (nI j)), some (.int e), some (.int (nI (64 * j))), some (.int (nI 0)), some (.int (nI i + nI 1)), none, none] [] _
              first
              | (have hp_ : isSp (mF μ j) (mV μ j) n e i = false := decide_eq_false (fun q => by simp only [mF] at q; rw [hbe, hb] at q; omega)
                 first | rw [sI_sI, sIb, spF_s _ _ _ _ _ _ (by rw [if_neg (by rw [hp_]; decide)])] | rw [sIb, spF_s _ _ _ _ _ _ (by rw [if_neg (by rw [hp_]; decide)])]
                 simp only [nI_add]
                 exact e_ _)
              | (have hp_ : isSp (mF μ j) (mV μ j) n e i = true := decide_eq_true (by simp only [mF]; rw [hbe, hb]; omega)
                 rw [sI_sI, sIb, spF_s _ _ _ _ _ _ (by rw [if_pos hp_])]
                 simp only [nI_add]
                 exact e_ _)
          · try simp (disch := omega) only [nI_toInt, Int32.toInt_toInt64, not_true_eq_false, sI_off, bI_off, hn, nI_add] at c76_2
            try (exfalso; omega)
            all_goals
              skip
              refine wa_aload_n dX6_spikes_79 rfl ?_
              refine wa_getR dX6_spikes_80 fgX6_20 (by first | assumption | rfl) (by rfl) ?_
              refine wa_iload_n dX6_spikes_83 rfl ?_
              refine wa_iload dX6_spikes_84 rfl ?_
              refine wa_iadd dX6_spikes_86 ?_
              refine wa_iald _ dX6_spikes_87 (by first | assumption | rfl) (by first | with_reducible rfl | with_reducible assumption | with_reducible exact ix_ma _ _ _ | with_reducible exact ix_maa _ _ _ _ | with_reducible exact ix_a _ _ | with_reducible exact ix_mama _ _ _ _ _) (by omega) ?_
              refine wa_if_le 198 dX6_spikes_88 (by decide) (fun c88_3 => ?_) (fun c88_3 => ?_)
              · try simp (disch := omega) only [nI_toInt, Int32.toInt_toInt64, not_true_eq_false, sI_off, bI_off, hn, nI_add] at c88_3
                try (exfalso; omega)
                all_goals
                  skip
                  refine wa_iinc (nI 1) dX6_spikes_198 rfl (by decide) (by decide) ?_
                  refine wa_goto 42 dX6_spikes_201 (by decide) ?_
                  refine WA.frg [true, true, true, true, true, true, false, false] ?_
                  show WA kX6_spikes d Q 42 [some (.ref 73), some (.int (nI j)), some (.int e), some (.int (nI (64 * j))), some (.int (nI 0)), some (.int (nI i + nI 1)), none, none] [] _
                  first
                  | (have hp_ : isSp (mF μ j) (mV μ j) n e i = false := decide_eq_false (fun q => by simp only [mF] at q; rw [hbe, hb] at q; omega)
                     first | rw [sI_sI, sIb, spF_s _ _ _ _ _ _ (by rw [if_neg (by rw [hp_]; decide)])] | rw [sIb, spF_s _ _ _ _ _ _ (by rw [if_neg (by rw [hp_]; decide)])]
                     simp only [nI_add]
                     exact e_ _)
                  | (have hp_ : isSp (mF μ j) (mV μ j) n e i = true := decide_eq_true (by simp only [mF]; rw [hbe, hb]; omega)
                     rw [sI_sI, sIb, spF_s _ _ _ _ _ _ (by rw [if_pos hp_])]
                     simp only [nI_add]
                     exact e_ _)
              · try simp (disch := omega) only [nI_toInt, Int32.toInt_toInt64, not_true_eq_false, sI_off, bI_off, hn, nI_add] at c88_3
                try (exfalso; omega)
                all_goals
                  skip
                  refine wa_aload_n dX6_spikes_91 rfl ?_
                  refine wa_getR dX6_spikes_92 fgX6_20 (by first | assumption | rfl) (by rfl) ?_
                  refine wa_iload_n dX6_spikes_95 rfl ?_
                  refine wa_iload dX6_spikes_96 rfl ?_
                  refine wa_iadd dX6_spikes_98 ?_
                  refine wa_iconst (nI 1) dX6_spikes_99 (by decide) ?_
                  refine wa_isub dX6_spikes_100 ?_
                  refine wa_iald (64 * j + (i - 1)) dX6_spikes_101 (by first | assumption | rfl) (by rw [nI_add, pk_sub (by omega)]; congr 1; omega) (by omega) ?_
                  refine wa_if_le 198 dX6_spikes_102 (by decide) (fun c102_4 => ?_) (fun c102_4 => ?_)
                  · try simp (disch := omega) only [nI_toInt, Int32.toInt_toInt64, not_true_eq_false, sI_off, bI_off, hn, nI_add] at c102_4
                    try (exfalso; omega)
                    all_goals
                      skip
                      refine wa_iinc (nI 1) dX6_spikes_198 rfl (by decide) (by decide) ?_
                      refine wa_goto 42 dX6_spikes_201 (by decide) ?_
                      refine WA.frg [true, true, true, true, true, true, false, false] ?_
                      show WA kX6_spikes d Q 42 [some (.ref 73), some (.int (nI j)), some (.int e), some (.int (nI (64 * j))), some (.int (nI 0)), some (.int (nI i + nI 1)), none, none] [] _
                      first
                      | (have hp_ : isSp (mF μ j) (mV μ j) n e i = false := decide_eq_false (fun q => by simp only [mF] at q; rw [hbe, hb] at q; omega)
                         first | rw [sI_sI, sIb, spF_s _ _ _ _ _ _ (by rw [if_neg (by rw [hp_]; decide)])] | rw [sIb, spF_s _ _ _ _ _ _ (by rw [if_neg (by rw [hp_]; decide)])]
                         simp only [nI_add]
                         exact e_ _)
                      | (have hp_ : isSp (mF μ j) (mV μ j) n e i = true := decide_eq_true (by simp only [mF]; rw [hbe, hb]; omega)
                         rw [sI_sI, sIb, spF_s _ _ _ _ _ _ (by rw [if_pos hp_])]
                         simp only [nI_add]
                         exact e_ _)
                  · try simp (disch := omega) only [nI_toInt, Int32.toInt_toInt64, not_true_eq_false, sI_off, bI_off, hn, nI_add] at c102_4
                    try (exfalso; omega)
                    all_goals
                      skip
                      refine wa_aload_n dX6_spikes_105 rfl ?_
                      refine wa_getR dX6_spikes_106 fgX6_20 (by first | assumption | rfl) (by rfl) ?_
                      refine wa_iload_n dX6_spikes_109 rfl ?_
                      refine wa_iload dX6_spikes_110 rfl ?_
                      refine wa_iadd dX6_spikes_112 ?_
                      refine wa_iconst (nI 1) dX6_spikes_113 (by decide) ?_
                      refine wa_iadd dX6_spikes_114 ?_
                      refine wa_iald (64 * j + (i + 1)) dX6_spikes_115 (by first | assumption | rfl) (by rw [nI_add, nI_add]; rfl) (by omega) ?_
                      refine wa_if_le 198 dX6_spikes_116 (by decide) (fun c116_5 => ?_) (fun c116_5 => ?_)
                      · try simp (disch := omega) only [nI_toInt, Int32.toInt_toInt64, not_true_eq_false, sI_off, bI_off, hn, nI_add] at c116_5
                        try (exfalso; omega)
                        all_goals
                          skip
                          refine wa_iinc (nI 1) dX6_spikes_198 rfl (by decide) (by decide) ?_
                          refine wa_goto 42 dX6_spikes_201 (by decide) ?_
                          refine WA.frg [true, true, true, true, true, true, false, false] ?_
                          show WA kX6_spikes d Q 42 [some (.ref 73), some (.int (nI j)), some (.int e), some (.int (nI (64 * j))), some (.int (nI 0)), some (.int (nI i + nI 1)), none, none] [] _
                          first
                          | (have hp_ : isSp (mF μ j) (mV μ j) n e i = false := decide_eq_false (fun q => by simp only [mF] at q; rw [hbe, hb] at q; omega)
                             first | rw [sI_sI, sIb, spF_s _ _ _ _ _ _ (by rw [if_neg (by rw [hp_]; decide)])] | rw [sIb, spF_s _ _ _ _ _ _ (by rw [if_neg (by rw [hp_]; decide)])]
                             simp only [nI_add]
                             exact e_ _)
                          | (have hp_ : isSp (mF μ j) (mV μ j) n e i = true := decide_eq_true (by simp only [mF]; rw [hbe, hb]; omega)
                             rw [sI_sI, sIb, spF_s _ _ _ _ _ _ (by rw [if_pos hp_])]
                             simp only [nI_add]
                             exact e_ _)
                      · try simp (disch := omega) only [nI_toInt, Int32.toInt_toInt64, not_true_eq_false, sI_off, bI_off, hn, nI_add] at c116_5
                        try (exfalso; omega)
                        all_goals
                          skip
                          refine wa_ldc2 (2) dX6_spikes_119 lcX6_64 ?_
                          refine wa_aload_n dX6_spikes_122 rfl ?_
                          refine wa_getR dX6_spikes_123 fgX6_23 (by first | assumption | rfl) (by rfl) ?_
                          refine wa_iload_n dX6_spikes_126 rfl ?_
                          refine wa_iload dX6_spikes_127 rfl ?_
                          refine wa_iadd dX6_spikes_129 ?_
                          refine wa_iald _ dX6_spikes_130 (by first | assumption | rfl) (by first | with_reducible rfl | with_reducible assumption | with_reducible exact ix_ma _ _ _ | with_reducible exact ix_maa _ _ _ _ | with_reducible exact ix_a _ _ | with_reducible exact ix_mama _ _ _ _ _) (by omega) ?_
                          refine wa_i2l dX6_spikes_131 ?_
                          refine wa_lmul dX6_spikes_132 ?_
                          refine wa_aload_n dX6_spikes_133 rfl ?_
                          refine wa_getR dX6_spikes_134 fgX6_23 (by first | assumption | rfl) (by rfl) ?_
                          refine wa_iload_n dX6_spikes_137 rfl ?_
                          refine wa_iload dX6_spikes_138 rfl ?_
                          refine wa_iadd dX6_spikes_140 ?_
                          refine wa_iconst (nI 1) dX6_spikes_141 (by decide) ?_
                          refine wa_isub dX6_spikes_142 ?_
                          refine wa_iald (64 * j + (i - 1)) dX6_spikes_143 (by first | assumption | rfl) (by rw [nI_add, pk_sub (by omega)]; congr 1; omega) (by omega) ?_
                          refine wa_i2l dX6_spikes_144 ?_
                          refine wa_lsub dX6_spikes_145 ?_
                          refine wa_aload_n dX6_spikes_146 rfl ?_
                          refine wa_getR dX6_spikes_147 fgX6_23 (by first | assumption | rfl) (by rfl) ?_
                          refine wa_iload_n dX6_spikes_150 rfl ?_
                          refine wa_iload dX6_spikes_151 rfl ?_
                          refine wa_iadd dX6_spikes_153 ?_
                          refine wa_iconst (nI 1) dX6_spikes_154 (by decide) ?_
                          refine wa_iadd dX6_spikes_155 ?_
                          refine wa_iald (64 * j + (i + 1)) dX6_spikes_156 (by first | assumption | rfl) (by rw [nI_add, nI_add]; rfl) (by omega) ?_
                          refine wa_i2l dX6_spikes_157 ?_
                          refine wa_lsub dX6_spikes_158 ?_
                          refine wa_lstore dX6_spikes_159 (by decide) ?_
                          refine wa_aload_n dX6_spikes_161 rfl ?_
                          refine wa_getR dX6_spikes_162 fgX6_49 (by first | assumption | rfl) (by rfl) ?_
                          refine wa_iload dX6_spikes_165 rfl ?_
                          refine wa_lload dX6_spikes_167 rfl ?_
                          refine wa_ldc2 (2) dX6_spikes_169 lcX6_64 ?_
                          refine wa_iload_n dX6_spikes_172 rfl ?_
                          refine wa_i2l dX6_spikes_173 ?_
                          refine wa_lmul dX6_spikes_174 ?_
                          refine wa_lc_gt 192 dX6_spikes_175 dX6_spikes_176 (by decide) (fun c175_6 => ?_) (fun c175_6 => ?_)
                          · try simp (disch := omega) only [nI_toInt, Int32.toInt_toInt64, not_true_eq_false, sI_off, bI_off, hn, nI_add] at c175_6
                            try (exfalso; omega)
                            all_goals
                              skip
                              refine wa_iconst (nI 1) dX6_spikes_192 (by decide) ?_
                              refine wa_goto 197 dX6_spikes_193 (by decide) ?_
                              refine wa_iast _ dX6_spikes_197 (by first | assumption | rfl) (by first | with_reducible rfl | with_reducible assumption | with_reducible exact ix_ma _ _ _ | with_reducible exact ix_maa _ _ _ _ | with_reducible exact ix_a _ _ | with_reducible exact ix_mama _ _ _ _ _) (by omega) ?_
                              refine wa_iinc (nI 1) dX6_spikes_198 rfl (by decide) (by decide) ?_
                              refine wa_goto 42 dX6_spikes_201 (by decide) ?_
                              refine WA.frg [true, true, true, true, true, true, false, false] ?_
                              show WA kX6_spikes d Q 42 [some (.ref 73), some (.int (nI j)), some (.int e), some (.int (nI (64 * j))), some (.int (nI 0)), some (.int (nI i + nI 1)), none, none] [] _
                              first
                              | (have hp_ : isSp (mF μ j) (mV μ j) n e i = false := decide_eq_false (fun q => by simp only [mF] at q; rw [hbe, hb] at q; omega)
                                 first | rw [sI_sI, sIb, spF_s _ _ _ _ _ _ (by rw [if_neg (by rw [hp_]; decide)])] | rw [sIb, spF_s _ _ _ _ _ _ (by rw [if_neg (by rw [hp_]; decide)])]
                                 simp only [nI_add]
                                 exact e_ _)
                              | (have hp_ : isSp (mF μ j) (mV μ j) n e i = true := decide_eq_true (by simp only [mF]; rw [hbe, hb]; omega)
                                 rw [sI_sI, sIb, spF_s _ _ _ _ _ _ (by rw [if_pos hp_])]
                                 simp only [nI_add]
                                 exact e_ _)
                          · try simp (disch := omega) only [nI_toInt, Int32.toInt_toInt64, not_true_eq_false, sI_off, bI_off, hn, nI_add] at c175_6
                            try (exfalso; omega)
                            all_goals
                              skip
                              refine wa_lload dX6_spikes_179 rfl ?_
                              refine wa_lneg dX6_spikes_181 ?_
                              refine wa_ldc2 (2) dX6_spikes_182 lcX6_64 ?_
                              refine wa_iload_n dX6_spikes_185 rfl ?_
                              refine wa_i2l dX6_spikes_186 ?_
                              refine wa_lmul dX6_spikes_187 ?_
                              refine wa_lc_le 196 dX6_spikes_188 dX6_spikes_189 (by decide) (fun c188_7 => ?_) (fun c188_7 => ?_)
                              · try simp (disch := omega) only [nI_toInt, Int32.toInt_toInt64, not_true_eq_false, sI_off, bI_off, hn, nI_add] at c188_7
                                try (exfalso; omega)
                                all_goals
                                  skip
                                  refine wa_iconst (nI 0) dX6_spikes_196 (by decide) ?_
                                  refine wa_iast _ dX6_spikes_197 (by first | assumption | rfl) (by first | with_reducible rfl | with_reducible assumption | with_reducible exact ix_ma _ _ _ | with_reducible exact ix_maa _ _ _ _ | with_reducible exact ix_a _ _ | with_reducible exact ix_mama _ _ _ _ _) (by omega) ?_
                                  refine wa_iinc (nI 1) dX6_spikes_198 rfl (by decide) (by decide) ?_
                                  refine wa_goto 42 dX6_spikes_201 (by decide) ?_
                                  refine WA.frg [true, true, true, true, true, true, false, false] ?_
                                  show WA kX6_spikes d Q 42 [some (.ref 73), some (.int (nI j)), some (.int e), some (.int (nI (64 * j))), some (.int (nI 0)), some (.int (nI i + nI 1)), none, none] [] _
                                  first
                                  | (have hp_ : isSp (mF μ j) (mV μ j) n e i = false := decide_eq_false (fun q => by simp only [mF] at q; rw [hbe, hb] at q; omega)
                                     first | rw [sI_sI, sIb, spF_s _ _ _ _ _ _ (by rw [if_neg (by rw [hp_]; decide)])] | rw [sIb, spF_s _ _ _ _ _ _ (by rw [if_neg (by rw [hp_]; decide)])]
                                     simp only [nI_add]
                                     exact e_ _)
                                  | (have hp_ : isSp (mF μ j) (mV μ j) n e i = true := decide_eq_true (by simp only [mF]; rw [hbe, hb]; omega)
                                     rw [sI_sI, sIb, spF_s _ _ _ _ _ _ (by rw [if_pos hp_])]
                                     simp only [nI_add]
                                     exact e_ _)
                              · try simp (disch := omega) only [nI_toInt, Int32.toInt_toInt64, not_true_eq_false, sI_off, bI_off, hn, nI_add] at c188_7
                                try (exfalso; omega)
                                all_goals
                                  skip
                                  refine wa_iconst (nI 1) dX6_spikes_192 (by decide) ?_
                                  refine wa_goto 197 dX6_spikes_193 (by decide) ?_
                                  refine wa_iast _ dX6_spikes_197 (by first | assumption | rfl) (by first | with_reducible rfl | with_reducible assumption | with_reducible exact ix_ma _ _ _ | with_reducible exact ix_maa _ _ _ _ | with_reducible exact ix_a _ _ | with_reducible exact ix_mama _ _ _ _ _) (by omega) ?_
                                  refine wa_iinc (nI 1) dX6_spikes_198 rfl (by decide) (by decide) ?_
                                  refine wa_goto 42 dX6_spikes_201 (by decide) ?_
                                  refine WA.frg [true, true, true, true, true, true, false, false] ?_
                                  show WA kX6_spikes d Q 42 [some (.ref 73), some (.int (nI j)), some (.int e), some (.int (nI (64 * j))), some (.int (nI 0)), some (.int (nI i + nI 1)), none, none] [] _
                                  first
                                  | (have hp_ : isSp (mF μ j) (mV μ j) n e i = false := decide_eq_false (fun q => by simp only [mF] at q; rw [hbe, hb] at q; omega)
                                     first | rw [sI_sI, sIb, spF_s _ _ _ _ _ _ (by rw [if_neg (by rw [hp_]; decide)])] | rw [sIb, spF_s _ _ _ _ _ _ (by rw [if_neg (by rw [hp_]; decide)])]
                                     simp only [nI_add]
                                     exact e_ _)
                                  | (have hp_ : isSp (mF μ j) (mV μ j) n e i = true := decide_eq_true (by simp only [mF]; rw [hbe, hb]; omega)
                                     rw [sI_sI, sIb, spF_s _ _ _ _ _ _ (by rw [if_pos hp_])]
                                     simp only [nI_add]
                                     exact e_ _)
  have e0 := loop n 0 (by omega) none
  rw [spF_0, bI_self] at e0
  refine wa_bipush (nI 64) dX6_spikes_31 (by decide) ?_
  refine wa_iload_n dX6_spikes_33 rfl ?_
  refine wa_imul dX6_spikes_34 ?_
  refine wa_istore_n dX6_spikes_35 (by decide) ?_
  refine wa_iconst (nI 0) dX6_spikes_36 (by decide) ?_
  refine wa_istore dX6_spikes_37 (by decide) ?_
  refine wa_iconst (nI 0) dX6_spikes_39 (by decide) ?_
  refine wa_istore dX6_spikes_40 (by decide) ?_
  rw [pk_mul]; exact e0
theorem isSp_c {s s2 v v2 : Nat → Int32} {n i : Nat} {e : Int32} (hs : ∀ i, i < n → s i = s2 i) (hv : ∀ i, i < n → ¬ s2 i = nI 0 → v i = v2 i) (hi : i < n) : isSp s v n e i = isSp s2 v2 n e i := by
  have nz : ∀ {x : Int32}, ¬ x.toInt = 0 → ¬ x = nI 0 := fun h q => h (by rw [q]; decide)
  unfold isSp
  congr 1
  refine propext ⟨fun ⟨h1, h2, h3, h4, h5, h6⟩ => ?_, fun ⟨h1, h2, h3, h4, h5, h6⟩ => ?_⟩
  · rw [hs (i - 1) (by omega)] at h3
    rw [hs i hi] at h4
    rw [hs (i + 1) h2] at h5
    have eb : bendE v i = bendE v2 i := by
      rw [bendE, bendE, hv i hi (nz h4), hv (i - 1) (by omega) (nz h3), hv (i + 1) h2 (nz h5)]
    rw [eb] at h6
    exact ⟨h1, h2, h3, h4, h5, h6⟩
  · have eb : bendE v i = bendE v2 i := by
      rw [bendE, bendE, hv i hi (nz h4), hv (i - 1) (by omega) (nz h3), hv (i + 1) h2 (nz h5)]
    rw [hs (i - 1) (by omega), hs i hi, hs (i + 1) h2, eb]
    exact ⟨h1, h2, h3, h4, h5, h6⟩
theorem bcN_c {p q : Nat → Bool} : ∀ {n : Nat}, (∀ i, i < n → p i = q i) → bcN p n = bcN q n
  | 0, _ => rfl
  | n + 1, h => by rw [bcN, bcN, bcN_c (fun i hi => h i (by omega)), h n (by omega)]
theorem lsF_at {p : Nat → Bool} {f : Nat → Int32} {m i : Nat} (h : i < m) : lsF p f m i = if p i = true then nI 0 else f i := by
  rw [lsF]
  by_cases hp : p i = true
  · rw [if_pos ⟨h, hp⟩, if_pos hp]
  · rw [if_neg (fun z => hp z.2), if_neg hp]
theorem st3_ge {x : Int32} (h : st3 x) : 0 ≤ x.toInt := by
  rcases h with h | h | h <;> rw [h] <;> decide
theorem pr_spikes (k e : Int32) : PR kX5_spikes kX6_spikes [.int k, .int e] := by
  intro N μ d c hd hc hN hrel
  refine MW_of (by decide) [some (.ref 0), some (.int k), some (.int e)] rfl (Nat.le_of_ble_eq_true rfl) ?_
  refine wa_iload_n dX5_spikes_0 rfl ?_
  refine wa_callS1 (k' := kX5_isSheet) (d' := 0) dX5_spikes_1 lmX5_44 ksX5_isSheet (by decide) (by omega) (Nat.le_of_ble_eq_true rfl) ?_
  refine wp_X5_isSheet (fun j_ hj_ hk_ => ?_) (fun hoob => ?_)
  · skip
    obtain ⟨n_, s1_, s2_, s3_, s4_, s5_, s6_, s7_, s8_, s9_, s10_⟩ := hrel.1 j_ (by omega); have s5_ := s5_ (by omega); have hS_ := isS_k (show j_ < 9 by omega); have hsh_ := (isS_sh hS_).1
    refine wa_if_eqF 11 dX5_spikes_4 (by decide) (by decide) ?_
    refine wa_iload_n dX5_spikes_7 rfl ?_
    refine wa_if_ge 14 dX5_spikes_8 (by decide) (fun c8_2 => ?_) (fun c8_2 => ?_)
    · try simp (disch := omega) only [nI_toInt, Int32.toInt_toInt64] at c8_2
      refine wa_aload_n dX5_spikes_14 rfl ?_
      refine wa_getR dX5_spikes_15 fgX5_11 (by first | assumption | rfl) (by rfl) ?_
      refine wa_iload_n dX5_spikes_18 rfl ?_
      refine wa_aalS _ dX5_spikes_19 (by first | assumption | rfl) (by exact hk_) (by omega) ?_
      rw [show arf 1 j_ = 7 + 4 * j_ from rfl]
      refine wa_callV0 (k' := kX3_isThere) (d' := 0) dX5_spikes_20 lmX5_87 kvX3_isThere (by first | assumption | rfl) (by rfl) (by decide) (by omega) (Nat.le_of_ble_eq_true rfl) ?_
      refine wp_X3_isThere hS_ s1_ (fun h_ => ?_) (fun h_ => ?_)
      · skip
        refine wa_if_neT 29 dX5_spikes_23 (by decide) (by decide) ?_
        refine wa_aload_n dX5_spikes_29 rfl ?_
        refine wa_getR dX5_spikes_30 fgX5_11 (by first | assumption | rfl) (by rfl) ?_
        refine wa_iload_n dX5_spikes_33 rfl ?_
        refine wa_aalS _ dX5_spikes_34 (by first | assumption | rfl) (by exact hk_) (by omega) ?_
        rw [show arf 1 j_ = 7 + 4 * j_ from rfl]
        refine wa_iload_n dX5_spikes_35 rfl ?_
        refine wa_callV1 (k' := kX3_loseSpikes) (d' := 2) dX5_spikes_36 lmX5_102 kvX3_loseSpikes (by first | assumption | rfl) (by rfl) (by decide) (by omega) (Nat.le_of_ble_eq_true rfl) ?_
        refine wp_X3_loseSpikes (n := n_) hS_ (by omega) s3_ s4_ ?_
        refine wa_iret dX5_spikes_39 rfl ?_
        rw [hk_]
        have he_ : 0 ≤ e.toInt := by omega
        have hp_ : ∀ i, i < n_ → isSp (mF μ j_) (mV μ j_) n_ e i = isSp (μ.1 (7 + 4 * j_ + 2)) (μ.1 (7 + 4 * j_ + 1)) n_ e i := fun i hi => isSp_c s9_ s8_ hi
        generalize isSp (μ.1 (7 + 4 * j_ + 2)) (μ.1 (7 + 4 * j_ + 1)) n_ e = p_ at hp_ ⊢
        generalize spF (μ.1 (7 + 4 * j_ + 2)) (μ.1 (7 + 4 * j_ + 1)) n_ e (μ.1 (7 + 4 * j_ + 3)) n_ = F_
        refine MW_of (by decide) [some (.ref 73), some (.int (nI j_)), some (.int e), none, none, none, none, none] rfl (Nat.le_of_ble_eq_true rfl) ?_
        refine wa_iload_n dX6_spikes_0 rfl ?_
        refine wa_i2l dX6_spikes_1 ?_
        refine wa_lconst (0) dX6_spikes_2 (by decide) ?_
        refine wa_ldc2 (7) dX6_spikes_3 lcX6_58 ?_
        refine wa_callS3 (k' := kX6_in) (d' := 0) dX6_spikes_6 lmX6_60 ksX6_in (by decide) (by omega) (Nat.le_of_ble_eq_true rfl) ?_
        refine in8_1 hj_ ?_
        refine wa_if_eqF 16 dX6_spikes_9 (by decide) (by decide) ?_
        refine wa_iload_n dX6_spikes_12 rfl ?_
        refine wa_if_geT 19 dX6_spikes_13 (by decide) (he_) ?_
        refine wa_aload_n dX6_spikes_19 rfl ?_
        refine wa_getR dX6_spikes_20 fgX6_7 (by first | assumption | rfl) (by rfl) ?_
        refine wa_iload_n dX6_spikes_23 rfl ?_
        refine wa_zald _ dX6_spikes_24 (by first | assumption | rfl) (by first | with_reducible rfl | with_reducible assumption | with_reducible exact ix_ma _ _ _ | with_reducible exact ix_maa _ _ _ _ | with_reducible exact ix_a _ _ | with_reducible exact ix_mama _ _ _ _ _) (by omega) ?_
        refine wa_if_neT 31 dX6_spikes_25 (by decide) (by simp (disch := omega) only [sI_off, bI_off, sL_off, bL_off, r1l, r2l, rb1l, rb2l, r1m, r2m, rb1e, rb2e, r1e, r2e]; rw [s5_, h_]; decide) ?_
        have em_ : mF (bI (bI (bI μ (7 + 4 * j_ + 3) F_) (7 + 4 * j_ + 1) (lsF p_ (μ.1 (7 + 4 * j_ + 1)) n_)) (7 + 4 * j_ + 2) (lsF p_ (μ.1 (7 + 4 * j_ + 2)) n_)) j_ = mF μ j_ := by funext i; simp (disch := omega) only [mF, bI_off]
        have ev_ : mV (bI (bI (bI μ (7 + 4 * j_ + 3) F_) (7 + 4 * j_ + 1) (lsF p_ (μ.1 (7 + 4 * j_ + 1)) n_)) (7 + 4 * j_ + 2) (lsF p_ (μ.1 (7 + 4 * j_ + 2)) n_)) j_ = mV μ j_ := by funext i; simp (disch := omega) only [mV, bI_off]
        refine wa_spikes1 (n := n_) hj_ he_ (by simp (disch := omega) only [sI_off, bI_off, sL_off, bL_off, r1l, r2l, rb1l, rb2l, r1m, r2m, rb1e, rb2e, r1e, r2e]; exact s7_) s4_ (fun i hi => by simp (disch := omega) only [sI_off, bI_off, sL_off, bL_off, r1l, r2l, rb1l, rb2l, r1m, r2m, rb1e, rb2e, r1e, r2e]; rw [s9_ i hi]; exact st3_ge (s10_ i hi)) (fun z_ => ?_)
        rw [em_, ev_]
        refine wa_iconst (nI 0) dX6_spikes_204 (by decide) ?_
        refine wa_istore dX6_spikes_205 (by decide) ?_
        refine wa_spikes2 (n := n_) (p := isSp (mF μ j_) (mV μ j_) n_ e) hj_ (by simp (disch := omega) only [sI_off, bI_off, sL_off, bL_off, r1l, r2l, rb1l, rb2l, r1m, r2m, rb1e, rb2e, r1e, r2e]; exact s7_) s4_ (fun i hi => by rw [rb1e, spF, if_pos hi]) ⟨by rw [bcN_c hp_], ?_⟩ _ _
        refine Rel_S (k := j_) (n := n_) hrel ?rels ?fs ?fr ?fp ?fw ?fm
        case fs =>
          intro j_ hj_ hjk_
          refine ⟨?_, ?_, ?_, ?_, ?_, ?_, fun i_ hi_ => ?_, fun i_ hi_ => ?_⟩
          all_goals
            simp (disch := omega) only [sI_off, bI_off, sL_off, bL_off, r1l, r2l, rb1l, rb2l, r1m, r2m, rb1e, rb2e,lsR_no]
        case fr =>
          intro r_ hr_
          refine ⟨?_, ?_, ?_, fun i_ hi_ => ?_⟩
          all_goals
            simp (disch := omega) only [sI_off, bI_off, sL_off, bL_off, r1l, r2l, rb1l, rb2l, r1m, r2m, rb1e, rb2e,lsR_no]
        case fp =>
          refine ⟨?_, ?_, ?_, ?_, ?_⟩
          all_goals
            simp (disch := omega) only [sI_off, bI_off, sL_off, bL_off, r1l, r2l, rb1l, rb2l, r1m, r2m, rb1e, rb2e,lsR_no]
        case fw =>
          refine ⟨?_, fun q_ ha_ hb_ => ?_⟩
          all_goals
            simp (disch := omega) only [sI_off, bI_off, sL_off, bL_off, r1l, r2l, rb1l, rb2l, r1m, r2m, rb1e, rb2e,lsR_no]
        case fm =>
          refine ⟨?_, ?_, fun q_ ha_ hb_ => ?_⟩
          all_goals
            simp (disch := omega) only [sI_off, bI_off, sL_off, bL_off, r1l, r2l, rb1l, rb2l, r1m, r2m, rb1e, rb2e,lsR_no]
        case rels =>
          refine ⟨by simp (disch := omega) only [sI_off, bI_off, sL_off, bL_off, r1l, r2l, rb1l, rb2l, r1m, r2m, rb1e, rb2e, r1e, r2e]; exact s1_, by simp (disch := omega) only [sI_off, bI_off, sL_off, bL_off, r1l, r2l, rb1l, rb2l, r1m, r2m, rb1e, rb2e, r1e, r2e]; exact s2_, by simp (disch := omega) only [sI_off, bI_off, sL_off, bL_off, r1l, r2l, rb1l, rb2l, r1m, r2m, rb1e, rb2e, r1e, r2e]; exact s3_, s4_, fun _ => by simp (disch := omega) only [sI_off, bI_off, sL_off, bL_off, r1l, r2l, rb1l, rb2l, r1m, r2m, rb1e, rb2e, r1e, r2e]; exact s5_, by simp (disch := omega) only [sI_off, bI_off, sL_off, bL_off, r1l, r2l, rb1l, rb2l, r1m, r2m, rb1e, rb2e, r1e, r2e]; exact s6_, by simp (disch := omega) only [sI_off, bI_off, sL_off, bL_off, r1l, r2l, rb1l, rb2l, r1m, r2m, rb1e, rb2e, r1e, r2e]; exact s7_, fun i_ hb_ hz_ => ?_, fun i_ hb_ => ?_, fun i_ hb_ => ?_⟩
          · revert hz_
            simp (disch := omega) only [sI_off, bI_off, sL_off, bL_off, r1l, r2l, rb1l, rb2l, r1m, r2m, rb1e, rb2e, r1e, r2e]
            rw [lsF_at hb_, lsF_at hb_, lsR_at hb_, hp_ i_ hb_]
            intro hz_
            by_cases hpi_ : p_ i_ = true
            · rw [if_pos hpi_, if_pos hpi_]
            · rw [if_neg hpi_] at hz_ ⊢
              rw [if_neg hpi_]
              exact s8_ i_ hb_ hz_
          · simp (disch := omega) only [sI_off, bI_off, sL_off, bL_off, r1l, r2l, rb1l, rb2l, r1m, r2m, rb1e, rb2e, r1e, r2e]
            rw [lsF_at hb_, lsR_at hb_, hp_ i_ hb_, s9_ i_ hb_]
          · simp (disch := omega) only [sI_off, bI_off, sL_off, bL_off, r1l, r2l, rb1l, rb2l, r1m, r2m, rb1e, rb2e, r1e, r2e]
            rw [lsF_at hb_]
            split
            · exact Or.inl rfl
            · exact s10_ i_ hb_
      · skip
        refine wa_if_neF 29 dX5_spikes_23 (by decide) (by decide) ?_
        refine wa_bipush (-10) dX5_spikes_26 (by decide) ?_
        refine wa_iret dX5_spikes_28 rfl ?_
        rw [hk_]
        refine MW_of (by decide) [some (.ref 73), some (.int (nI j_)), some (.int e), none, none, none, none, none] rfl (Nat.le_of_ble_eq_true rfl) ?_
        refine wa_iload_n dX6_spikes_0 rfl ?_
        refine wa_i2l dX6_spikes_1 ?_
        refine wa_lconst (0) dX6_spikes_2 (by decide) ?_
        refine wa_ldc2 (7) dX6_spikes_3 lcX6_58 ?_
        refine wa_callS3 (k' := kX6_in) (d' := 0) dX6_spikes_6 lmX6_60 ksX6_in (by decide) (by omega) (Nat.le_of_ble_eq_true rfl) ?_
        refine in8_1 hj_ ?_
        refine wa_if_eqF 16 dX6_spikes_9 (by decide) (by decide) ?_
        refine wa_iload_n dX6_spikes_12 rfl ?_
        refine wa_if_geT 19 dX6_spikes_13 (by decide) (by omega) ?_
        refine wa_aload_n dX6_spikes_19 rfl ?_
        refine wa_getR dX6_spikes_20 fgX6_7 (by first | assumption | rfl) (by rfl) ?_
        refine wa_iload_n dX6_spikes_23 rfl ?_
        refine wa_zald _ dX6_spikes_24 (by first | assumption | rfl) (by first | with_reducible rfl | with_reducible assumption | with_reducible exact ix_ma _ _ _ | with_reducible exact ix_maa _ _ _ _ | with_reducible exact ix_a _ _ | with_reducible exact ix_mama _ _ _ _ _) (by omega) ?_
        refine wa_if_neF 31 dX6_spikes_25 (by decide) (by rw [s5_, h_]; exact fun q => q rfl) ?_
        refine wa_bipush (-10) dX6_spikes_28 (by decide) ?_
        refine wa_iret dX6_spikes_30 rfl ?_
        exact ⟨rfl, hrel.up⟩
    · try simp (disch := omega) only [nI_toInt, Int32.toInt_toInt64] at c8_2
      refine wa_bipush (-2) dX5_spikes_11 (by decide) ?_
      refine wa_iret dX5_spikes_13 rfl ?_
      rw [hk_]
      refine MW_of (by decide) [some (.ref 73), some (.int (nI j_)), some (.int e), none, none, none, none, none] rfl (Nat.le_of_ble_eq_true rfl) ?_
      refine wa_iload_n dX6_spikes_0 rfl ?_
      refine wa_i2l dX6_spikes_1 ?_
      refine wa_lconst (0) dX6_spikes_2 (by decide) ?_
      refine wa_ldc2 (7) dX6_spikes_3 lcX6_58 ?_
      refine wa_callS3 (k' := kX6_in) (d' := 0) dX6_spikes_6 lmX6_60 ksX6_in (by decide) (by omega) (Nat.le_of_ble_eq_true rfl) ?_
      refine in8_1 hj_ ?_
      refine wa_if_eqF 16 dX6_spikes_9 (by decide) (by decide) ?_
      refine wa_iload_n dX6_spikes_12 rfl ?_
      refine wa_if_geF 19 dX6_spikes_13 (by decide) (by omega) ?_
      refine wa_bipush (-2) dX6_spikes_16 (by decide) ?_
      refine wa_iret dX6_spikes_18 rfl ?_
      exact ⟨rfl, hrel.up⟩
  · skip
    refine wa_if_eqT 11 dX5_spikes_4 (by decide) (by decide) ?_
    refine wa_bipush (-2) dX5_spikes_11 (by decide) ?_
    refine wa_iret dX5_spikes_13 rfl ?_
    skip
    refine MW_of (by decide) [some (.ref 73), some (.int k), some (.int e), none, none, none, none, none] rfl (Nat.le_of_ble_eq_true rfl) ?_
    refine wa_iload_n dX6_spikes_0 rfl ?_
    refine wa_i2l dX6_spikes_1 ?_
    refine wa_lconst (0) dX6_spikes_2 (by decide) ?_
    refine wa_ldc2 (7) dX6_spikes_3 lcX6_58 ?_
    refine wa_callS3 (k' := kX6_in) (d' := 0) dX6_spikes_6 lmX6_60 ksX6_in (by decide) (by omega) (Nat.le_of_ble_eq_true rfl) ?_
    refine in8_0 hoob ?_
    refine wa_if_eqT 16 dX6_spikes_9 (by decide) (by decide) ?_
    refine wa_bipush (-2) dX6_spikes_16 (by decide) ?_
    refine wa_iret dX6_spikes_18 rfl ?_
    exact ⟨rfl, hrel.up⟩
