/-! PAIRS: fill -/
theorem rwI_id (f : Nat → Int32) (j n : Nat) : rwI (fun i => f (64 * j + i)) f j n = f := by
  funext q
  simp only [rwI]
  by_cases h : 64 * j ≤ q ∧ q < 64 * j + n
  · rw [if_pos h, show 64 * j + (q - 64 * j) = q by omega]
  · rw [if_neg h]
theorem rwI_u {g old : Nat → Int32} {j n p : Nat} {x : Int32} (h : p < n) : upd (rwI g old j n) (64 * j + p) x = rwI (upd g p x) old j n := by
  funext q
  by_cases hq : q = 64 * j + p
  · subst hq
    simp only [upd, rwI, if_true]
    rw [if_pos (by omega), if_pos (by omega)]
  · simp only [upd, rwI, hq, if_false]
    by_cases h2 : 64 * j ≤ q ∧ q < 64 * j + n
    · rw [if_pos h2, if_pos h2, if_neg (by omega)]
    · rw [if_neg h2, if_neg h2]
theorem prvN_z {s : Nat → Int32} {i : Nat} : ∀ m, (∀ q, i ≤ q → q < i + m → (s q).toInt = 0) → prvN s (i + m) = prvN s i
  | 0, _ => rfl
  | m + 1, h => by
    have ih := prvN_z m (fun q h1 h2 => h q h1 (by omega))
    rw [show i + (m + 1) = (i + m) + 1 by omega, prvN, if_pos (h (i + m) (by omega) (by omega)), ih]
theorem fi_z {s v : Nat → Int32} {M : Int} {i : Nat} : ∀ m, (∀ q, i ≤ q → q < i + m → (s q).toInt = 0) → fiS s M (i + m) = fiS s M i ∧ fiV s v M (i + m) = fiV s v M i ∧ fiC s M (i + m) = fiC s M i
  | 0, _ => ⟨rfl, rfl, rfl⟩
  | m + 1, h => by
    obtain ⟨h1, h2, h3⟩ := fi_z (v := v) (M := M) m (fun q h1 h2 => h q h1 (by omega))
    have hno : ¬ fOkB s M (i + m) = true := fun q => (of_decide_eq_true q).1 (h (i + m) (by omega) (by omega))
    rw [show i + (m + 1) = (i + m) + 1 by omega, fiS, fiV, fiC, if_neg hno, if_neg hno, if_neg hno]
    exact ⟨h1, h2, h3⟩
/-- behind a SAMPLE that stands comes another: nothing is filled -/
theorem fi_o {s v : Nat → Int32} {M : Int} {i : Nat} (hp : prvN s i = i) : fiS s M (i + 1) = fiS s M i ∧ fiV s v M (i + 1) = fiV s v M i ∧ fiC s M (i + 1) = fiC s M i := by
  rw [fiS, fiV, fiC]
  by_cases h : fOkB s M i = true
  · rw [if_pos h, if_pos h, if_pos h, hp]
    have e1 : ∀ f, fbS f (i - 1) i = f := fun f => by
      funext b
      rw [fbS, if_neg (by omega)]
    have e2 : ∀ f, fbV f (i - 1) i i = f := fun f => by
      funext b
      rw [fbV, if_neg (by omega)]
    exact ⟨e1 _, e2 _, by omega⟩
  · rw [if_neg h, if_neg h, if_neg h]
    exact ⟨rfl, rfl, rfl⟩
/-- the next that stands, or the end -/
theorem nxt_ex {s : Nat → Int32} {n : Nat} : ∀ m i, i + m = n → (s i).toInt = 0 → 0 < m → ∃ e, i < e ∧ e ≤ n ∧ (∀ q, i ≤ q → q < e → (s q).toInt = 0) ∧ (e = n ∨ ¬ (s e).toInt = 0)
  | 0, i, _, _, h => absurd h (by omega)
  | m + 1, i, hi, h0, _ => by
    by_cases hl : m = 0
    · exact ⟨i + 1, by omega, by omega, fun q h1 h2 => by rw [show q = i by omega]; exact h0, Or.inl (by omega)⟩
    · by_cases h1 : (s (i + 1)).toInt = 0
      · obtain ⟨e, a1, a2, a3, a4⟩ := nxt_ex (s := s) (n := n) m (i + 1) (by omega) h1 (by omega)
        refine ⟨e, by omega, a2, fun q b1 b2 => ?_, a4⟩
        by_cases hq : q = i
        · rw [hq]; exact h0
        · exact a3 q (by omega) b2
      · exact ⟨i + 1, by omega, by omega, fun q b1 b2 => by rw [show q = i by omega]; exact h0, Or.inr h1⟩
/-- the model's memory, with what ends ahead of e filled -/
def fiM (μ : Mem) (j n : Nat) (M : Int) (e : Nat) : Mem := bI (bI μ 77 (rwI (fiS (mF μ j) M e) (μ.1 77) j n)) 78 (rwI (fiV (mF μ j) (mV μ j) M e) (μ.1 78) j n)
theorem fiM_0 (μ : Mem) (j n : Nat) (M : Int) : fiM μ j n M 0 = μ := by
  unfold fiM
  rw [fiS, fiV]
  have e1 : rwI (mF μ j) (μ.1 77) j n = μ.1 77 := rwI_id _ _ _
  have e2 : rwI (mV μ j) (μ.1 78) j n = μ.1 78 := rwI_id _ _ _
  rw [e1, e2, bI_self, bI_self]
theorem fiM_77 {μ : Mem} {j n e i : Nat} {M : Int} (h : i < n) : (fiM μ j n M e).1 77 (64 * j + i) = fiS (mF μ j) M e i := by
  unfold fiM
  rw [bI_off (by omega), rb1e, rwI_at h]
theorem fiM_78 {μ : Mem} {j n e i : Nat} {M : Int} (h : i < n) : (fiM μ j n M e).1 78 (64 * j + i) = fiV (mF μ j) (mV μ j) M e i := by
  unfold fiM
  rw [rb1e, rwI_at h]
theorem fiM_76 {μ : Mem} {j n e : Nat} {M : Int} : (fiM μ j n M e).1 76 = μ.1 76 := by
  unfold fiM
  rw [bI_off (by omega), bI_off (by omega)]
abbrev lvFi (j : Nat) (m x y : Int32) (z6 z7 z8 z9 z10 z11 z12 : Option Value) : List (Option Value) := [some (.ref 73), some (.int (nI j)), some (.int m), some (.int (nI (64 * j))), some (.int x), some (.int y), z6, z7, z8, z9, z10, z11, z12]
/-- a SAMPLE that stands is gone past -/
theorem wa_fill1 {d j n e : Nat} {m x : Int32} {ν : Mem} {Q : QM} (hj : j < 8) (hn64 : n ≤ 64) (hn : ν.1 76 j = nI n) (he : e < n) (hs : ¬ (ν.1 77 (64 * j + e)).toInt = 0) (K : ∀ z6 z7 z8 z9 z10 z11 z12, WA kX6_fill d Q 50 (lvFi j m x (nI (e + 1)) z6 z7 z8 z9 z10 z11 z12) [] ν) (z6 z7 z8 z9 z10 z11 z12 : Option Value) : WA kX6_fill d Q 50 (lvFi j m x (nI e) z6 z7 z8 z9 z10 z11 z12) [] ν := by
  refine wa_iload dX6_fill_50 rfl ?_
  refine wa_aload_n dX6_fill_52 rfl ?_
  refine wa_getR dX6_fill_53 fgX6_17 (by first | assumption | rfl) (by rfl) ?_
  refine wa_iload_n dX6_fill_56 rfl ?_
  refine wa_iald _ dX6_fill_57 (by first | assumption | rfl) (by first | with_reducible rfl | with_reducible assumption | with_reducible exact ix_ma _ _ _ | with_reducible exact ix_maa _ _ _ _ | with_reducible exact ix_a _ _ | with_reducible exact ix_mama _ _ _ _ _) (by omega) ?_
  refine wa_ic_geF 244 dX6_fill_58 (by decide) (by rw [hn]; exact nle_nI (by omega) (by omega)) ?_
  refine wa_iload dX6_fill_61 rfl ?_
  refine wa_istore dX6_fill_63 (by decide) ?_
  refine wa_iload dX6_fill_65 rfl ?_
  refine wa_aload_n dX6_fill_67 rfl ?_
  refine wa_getR dX6_fill_68 fgX6_17 (by first | assumption | rfl) (by rfl) ?_
  refine wa_iload_n dX6_fill_71 rfl ?_
  refine wa_iald _ dX6_fill_72 (by first | assumption | rfl) (by first | with_reducible rfl | with_reducible assumption | with_reducible exact ix_ma _ _ _ | with_reducible exact ix_maa _ _ _ _ | with_reducible exact ix_a _ _ | with_reducible exact ix_mama _ _ _ _ _) (by omega) ?_
  refine wa_ic_geF 94 dX6_fill_73 (by decide) (by rw [hn]; exact nle_nI (by omega) (by omega)) ?_
  refine wa_aload_n dX6_fill_76 rfl ?_
  refine wa_getR dX6_fill_77 fgX6_20 (by first | assumption | rfl) (by rfl) ?_
  refine wa_iload_n dX6_fill_80 rfl ?_
  refine wa_iload dX6_fill_81 rfl ?_
  refine wa_iadd dX6_fill_83 ?_
  refine wa_iald _ dX6_fill_84 (by first | assumption | rfl) (by first | with_reducible rfl | with_reducible assumption | with_reducible exact ix_ma _ _ _ | with_reducible exact ix_maa _ _ _ _ | with_reducible exact ix_a _ _ | with_reducible exact ix_mama _ _ _ _ _) (by omega) ?_
  refine wa_if_neT 94 dX6_fill_85 (by decide) (hs) ?_
  refine wa_iload dX6_fill_94 rfl ?_
  refine wa_iload dX6_fill_96 rfl ?_
  refine wa_isub dX6_fill_98 ?_
  refine wa_istore dX6_fill_99 (by decide) ?_
  refine wa_iload dX6_fill_101 rfl ?_
  refine wa_if_leT 225 dX6_fill_103 (by decide) (by rw [pk_sub (Nat.le_refl e), nI_toInt (by omega)]; omega) ?_
  refine wa_iload dX6_fill_225 rfl ?_
  refine wa_if_leT 235 dX6_fill_227 (by decide) (by rw [pk_sub (Nat.le_refl e), nI_toInt (by omega)]; omega) ?_
  refine wa_iload dX6_fill_235 rfl ?_
  refine wa_iconst (nI 1) dX6_fill_237 (by decide) ?_
  refine wa_iadd dX6_fill_238 ?_
  refine wa_istore dX6_fill_239 (by decide) ?_
  refine wa_goto 50 dX6_fill_241 (by decide) ?_
  simp only [nI_add]; exact K _ _ _ _ _ _ _
/-- the end of a GAP is looked for -/
theorem wa_fill2 {d j n e0 : Nat} {m x y : Int32} {ν : Mem} {Q : QM} (hj : j < 8) (hn64 : n ≤ 64) (hn : ν.1 76 j = nI n) (he : e0 ≤ n) (hen : e0 = n ∨ ¬ (ν.1 77 (64 * j + e0)).toInt = 0) (z7 z8 z9 z10 z11 z12 : Option Value) (K : WA kX6_fill d Q 94 (lvFi j m x y (some (.int (nI e0))) z7 z8 z9 z10 z11 z12) [] ν) : ∀ m2 e, e + m2 = e0 → (∀ q, e ≤ q → q < e0 → (ν.1 77 (64 * j + q)).toInt = 0) → WA kX6_fill d Q 65 (lvFi j m x y (some (.int (nI e))) z7 z8 z9 z10 z11 z12) [] ν := by
  intro m2
  induction m2 with
  | zero =>
    intro e hh hz
    obtain rfl : e = e0 := by omega
    by_cases hq : e = n
    · refine wa_iload dX6_fill_65 rfl ?_
      refine wa_aload_n dX6_fill_67 rfl ?_
      refine wa_getR dX6_fill_68 fgX6_17 (by first | assumption | rfl) (by rfl) ?_
      refine wa_iload_n dX6_fill_71 rfl ?_
      refine wa_iald _ dX6_fill_72 (by first | assumption | rfl) (by first | with_reducible rfl | with_reducible assumption | with_reducible exact ix_ma _ _ _ | with_reducible exact ix_maa _ _ _ _ | with_reducible exact ix_a _ _ | with_reducible exact ix_mama _ _ _ _ _) (by omega) ?_
      refine wa_ic_geT 94 dX6_fill_73 (by decide) (by rw [hn]; exact le_nI (by omega) (by omega)) ?_
      exact K
    · refine wa_iload dX6_fill_65 rfl ?_
      refine wa_aload_n dX6_fill_67 rfl ?_
      refine wa_getR dX6_fill_68 fgX6_17 (by first | assumption | rfl) (by rfl) ?_
      refine wa_iload_n dX6_fill_71 rfl ?_
      refine wa_iald _ dX6_fill_72 (by first | assumption | rfl) (by first | with_reducible rfl | with_reducible assumption | with_reducible exact ix_ma _ _ _ | with_reducible exact ix_maa _ _ _ _ | with_reducible exact ix_a _ _ | with_reducible exact ix_mama _ _ _ _ _) (by omega) ?_
      refine wa_ic_geF 94 dX6_fill_73 (by decide) (by rw [hn]; exact nle_nI (by omega) (by omega)) ?_
      refine wa_aload_n dX6_fill_76 rfl ?_
      refine wa_getR dX6_fill_77 fgX6_20 (by first | assumption | rfl) (by rfl) ?_
      refine wa_iload_n dX6_fill_80 rfl ?_
      refine wa_iload dX6_fill_81 rfl ?_
      refine wa_iadd dX6_fill_83 ?_
      refine wa_iald _ dX6_fill_84 (by first | assumption | rfl) (by first | with_reducible rfl | with_reducible assumption | with_reducible exact ix_ma _ _ _ | with_reducible exact ix_maa _ _ _ _ | with_reducible exact ix_a _ _ | with_reducible exact ix_mama _ _ _ _ _) (by omega) ?_
      refine wa_if_neT 94 dX6_fill_85 (by decide) (hen.resolve_left hq) ?_
      exact K
  | succ m2 ih =>
    intro e hh hz
    have e_ := ih (e + 1) (by omega) (fun q h1 h2 => hz q (by omega) h2)
    refine wa_iload dX6_fill_65 rfl ?_
    refine wa_aload_n dX6_fill_67 rfl ?_
    refine wa_getR dX6_fill_68 fgX6_17 (by first | assumption | rfl) (by rfl) ?_
    refine wa_iload_n dX6_fill_71 rfl ?_
    refine wa_iald _ dX6_fill_72 (by first | assumption | rfl) (by first | with_reducible rfl | with_reducible assumption | with_reducible exact ix_ma _ _ _ | with_reducible exact ix_maa _ _ _ _ | with_reducible exact ix_a _ _ | with_reducible exact ix_mama _ _ _ _ _) (by omega) ?_
    refine wa_ic_geF 94 dX6_fill_73 (by decide) (by rw [hn]; exact nle_nI (by omega) (by omega)) ?_
    refine wa_aload_n dX6_fill_76 rfl ?_
    refine wa_getR dX6_fill_77 fgX6_20 (by first | assumption | rfl) (by rfl) ?_
    refine wa_iload_n dX6_fill_80 rfl ?_
    refine wa_iload dX6_fill_81 rfl ?_
    refine wa_iadd dX6_fill_83 ?_
    refine wa_iald _ dX6_fill_84 (by first | assumption | rfl) (by first | with_reducible rfl | with_reducible assumption | with_reducible exact ix_ma _ _ _ | with_reducible exact ix_maa _ _ _ _ | with_reducible exact ix_a _ _ | with_reducible exact ix_mama _ _ _ _ _) (by omega) ?_
    refine wa_if_neF 94 dX6_fill_85 (by decide) (fun q => q (hz e (by omega) (by omega))) ?_
    refine wa_iinc (nI 1) dX6_fill_88 rfl (by decide) (by decide) ?_
    refine wa_goto 65 dX6_fill_91 (by decide) ?_
    simp only [nI_add]; exact e_
/-- a GAP is filled -/
theorem wa_fill3 {d j n i e : Nat} {m x : Int32} {S V o1 o2 : Nat → Int32} {μ : Mem} {Q : QM} (hj : j < 8) (hn64 : n ≤ 64) (hi : 0 < i) (hie : i < e) (hen : e < n) (K : ∀ z8 z9 z10 z11 z12, WA kX6_fill d Q 218 (lvFi j m x (nI i) (some (.int (nI e))) (some (.int (nI (e - i)))) z8 z9 z10 z11 z12) [] (bI (bI μ 77 (rwI (fbS S (i - 1) e) o1 j n)) 78 (rwI (fbV V (i - 1) e e) o2 j n))) : ∀ m2 jj, jj + m2 = e - i + 1 → 1 ≤ jj → WA kX6_fill d Q 157 (lvFi j m x (nI i) (some (.int (nI e))) (some (.int (nI (e - i)))) (some (.long (V (i - 1)).toInt64)) none (some (.long (V e).toInt64)) none (some (.int (nI jj)))) [] (bI (bI μ 77 (rwI (fbS S (i - 1) (i - 1 + jj)) o1 j n)) 78 (rwI (fbV V (i - 1) e (i - 1 + jj)) o2 j n)) := by
  intro m2
  induction m2 with
  | zero =>
    intro jj hh h1
    have e_ : i - 1 + jj = e := by omega
    rw [e_]
    refine wa_iload dX6_fill_157 rfl ?_
    refine wa_iload dX6_fill_159 rfl ?_
    refine wa_ic_gtT 218 dX6_fill_161 (by decide) (by rw [nI_toInt (by omega), nI_toInt (by omega)]; omega) ?_
    exact K _ _ _ _ _
  | succ m2 ih =>
    intro jj hh h1
    have e_ := ih (jj + 1) (by omega) (by omega)
    have a1 := fbV_s (v := V) (a := i - 1) (e := e) h1
    unfold flV at a1
    rw [show e - (i - 1) = e - i + 1 by omega] at a1
    refine wa_iload dX6_fill_157 rfl ?_
    refine wa_iload dX6_fill_159 rfl ?_
    refine wa_ic_gtF 218 dX6_fill_161 (by decide) (by rw [nI_toInt (by omega), nI_toInt (by omega)]; omega) ?_
    refine wa_aload_n dX6_fill_164 rfl ?_
    refine wa_getR dX6_fill_165 fgX6_20 (by first | assumption | rfl) (by rfl) ?_
    refine wa_iload_n dX6_fill_168 rfl ?_
    refine wa_iload dX6_fill_169 rfl ?_
    refine wa_iadd dX6_fill_171 ?_
    refine wa_iload dX6_fill_172 rfl ?_
    refine wa_iadd dX6_fill_174 ?_
    refine wa_iconst (nI 1) dX6_fill_175 (by decide) ?_
    refine wa_isub dX6_fill_176 ?_
    refine wa_iconst (nI 2) dX6_fill_177 (by decide) ?_
    refine wa_iast (64 * j + (i - 1 + jj)) dX6_fill_178 (by first | assumption | rfl) (by rw [nI_add, nI_add, pk_sub (by omega)]; congr 1; omega) (by omega) ?_
    refine wa_aload_n dX6_fill_179 rfl ?_
    refine wa_getR dX6_fill_180 fgX6_23 (by first | assumption | rfl) (by rfl) ?_
    refine wa_iload_n dX6_fill_183 rfl ?_
    refine wa_iload dX6_fill_184 rfl ?_
    refine wa_iadd dX6_fill_186 ?_
    refine wa_iload dX6_fill_187 rfl ?_
    refine wa_iadd dX6_fill_189 ?_
    refine wa_iconst (nI 1) dX6_fill_190 (by decide) ?_
    refine wa_isub dX6_fill_191 ?_
    refine wa_lload dX6_fill_192 rfl ?_
    refine wa_lload dX6_fill_194 rfl ?_
    refine wa_lload dX6_fill_196 rfl ?_
    refine wa_lsub dX6_fill_198 ?_
    refine wa_iload dX6_fill_199 rfl ?_
    refine wa_i2l dX6_fill_201 ?_
    refine wa_lmul dX6_fill_202 ?_
    refine wa_iload dX6_fill_203 rfl ?_
    refine wa_iconst (nI 1) dX6_fill_205 (by decide) ?_
    refine wa_iadd dX6_fill_206 ?_
    refine wa_i2l dX6_fill_207 ?_
    refine wa_ldiv dX6_fill_208 (by rw [nI_add]; exact nIl_ne (by omega) (by omega)) ?_
    refine wa_ladd dX6_fill_209 ?_
    refine wa_l2i dX6_fill_210 ?_
    refine wa_iast (64 * j + (i - 1 + jj)) dX6_fill_211 (by first | assumption | rfl) (by rw [nI_add, nI_add, pk_sub (by omega)]; congr 1; omega) (by omega) ?_
    refine wa_iinc (nI 1) dX6_fill_212 rfl (by decide) (by decide) ?_
    refine wa_goto 157 dX6_fill_215 (by decide) ?_
    rw [sIb2 _ _ _ _ _ (by omega), sIb, rwI_u (by omega), rwI_u (by omega), fbS_s h1]
    simp only [nI_add]
    rw [a1]
    exact e_
set_option maxHeartbeats 4000000 in
theorem wa_fill {d j n : Nat} {m : Int32} {μ : Mem} {Q : QM} (hj : j < 8) (hm : 0 ≤ m.toInt) (hn : μ.1 76 j = nI n) (hn64 : n ≤ 64) (hQ : Q (some (.int (nI (fiC (mF μ j) m.toInt n)))) (fiM μ j n m.toInt n)) : WA kX6_fill d Q 39 [some (.ref 73), some (.int (nI j)), some (.int m), none, none, none, none, none, none, none, none, none, none] [] μ := by
  have hn2 : ∀ e, (fiM μ j n m.toInt e).1 76 j = nI n := fun e => by rw [fiM_76, hn]
  have fin : ∀ z6 z7 z8 z9 z10 z11 z12, WA kX6_fill d Q 50 (lvFi j m (nI (fiC (mF μ j) m.toInt n)) (nI n) z6 z7 z8 z9 z10 z11 z12) [] (fiM μ j n m.toInt n) := by
    intro z6 z7 z8 z9 z10 z11 z12
    refine wa_iload dX6_fill_50 rfl ?_
    refine wa_aload_n dX6_fill_52 rfl ?_
    refine wa_getR dX6_fill_53 fgX6_17 (by first | assumption | rfl) (by rfl) ?_
    refine wa_iload_n dX6_fill_56 rfl ?_
    refine wa_iald _ dX6_fill_57 (by first | assumption | rfl) (by first | with_reducible rfl | with_reducible assumption | with_reducible exact ix_ma _ _ _ | with_reducible exact ix_maa _ _ _ _ | with_reducible exact ix_a _ _ | with_reducible exact ix_mama _ _ _ _ _) (by omega) ?_
    refine wa_ic_geT 244 dX6_fill_58 (by decide) (by rw [hn2]; exact le_nI (by omega) (by omega)) ?_
    refine wa_iload dX6_fill_244 rfl ?_
    refine wa_iret dX6_fill_246 rfl ?_
    exact hQ
  have loop : ∀ fuel i, n ≤ i + fuel → i ≤ n → prvN (mF μ j) i = i → ∀ z6 z7 z8 z9 z10 z11 z12, WA kX6_fill d Q 50 (lvFi j m (nI (fiC (mF μ j) m.toInt i)) (nI i) z6 z7 z8 z9 z10 z11 z12) [] (fiM μ j n m.toInt i) := by
    intro fuel
    induction fuel with
    | zero =>
      intro i h1 h2 hp z6 z7 z8 z9 z10 z11 z12
      obtain rfl : i = n := by omega
      exact fin z6 z7 z8 z9 z10 z11 z12
    | succ fuel ih =>
      intro i h1 h2 hp z6 z7 z8 z9 z10 z11 z12
      by_cases hin : i = n
      · subst hin
        exact fin z6 z7 z8 z9 z10 z11 z12
      · by_cases h0 : (mF μ j i).toInt = 0
        · obtain ⟨e, b1, b2, b3, b4⟩ := nxt_ex (s := mF μ j) (n := n) (n - i) i (by omega) h0 (by omega)
          obtain ⟨w, rfl⟩ : ∃ w, e = i + w := ⟨e - i, by omega⟩
          have hpe := prvN_z (s := mF μ j) (i := i) w b3
          obtain ⟨f1, f2, f3⟩ := fi_z (s := mF μ j) (v := mV μ j) (M := m.toInt) (i := i) w b3
          have hc := fiC_le (mF μ j) m.toInt i
          have hM : fiM μ j n m.toInt i = fiM μ j n m.toInt (i + w) := by
            unfold fiM
            rw [f1, f2]
          rw [hM, ← f3]
          have scan := fun K => wa_fill2 (d := d) (Q := Q) (e0 := i + w) (m := m) (x := nI (fiC (mF μ j) m.toInt (i + w))) (y := nI i) hj hn64 (hn2 (i + w)) b2 (by
            by_cases hq : i + w = n
            · exact Or.inl hq
            · refine Or.inr ?_
              rw [fiM_77 (by omega), fiS_ge _ _ _ _ (Nat.le_refl _)]
              exact b4.resolve_left hq) z7 z8 z9 z10 z11 z12 K w i rfl (fun q q1 q2 => by
            rw [fiM_77 (by omega), f1, fiS_ge _ _ _ _ q1]
            exact b3 q q1 q2)
          have go : ∀ (x : Int32) (ν : Mem), ν.1 76 j = nI n → (∀ z6 z7 z8 z9 z10 z11 z12, WA kX6_fill d Q 50 (lvFi j m x (nI (i + w)) z6 z7 z8 z9 z10 z11 z12) [] ν) → ∀ z8 z9 z10 z11 z12, WA kX6_fill d Q 225 (lvFi j m x (nI i) (some (.int (nI (i + w)))) (some (.int (nI w))) z8 z9 z10 z11 z12) [] ν := by
            intro x ν _ K z8 z9 z10 z11 z12
            refine wa_iload dX6_fill_225 rfl ?_
            refine wa_if_leF 235 dX6_fill_227 (by decide) (by rw [nI_toInt (by omega)]; omega) ?_
            refine wa_iload dX6_fill_230 rfl ?_
            refine wa_goto 239 dX6_fill_232 (by decide) ?_
            refine wa_istore dX6_fill_239 (by decide) ?_
            refine wa_goto 50 dX6_fill_241 (by decide) ?_
            exact K _ _ _ _ _ _ _
          have eg : nI (i + w) - nI i = nI w := by
            rw [pk_sub (by omega), show i + w - i = w by omega]
          by_cases hq : i + w = n
          · have fin2 : ∀ z6 z7 z8 z9 z10 z11 z12, WA kX6_fill d Q 50 (lvFi j m (nI (fiC (mF μ j) m.toInt (i + w))) (nI (i + w)) z6 z7 z8 z9 z10 z11 z12) [] (fiM μ j n m.toInt (i + w)) := by
              rw [hq]
              exact fin
            have go2 := go _ _ (hn2 (i + w)) fin2
            refine wa_iload dX6_fill_50 rfl ?_
            refine wa_aload_n dX6_fill_52 rfl ?_
            refine wa_getR dX6_fill_53 fgX6_17 (by first | assumption | rfl) (by rfl) ?_
            refine wa_iload_n dX6_fill_56 rfl ?_
            refine wa_iald _ dX6_fill_57 (by first | assumption | rfl) (by first | with_reducible rfl | with_reducible assumption | with_reducible exact ix_ma _ _ _ | with_reducible exact ix_maa _ _ _ _ | with_reducible exact ix_a _ _ | with_reducible exact ix_mama _ _ _ _ _) (by omega) ?_
            refine wa_ic_geF 244 dX6_fill_58 (by decide) (by rw [hn2]; exact nle_nI (by omega) (by omega)) ?_
            refine wa_iload dX6_fill_61 rfl ?_
            refine wa_istore dX6_fill_63 (by decide) ?_
            refine scan ?_
            refine wa_iload dX6_fill_94 rfl ?_
            refine wa_iload dX6_fill_96 rfl ?_
            refine wa_isub dX6_fill_98 ?_
            rw [eg]
            refine wa_istore dX6_fill_99 (by decide) ?_
            refine wa_iload dX6_fill_101 rfl ?_
            refine wa_if_leF 225 dX6_fill_103 (by decide) (by rw [nI_toInt (by omega)]; omega) ?_
            refine wa_iload dX6_fill_106 rfl ?_
            refine wa_iload_n dX6_fill_108 rfl ?_
            refine wa_ic_gt 225 dX6_fill_109 (by decide) (fun c109_1 => ?_) (fun c109_1 => ?_)
            · try simp (disch := omega) only [nI_toInt, Int32.toInt_toInt64, eg, hn2] at c109_1
              exact go2 _ _ _ _ _
            · try simp (disch := omega) only [nI_toInt, Int32.toInt_toInt64, eg, hn2] at c109_1
              refine wa_iload dX6_fill_112 rfl ?_
              refine wa_if_le 225 dX6_fill_114 (by decide) (fun c114_2 => ?_) (fun c114_2 => ?_)
              · try simp (disch := omega) only [nI_toInt, Int32.toInt_toInt64, eg, hn2] at c114_2
                exact go2 _ _ _ _ _
              · try simp (disch := omega) only [nI_toInt, Int32.toInt_toInt64, eg, hn2] at c114_2
                refine wa_iload dX6_fill_117 rfl ?_
                refine wa_aload_n dX6_fill_119 rfl ?_
                refine wa_getR dX6_fill_120 fgX6_17 (by first | assumption | rfl) (by rfl) ?_
                refine wa_iload_n dX6_fill_123 rfl ?_
                refine wa_iald _ dX6_fill_124 (by first | assumption | rfl) (by first | with_reducible rfl | with_reducible assumption | with_reducible exact ix_ma _ _ _ | with_reducible exact ix_maa _ _ _ _ | with_reducible exact ix_a _ _ | with_reducible exact ix_mama _ _ _ _ _) (by omega) ?_
                refine wa_ic_geT 225 dX6_fill_125 (by decide) (by rw [hn2]; exact le_nI (by omega) (by omega)) ?_
                exact go2 _ _ _ _ _
          · have hse : ¬ (mF μ j (i + w)).toInt = 0 := b4.resolve_left hq
            have hpn : prvN (mF μ j) (i + w + 1) = i + w + 1 := by rw [prvN, if_neg hse]
            have nxt := ih (i + w + 1) (by omega) (by omega) hpn
            by_cases hok : fOkB (mF μ j) m.toInt (i + w) = true
            · have hok2 := of_decide_eq_true hok
              have g1 : fiS (mF μ j) m.toInt (i + w + 1) = fbS (fiS (mF μ j) m.toInt (i + w)) (i - 1) (i + w) := by
                rw [fiS, if_pos hok, hpe, hp]
              have g2 : fiV (mF μ j) (mV μ j) m.toInt (i + w + 1) = fbV (fiV (mF μ j) (mV μ j) m.toInt (i + w)) (i - 1) (i + w) (i + w) := by
                rw [fiV, if_pos hok, hpe, hp]
              have g3 : fiC (mF μ j) m.toInt (i + w + 1) = fiC (mF μ j) m.toInt (i + w) + w := by
                rw [fiC, if_pos hok, hpe, hp]
                omega
              have hst : ¬ ((fiM μ j n m.toInt (i + w + 1)).1 77 (64 * j + (i + w))).toInt = 0 := by
                rw [fiM_77 (by omega), g1, fbS, if_neg (by omega), fiS_ge _ _ _ _ (Nat.le_refl _)]
                exact hse
              have one := wa_fill1 hj hn64 (hn2 (i + w + 1)) (show i + w < n by omega) hst nxt
              have go2 := go _ _ (hn2 (i + w + 1)) one
              have hM2 : fiM μ j n m.toInt (i + w + 1) = bI (bI μ 77 (rwI (fbS (fiS (mF μ j) m.toInt (i + w)) (i - 1) (i + w)) (μ.1 77) j n)) 78 (rwI (fbV (fiV (mF μ j) (mV μ j) m.toInt (i + w)) (i - 1) (i + w) (i + w)) (μ.1 78) j n) := by
                unfold fiM
                rw [g1, g2]
              have fl := wa_fill3 (d := d) (Q := Q) (i := i) (e := i + w) (m := m) (x := nI (fiC (mF μ j) m.toInt (i + w))) (S := fiS (mF μ j) m.toInt (i + w)) (V := fiV (mF μ j) (mV μ j) m.toInt (i + w)) (o1 := μ.1 77) (o2 := μ.1 78) (μ := μ) hj hn64 (by omega) (by omega) (by omega) (by
                intro z8 z9 z10 z11 z12
                rw [← hM2, show i + w - i = w by omega]
                rw [g3] at go2
                refine wa_iload dX6_fill_218 rfl ?_
                refine wa_iload dX6_fill_220 rfl ?_
                refine wa_iadd dX6_fill_222 ?_
                refine wa_istore dX6_fill_223 (by decide) ?_
                simp only [nI_add]; exact go2 _ _ _ _ _) (i + w - i) 1 (by omega) (by omega)
              rw [show i - 1 + 1 = i by omega, show i + w - i = w by omega] at fl
              have fb0 : fbS (fiS (mF μ j) m.toInt (i + w)) (i - 1) i = fiS (mF μ j) m.toInt (i + w) := by
                have := fbS_0 (fiS (mF μ j) m.toInt (i + w)) (i - 1)
                rw [show i - 1 + 1 = i by omega] at this
                exact this
              have fb1 : fbV (fiV (mF μ j) (mV μ j) m.toInt (i + w)) (i - 1) (i + w) i = fiV (mF μ j) (mV μ j) m.toInt (i + w) := by
                have := fbV_0 (fiV (mF μ j) (mV μ j) m.toInt (i + w)) (i - 1) (i + w)
                rw [show i - 1 + 1 = i by omega] at this
                exact this
              rw [fb0, fb1] at fl
              refine wa_iload dX6_fill_50 rfl ?_
              refine wa_aload_n dX6_fill_52 rfl ?_
              refine wa_getR dX6_fill_53 fgX6_17 (by first | assumption | rfl) (by rfl) ?_
              refine wa_iload_n dX6_fill_56 rfl ?_
              refine wa_iald _ dX6_fill_57 (by first | assumption | rfl) (by first | with_reducible rfl | with_reducible assumption | with_reducible exact ix_ma _ _ _ | with_reducible exact ix_maa _ _ _ _ | with_reducible exact ix_a _ _ | with_reducible exact ix_mama _ _ _ _ _) (by omega) ?_
              refine wa_ic_geF 244 dX6_fill_58 (by decide) (by rw [hn2]; exact nle_nI (by omega) (by omega)) ?_
              refine wa_iload dX6_fill_61 rfl ?_
              refine wa_istore dX6_fill_63 (by decide) ?_
              refine scan ?_
              refine wa_iload dX6_fill_94 rfl ?_
              refine wa_iload dX6_fill_96 rfl ?_
              refine wa_isub dX6_fill_98 ?_
              rw [eg]
              refine wa_istore dX6_fill_99 (by decide) ?_
              refine wa_iload dX6_fill_101 rfl ?_
              refine wa_if_leF 225 dX6_fill_103 (by decide) (by rw [nI_toInt (by omega)]; omega) ?_
              refine wa_iload dX6_fill_106 rfl ?_
              refine wa_iload_n dX6_fill_108 rfl ?_
              refine wa_ic_gtF 225 dX6_fill_109 (by decide) (by rw [nI_toInt (by omega)]; omega) ?_
              refine wa_iload dX6_fill_112 rfl ?_
              refine wa_if_leF 225 dX6_fill_114 (by decide) (by rw [nI_toInt (by omega)]; omega) ?_
              refine wa_iload dX6_fill_117 rfl ?_
              refine wa_aload_n dX6_fill_119 rfl ?_
              refine wa_getR dX6_fill_120 fgX6_17 (by first | assumption | rfl) (by rfl) ?_
              refine wa_iload_n dX6_fill_123 rfl ?_
              refine wa_iald _ dX6_fill_124 (by first | assumption | rfl) (by first | with_reducible rfl | with_reducible assumption | with_reducible exact ix_ma _ _ _ | with_reducible exact ix_maa _ _ _ _ | with_reducible exact ix_a _ _ | with_reducible exact ix_mama _ _ _ _ _) (by omega) ?_
              refine wa_ic_geF 225 dX6_fill_125 (by decide) (by rw [hn2]; exact nle_nI (by omega) (by omega)) ?_
              refine wa_aload_n dX6_fill_128 rfl ?_
              refine wa_getR dX6_fill_129 fgX6_23 (by first | assumption | rfl) (by rfl) ?_
              refine wa_iload_n dX6_fill_132 rfl ?_
              refine wa_iload dX6_fill_133 rfl ?_
              refine wa_iadd dX6_fill_135 ?_
              refine wa_iconst (nI 1) dX6_fill_136 (by decide) ?_
              refine wa_isub dX6_fill_137 ?_
              refine wa_iald (64 * j + (i - 1)) dX6_fill_138 (by first | assumption | rfl) (by rw [nI_add, pk_sub (by omega)]; congr 1; omega) (by omega) ?_
              rw [fiM_78 (by omega)]
              refine wa_i2l dX6_fill_139 ?_
              refine wa_lstore dX6_fill_140 (by decide) ?_
              refine wa_aload_n dX6_fill_142 rfl ?_
              refine wa_getR dX6_fill_143 fgX6_23 (by first | assumption | rfl) (by rfl) ?_
              refine wa_iload_n dX6_fill_146 rfl ?_
              refine wa_iload dX6_fill_147 rfl ?_
              refine wa_iadd dX6_fill_149 ?_
              refine wa_iald _ dX6_fill_150 (by first | assumption | rfl) (by first | with_reducible rfl | with_reducible assumption | with_reducible exact ix_ma _ _ _ | with_reducible exact ix_maa _ _ _ _ | with_reducible exact ix_a _ _ | with_reducible exact ix_mama _ _ _ _ _) (by omega) ?_
              rw [fiM_78 (by omega)]
              refine wa_i2l dX6_fill_151 ?_
              refine wa_lstore dX6_fill_152 (by decide) ?_
              refine wa_iconst (nI 1) dX6_fill_154 (by decide) ?_
              refine wa_istore dX6_fill_155 (by decide) ?_
              exact fl
            · have g1 : fiS (mF μ j) m.toInt (i + w + 1) = fiS (mF μ j) m.toInt (i + w) := by
                rw [fiS, if_neg hok]
              have g2 : fiV (mF μ j) (mV μ j) m.toInt (i + w + 1) = fiV (mF μ j) (mV μ j) m.toInt (i + w) := by
                rw [fiV, if_neg hok]
              have g3 : fiC (mF μ j) m.toInt (i + w + 1) = fiC (mF μ j) m.toInt (i + w) := by
                rw [fiC, if_neg hok]
              have hM2 : fiM μ j n m.toInt (i + w + 1) = fiM μ j n m.toInt (i + w) := by
                unfold fiM
                rw [g1, g2]
              rw [hM2, g3] at nxt
              have hst : ¬ ((fiM μ j n m.toInt (i + w)).1 77 (64 * j + (i + w))).toInt = 0 := by
                rw [fiM_77 (by omega), fiS_ge _ _ _ _ (Nat.le_refl _)]
                exact hse
              have one := wa_fill1 hj hn64 (hn2 (i + w)) (show i + w < n by omega) hst nxt
              have go2 := go _ _ (hn2 (i + w)) one
              have hk : i = 0 ∨ m.toInt < w := by
                by_cases hi0 : i = 0
                · exact Or.inl hi0
                · refine Or.inr ?_
                  by_cases h3 : m.toInt < w
                  · exact h3
                  · exact absurd (decide_eq_true ⟨hse, by omega, by omega⟩) hok
              refine wa_iload dX6_fill_50 rfl ?_
              refine wa_aload_n dX6_fill_52 rfl ?_
              refine wa_getR dX6_fill_53 fgX6_17 (by first | assumption | rfl) (by rfl) ?_
              refine wa_iload_n dX6_fill_56 rfl ?_
              refine wa_iald _ dX6_fill_57 (by first | assumption | rfl) (by first | with_reducible rfl | with_reducible assumption | with_reducible exact ix_ma _ _ _ | with_reducible exact ix_maa _ _ _ _ | with_reducible exact ix_a _ _ | with_reducible exact ix_mama _ _ _ _ _) (by omega) ?_
              refine wa_ic_geF 244 dX6_fill_58 (by decide) (by rw [hn2]; exact nle_nI (by omega) (by omega)) ?_
              refine wa_iload dX6_fill_61 rfl ?_
              refine wa_istore dX6_fill_63 (by decide) ?_
              refine scan ?_
              refine wa_iload dX6_fill_94 rfl ?_
              refine wa_iload dX6_fill_96 rfl ?_
              refine wa_isub dX6_fill_98 ?_
              rw [eg]
              refine wa_istore dX6_fill_99 (by decide) ?_
              refine wa_iload dX6_fill_101 rfl ?_
              refine wa_if_leF 225 dX6_fill_103 (by decide) (by rw [nI_toInt (by omega)]; omega) ?_
              refine wa_iload dX6_fill_106 rfl ?_
              refine wa_iload_n dX6_fill_108 rfl ?_
              refine wa_ic_gt 225 dX6_fill_109 (by decide) (fun c109_1 => ?_) (fun c109_1 => ?_)
              · try simp (disch := omega) only [nI_toInt, Int32.toInt_toInt64, not_true_eq_false] at c109_1
                try (exfalso; omega)
                all_goals
                  skip
                  exact go2 _ _ _ _ _
              · try simp (disch := omega) only [nI_toInt, Int32.toInt_toInt64, not_true_eq_false] at c109_1
                try (exfalso; omega)
                all_goals
                  skip
                  refine wa_iload dX6_fill_112 rfl ?_
                  refine wa_if_le 225 dX6_fill_114 (by decide) (fun c114_2 => ?_) (fun c114_2 => ?_)
                  · try simp (disch := omega) only [nI_toInt, Int32.toInt_toInt64, not_true_eq_false] at c114_2
                    try (exfalso; omega)
                    all_goals
                      skip
                      exact go2 _ _ _ _ _
                  · try simp (disch := omega) only [nI_toInt, Int32.toInt_toInt64, not_true_eq_false] at c114_2
                    try (exfalso; omega)
                    all_goals
                      skip
                      refine wa_iload dX6_fill_117 rfl ?_
                      refine wa_aload_n dX6_fill_119 rfl ?_
                      refine wa_getR dX6_fill_120 fgX6_17 (by first | assumption | rfl) (by rfl) ?_
                      refine wa_iload_n dX6_fill_123 rfl ?_
                      refine wa_iald _ dX6_fill_124 (by first | assumption | rfl) (by first | with_reducible rfl | with_reducible assumption | with_reducible exact ix_ma _ _ _ | with_reducible exact ix_maa _ _ _ _ | with_reducible exact ix_a _ _ | with_reducible exact ix_mama _ _ _ _ _) (by omega) ?_
                      refine wa_ic_ge 225 dX6_fill_125 (by decide) (fun c125_3 => ?_) (fun c125_3 => ?_)
                      · try simp (disch := omega) only [nI_toInt, Int32.toInt_toInt64, not_true_eq_false] at c125_3
                        try (exfalso; omega)
                        all_goals
                          skip
                          exact go2 _ _ _ _ _
                      · try simp (disch := omega) only [nI_toInt, Int32.toInt_toInt64, not_true_eq_false] at c125_3
                        try (exfalso; omega)
                        all_goals
                          skip
                          skip
        · obtain ⟨f1, f2, f3⟩ := fi_o (s := mF μ j) (v := mV μ j) (M := m.toInt) (i := i) hp
          have hpn : prvN (mF μ j) (i + 1) = i + 1 := by rw [prvN, if_neg h0]
          have nxt := ih (i + 1) (by omega) (by omega) hpn
          have hM2 : fiM μ j n m.toInt (i + 1) = fiM μ j n m.toInt i := by
            unfold fiM
            rw [f1, f2]
          rw [hM2, f3] at nxt
          have hst : ¬ ((fiM μ j n m.toInt i).1 77 (64 * j + i)).toInt = 0 := by
            rw [fiM_77 (by omega), fiS_ge _ _ _ _ (Nat.le_refl _)]
            exact h0
          exact wa_fill1 hj hn64 (hn2 i) (by omega) hst nxt z6 z7 z8 z9 z10 z11 z12
  have e0 := loop n 0 (by omega) (by omega) rfl
  rw [fiM_0, fiC] at e0
  refine wa_bipush (nI 64) dX6_fill_39 (by decide) ?_
  refine wa_iload_n dX6_fill_41 rfl ?_
  refine wa_imul dX6_fill_42 ?_
  refine wa_istore_n dX6_fill_43 (by decide) ?_
  refine wa_iconst (nI 0) dX6_fill_44 (by decide) ?_
  refine wa_istore dX6_fill_45 (by decide) ?_
  refine wa_iconst (nI 0) dX6_fill_47 (by decide) ?_
  refine wa_istore dX6_fill_48 (by decide) ?_
  rw [pk_mul]; exact e0 _ _ _ _ _ _ _
/-! both sides fill alike -/
theorem fiS_nz {s : Nat → Int32} {M : Int} {b : Nat} (h : ¬ (s b).toInt = 0) : ∀ e, ¬ (fiS s M e b).toInt = 0
  | 0 => h
  | e + 1 => by
    have ih := fiS_nz (M := M) h e
    rw [fiS]
    split
    · rw [fbS]
      split
      · decide
      · exact ih
    · exact ih
theorem fiS_st {s : Nat → Int32} {M : Int} {b : Nat} (h : st3 (s b)) : ∀ e, st3 (fiS s M e b)
  | 0 => h
  | e + 1 => by
    have ih := fiS_st (M := M) h e
    rw [fiS]
    split
    · rw [fbS]
      split
      · exact Or.inr (Or.inr rfl)
      · exact ih
    · exact ih
theorem prvN_c {s s2 : Nat → Int32} {n : Nat} (hs : ∀ i, i < n → s i = s2 i) : ∀ e, e ≤ n → prvN s e = prvN s2 e
  | 0, _ => rfl
  | e + 1, h => by rw [prvN, prvN, prvN_c hs e (by omega), hs e (by omega)]
theorem fi_c {s s2 v v2 : Nat → Int32} {M : Int} {n : Nat} (hs : ∀ i, i < n → s i = s2 i) (hv : ∀ i, i < n → ¬ (s2 i).toInt = 0 → v i = v2 i) : ∀ e, e ≤ n → fiC s M e = fiC s2 M e ∧ ∀ b, b < n → fiS s M e b = fiS s2 M e b ∧ (¬ (fiS s2 M e b).toInt = 0 → fiV s v M e b = fiV s2 v2 M e b)
  | 0, _ => ⟨rfl, fun b hb => ⟨hs b hb, hv b hb⟩⟩
  | e + 1, h => by
    obtain ⟨h1, h2⟩ := fi_c (M := M) hs hv e (by omega)
    have hp := prvN_c hs e (by omega)
    have hpl := prvN_le s2 e
    have hf : fOkB s M e = fOkB s2 M e := by
      unfold fOkB
      rw [hs e (by omega), hp]
    rw [fiC, fiC, fiS, fiS, fiV, fiV, hf, hp, h1]
    by_cases hok : fOkB s2 M e = true
    · have hok2 := of_decide_eq_true hok
      have hat := prvN_at s2 e hok2.2.1
      simp only [if_pos hok, true_and]
      intro b hb
      by_cases hbb : prvN s2 e - 1 < b ∧ b < e
      · rw [fbS, fbS, fbV, fbV, if_pos hbb, if_pos hbb, if_pos hbb, if_pos hbb]
        refine ⟨rfl, fun _ => ?_⟩
        rw [(h2 (prvN s2 e - 1) (by omega)).2 (fiS_nz hat e), (h2 e (by omega)).2 (fiS_nz hok2.1 e)]
      · rw [fbS, fbS, fbV, fbV, if_neg hbb, if_neg hbb, if_neg hbb, if_neg hbb]
        exact h2 b hb
    · simp only [if_neg hok, true_and]
      exact h2
theorem k64_L : (64 : Int64).toInt = 64 := by decide
set_option maxHeartbeats 4000000 in
theorem pr_fill (k m : Int32) : PR kX5_fill kX6_fill [.int k, .int m] := by
  intro N μ d c hd hc hN hrel
  have e64_ : (nI 64).toInt = 64 := nI64
  refine MW_of (by decide) [some (.ref 0), some (.int k), some (.int m)] rfl (Nat.le_of_ble_eq_true rfl) ?_
  refine wa_iload_n dX5_fill_0 rfl ?_
  refine wa_callS1 (k' := kX5_isSheet) (d' := 0) dX5_fill_1 lmX5_44 ksX5_isSheet (by decide) (by omega) (Nat.le_of_ble_eq_true rfl) ?_
  refine wp_X5_isSheet (fun j_ hj_ hk_ => ?_) (fun hoob => ?_)
  · skip
    subst hk_; obtain ⟨n_, s1_, s2_, s3_, s4_, s5_, s6_, s7_, s8_, s9_, s10_⟩ := hrel.1 j_ (by omega); have s5_ := s5_ (by omega); have hS_ := isS_k (show j_ < 9 by omega); have hsh_ := (isS_sh hS_).1
    refine wa_if_eqF 17 dX5_fill_4 (by decide) (by decide) ?_
    refine wa_iload_n dX5_fill_7 rfl ?_
    refine wa_if_lt 17 dX5_fill_8 (by decide) (fun c8_2 => ?_) (fun c8_2 => ?_)
    · try simp (disch := omega) only [nI_toInt, Int32.toInt_toInt64, e64_] at c8_2
      refine wa_bipush (-2) dX5_fill_17 (by decide) ?_
      refine wa_iret dX5_fill_19 rfl ?_
      skip
      refine MW_of (by decide) [some (.ref 73), some (.int _), some (.int m), none, none, none, none, none, none, none, none, none, none] rfl (Nat.le_of_ble_eq_true rfl) ?_
      refine wa_iload_n dX6_fill_0 rfl ?_
      refine wa_i2l dX6_fill_1 ?_
      refine wa_lconst (0) dX6_fill_2 (by decide) ?_
      refine wa_ldc2 (7) dX6_fill_3 lcX6_58 ?_
      refine wa_callS3 (k' := kX6_in) (d' := 0) dX6_fill_6 lmX6_60 ksX6_in (by decide) (by omega) (Nat.le_of_ble_eq_true rfl) ?_
      first | refine in8_1 hj_ ?_ | refine in8_0 hoob ?_
      refine wa_if_eq 24 dX6_fill_9 (by decide) (fun c9_2 => ?_) (fun c9_2 => ?_)
      · try simp (disch := omega) only [nI_toInt, Int32.toInt_toInt64, not_true_eq_false] at c9_2
        try (exfalso; omega)
        all_goals
          skip
          refine wa_bipush (-2) dX6_fill_24 (by decide) ?_
          refine wa_iret dX6_fill_26 rfl ?_
          exact ⟨rfl, hrel.up⟩
      · try simp (disch := omega) only [nI_toInt, Int32.toInt_toInt64, not_true_eq_false] at c9_2
        try (exfalso; omega)
        all_goals
          skip
          refine wa_iload_n dX6_fill_12 rfl ?_
          refine wa_i2l dX6_fill_13 ?_
          refine wa_lconst (0) dX6_fill_14 (by decide) ?_
          refine wa_ldc2 (64) dX6_fill_15 lcX6_88 ?_
          refine wa_callS3 (k' := kX6_in) (d' := 0) dX6_fill_18 lmX6_60 ksX6_in (by decide) (by omega) (Nat.le_of_ble_eq_true rfl) ?_
          refine wp_X6_in (fun hy_ => ?_) (fun hy_ => ?_)
          · skip
            rw [Int32.toInt_toInt64, z64, k64_L] at hy_
            try (exfalso; omega)
            all_goals
              skip
              refine wa_if_neT 27 dX6_fill_21 (by decide) (by decide) ?_
              skip
          · skip
            rw [Int32.toInt_toInt64, z64, k64_L] at hy_
            try (exfalso; omega)
            all_goals
              skip
              refine wa_if_neF 27 dX6_fill_21 (by decide) (by decide) ?_
              refine wa_bipush (-2) dX6_fill_24 (by decide) ?_
              refine wa_iret dX6_fill_26 rfl ?_
              exact ⟨rfl, hrel.up⟩
    · try simp (disch := omega) only [nI_toInt, Int32.toInt_toInt64, e64_] at c8_2
      refine wa_iload_n dX5_fill_11 rfl ?_
      refine wa_bipush (nI 64) dX5_fill_12 (by decide) ?_
      refine wa_ic_le 20 dX5_fill_14 (by decide) (fun c14_3 => ?_) (fun c14_3 => ?_)
      · try simp (disch := omega) only [nI_toInt, Int32.toInt_toInt64, e64_] at c14_3
        refine wa_aload_n dX5_fill_20 rfl ?_
        refine wa_getR dX5_fill_21 fgX5_11 (by first | assumption | rfl) (by rfl) ?_
        refine wa_iload_n dX5_fill_24 rfl ?_
        refine wa_aalS _ dX5_fill_25 (by first | assumption | rfl) (by first | with_reducible rfl | with_reducible assumption | with_reducible exact ix_ma _ _ _ | with_reducible exact ix_maa _ _ _ _ | with_reducible exact ix_a _ _ | with_reducible exact ix_mama _ _ _ _ _) (by omega) ?_
        rw [show arf 1 j_ = 7 + 4 * j_ from rfl]
        refine wa_callV0 (k' := kX3_isThere) (d' := 0) dX5_fill_26 lmX5_87 kvX3_isThere (by first | assumption | rfl) (by rfl) (by decide) (by omega) (Nat.le_of_ble_eq_true rfl) ?_
        refine wp_X3_isThere hS_ s1_ (fun h_ => ?_) (fun h_ => ?_)
        · skip
          refine wa_if_neT 35 dX5_fill_29 (by decide) (by decide) ?_
          refine wa_aload_n dX5_fill_35 rfl ?_
          refine wa_getR dX5_fill_36 fgX5_11 (by first | assumption | rfl) (by rfl) ?_
          refine wa_iload_n dX5_fill_39 rfl ?_
          refine wa_aalS _ dX5_fill_40 (by first | assumption | rfl) (by first | with_reducible rfl | with_reducible assumption | with_reducible exact ix_ma _ _ _ | with_reducible exact ix_maa _ _ _ _ | with_reducible exact ix_a _ _ | with_reducible exact ix_mama _ _ _ _ _) (by omega) ?_
          rw [show arf 1 j_ = 7 + 4 * j_ from rfl]
          refine wa_iload_n dX5_fill_41 rfl ?_
          refine wa_callV1 (k' := kX3_fillGaps) (d' := 1) dX5_fill_42 lmX5_105 kvX3_fillGaps (by first | assumption | rfl) (by rfl) (by decide) (by omega) (Nat.le_of_ble_eq_true rfl) ?_
          refine wp_X3_fillGaps (n := n_) hS_ (by omega) s3_ s4_ ?_
          refine wa_iret dX5_fill_45 rfl ?_
          have hm_ : 0 ≤ m.toInt := by omega
          obtain ⟨hC_, hF_⟩ := fi_c (s := mF μ j_) (s2 := μ.1 (7 + 4 * j_ + 2)) (v := mV μ j_) (v2 := μ.1 (7 + 4 * j_ + 1)) (M := m.toInt) (n := n_) s9_ (fun i hi hz => s8_ i hi (fun q => hz (by rw [q]; decide))) n_ (Nat.le_refl n_)
          have em_ : mF (bI (bI μ (7 + 4 * j_ + 1) (fiV (μ.1 (7 + 4 * j_ + 2)) (μ.1 (7 + 4 * j_ + 1)) m.toInt n_)) (7 + 4 * j_ + 2) (fiS (μ.1 (7 + 4 * j_ + 2)) m.toInt n_)) j_ = mF μ j_ := by funext i; simp (disch := omega) only [mF, bI_off]
          have ev_ : mV (bI (bI μ (7 + 4 * j_ + 1) (fiV (μ.1 (7 + 4 * j_ + 2)) (μ.1 (7 + 4 * j_ + 1)) m.toInt n_)) (7 + 4 * j_ + 2) (fiS (μ.1 (7 + 4 * j_ + 2)) m.toInt n_)) j_ = mV μ j_ := by funext i; simp (disch := omega) only [mV, bI_off]
          refine MW_of (by decide) [some (.ref 73), some (.int (nI j_)), some (.int m), none, none, none, none, none, none, none, none, none, none] rfl (Nat.le_of_ble_eq_true rfl) ?_
          refine wa_iload_n dX6_fill_0 rfl ?_
          refine wa_i2l dX6_fill_1 ?_
          refine wa_lconst (0) dX6_fill_2 (by decide) ?_
          refine wa_ldc2 (7) dX6_fill_3 lcX6_58 ?_
          refine wa_callS3 (k' := kX6_in) (d' := 0) dX6_fill_6 lmX6_60 ksX6_in (by decide) (by omega) (Nat.le_of_ble_eq_true rfl) ?_
          refine in8_1 hj_ ?_
          refine wa_if_eqF 24 dX6_fill_9 (by decide) (by decide) ?_
          refine wa_iload_n dX6_fill_12 rfl ?_
          refine wa_i2l dX6_fill_13 ?_
          refine wa_lconst (0) dX6_fill_14 (by decide) ?_
          refine wa_ldc2 (64) dX6_fill_15 lcX6_88 ?_
          refine wa_callS3 (k' := kX6_in) (d' := 0) dX6_fill_18 lmX6_60 ksX6_in (by decide) (by omega) (Nat.le_of_ble_eq_true rfl) ?_
          refine in_1 (by rw [Int32.toInt_toInt64, z64, k64_L]; omega) ?_
          refine wa_if_neT 27 dX6_fill_21 (by decide) (by decide) ?_
          refine wa_aload_n dX6_fill_27 rfl ?_
          refine wa_getR dX6_fill_28 fgX6_7 (by first | assumption | rfl) (by rfl) ?_
          refine wa_iload_n dX6_fill_31 rfl ?_
          refine wa_zald _ dX6_fill_32 (by first | assumption | rfl) (by first | with_reducible rfl | with_reducible assumption | with_reducible exact ix_ma _ _ _ | with_reducible exact ix_maa _ _ _ _ | with_reducible exact ix_a _ _ | with_reducible exact ix_mama _ _ _ _ _) (by omega) ?_
          refine wa_if_neT 39 dX6_fill_33 (by decide) (by simp (disch := omega) only [sI_off, bI_off, sL_off, bL_off, r1l, r2l, rb1l, rb2l, r1m, r2m, rb1e, rb2e, r1e, r2e]; rw [s5_, h_]; decide) ?_
          refine wa_fill (n := n_) hj_ hm_ (by simp (disch := omega) only [sI_off, bI_off, sL_off, bL_off, r1l, r2l, rb1l, rb2l, r1m, r2m, rb1e, rb2e, r1e, r2e]; exact s7_) s4_ ⟨by rw [em_, hC_], ?_⟩
          unfold fiM
          rw [em_, ev_]
          refine Rel_S (k := j_) (n := n_) hrel ?rels ?fs ?fr ?fp ?fw ?fm
          case fs =>
            intro j_ hj_ hjk_
            refine ⟨?_, ?_, ?_, ?_, ?_, ?_, fun i_ hi_ => ?_, fun i_ hi_ => ?_⟩
            all_goals
              simp (disch := omega) only [sI_off, bI_off, sL_off, bL_off, r1l, r2l, rb1l, rb2l, r1m, r2m, rb1e, rb2e,rwI_no]
          case fr =>
            intro r_ hr_
            refine ⟨?_, ?_, ?_, fun i_ hi_ => ?_⟩
            all_goals
              simp (disch := omega) only [sI_off, bI_off, sL_off, bL_off, r1l, r2l, rb1l, rb2l, r1m, r2m, rb1e, rb2e,rwI_no]
          case fp =>
            refine ⟨?_, ?_, ?_, ?_, ?_⟩
            all_goals
              simp (disch := omega) only [sI_off, bI_off, sL_off, bL_off, r1l, r2l, rb1l, rb2l, r1m, r2m, rb1e, rb2e,rwI_no]
          case fw =>
            refine ⟨?_, fun q_ ha_ hb_ => ?_⟩
            all_goals
              simp (disch := omega) only [sI_off, bI_off, sL_off, bL_off, r1l, r2l, rb1l, rb2l, r1m, r2m, rb1e, rb2e,rwI_no]
          case fm =>
            refine ⟨?_, ?_, fun q_ ha_ hb_ => ?_⟩
            all_goals
              simp (disch := omega) only [sI_off, bI_off, sL_off, bL_off, r1l, r2l, rb1l, rb2l, r1m, r2m, rb1e, rb2e,rwI_no]
          case rels =>
            refine ⟨by simp (disch := omega) only [sI_off, bI_off, sL_off, bL_off, r1l, r2l, rb1l, rb2l, r1m, r2m, rb1e, rb2e, r1e, r2e]; exact s1_, by simp (disch := omega) only [sI_off, bI_off, sL_off, bL_off, r1l, r2l, rb1l, rb2l, r1m, r2m, rb1e, rb2e, r1e, r2e]; exact s2_, by simp (disch := omega) only [sI_off, bI_off, sL_off, bL_off, r1l, r2l, rb1l, rb2l, r1m, r2m, rb1e, rb2e, r1e, r2e]; exact s3_, s4_, fun _ => by simp (disch := omega) only [sI_off, bI_off, sL_off, bL_off, r1l, r2l, rb1l, rb2l, r1m, r2m, rb1e, rb2e, r1e, r2e]; exact s5_, by simp (disch := omega) only [sI_off, bI_off, sL_off, bL_off, r1l, r2l, rb1l, rb2l, r1m, r2m, rb1e, rb2e, r1e, r2e]; exact s6_, by simp (disch := omega) only [sI_off, bI_off, sL_off, bL_off, r1l, r2l, rb1l, rb2l, r1m, r2m, rb1e, rb2e, r1e, r2e]; exact s7_, fun i_ hb_ hz_ => ?_, fun i_ hb_ => ?_, fun i_ hb_ => ?_⟩
            · revert hz_
              simp (disch := omega) only [sI_off, bI_off, sL_off, bL_off, r1l, r2l, rb1l, rb2l, r1m, r2m, rb1e, rb2e, r1e, r2e]
              rw [rwI_at hb_]
              intro hz_
              exact (hF_ i_ hb_).2 (fun q => hz_ (st3_0 q))
            · simp (disch := omega) only [sI_off, bI_off, sL_off, bL_off, r1l, r2l, rb1l, rb2l, r1m, r2m, rb1e, rb2e, r1e, r2e]
              rw [rwI_at hb_]
              exact (hF_ i_ hb_).1
            · simp (disch := omega) only [sI_off, bI_off, sL_off, bL_off, r1l, r2l, rb1l, rb2l, r1m, r2m, rb1e, rb2e, r1e, r2e]
              exact fiS_st (s10_ i_ hb_) n_
        · skip
          refine wa_if_neF 35 dX5_fill_29 (by decide) (by decide) ?_
          refine wa_bipush (-10) dX5_fill_32 (by decide) ?_
          refine wa_iret dX5_fill_34 rfl ?_
          skip
          refine MW_of (by decide) [some (.ref 73), some (.int (nI j_)), some (.int m), none, none, none, none, none, none, none, none, none, none] rfl (Nat.le_of_ble_eq_true rfl) ?_
          refine wa_iload_n dX6_fill_0 rfl ?_
          refine wa_i2l dX6_fill_1 ?_
          refine wa_lconst (0) dX6_fill_2 (by decide) ?_
          refine wa_ldc2 (7) dX6_fill_3 lcX6_58 ?_
          refine wa_callS3 (k' := kX6_in) (d' := 0) dX6_fill_6 lmX6_60 ksX6_in (by decide) (by omega) (Nat.le_of_ble_eq_true rfl) ?_
          refine in8_1 hj_ ?_
          refine wa_if_eqF 24 dX6_fill_9 (by decide) (by decide) ?_
          refine wa_iload_n dX6_fill_12 rfl ?_
          refine wa_i2l dX6_fill_13 ?_
          refine wa_lconst (0) dX6_fill_14 (by decide) ?_
          refine wa_ldc2 (64) dX6_fill_15 lcX6_88 ?_
          refine wa_callS3 (k' := kX6_in) (d' := 0) dX6_fill_18 lmX6_60 ksX6_in (by decide) (by omega) (Nat.le_of_ble_eq_true rfl) ?_
          refine in_1 (by rw [Int32.toInt_toInt64, z64, k64_L]; omega) ?_
          refine wa_if_neT 27 dX6_fill_21 (by decide) (by decide) ?_
          refine wa_aload_n dX6_fill_27 rfl ?_
          refine wa_getR dX6_fill_28 fgX6_7 (by first | assumption | rfl) (by rfl) ?_
          refine wa_iload_n dX6_fill_31 rfl ?_
          refine wa_zald _ dX6_fill_32 (by first | assumption | rfl) (by first | with_reducible rfl | with_reducible assumption | with_reducible exact ix_ma _ _ _ | with_reducible exact ix_maa _ _ _ _ | with_reducible exact ix_a _ _ | with_reducible exact ix_mama _ _ _ _ _) (by omega) ?_
          refine wa_if_neF 39 dX6_fill_33 (by decide) (by rw [s5_, h_]; exact fun q => q rfl) ?_
          refine wa_bipush (-10) dX6_fill_36 (by decide) ?_
          refine wa_iret dX6_fill_38 rfl ?_
          exact ⟨rfl, hrel.up⟩
      · try simp (disch := omega) only [nI_toInt, Int32.toInt_toInt64, e64_] at c14_3
        refine wa_bipush (-2) dX5_fill_17 (by decide) ?_
        refine wa_iret dX5_fill_19 rfl ?_
        skip
        refine MW_of (by decide) [some (.ref 73), some (.int _), some (.int m), none, none, none, none, none, none, none, none, none, none] rfl (Nat.le_of_ble_eq_true rfl) ?_
        refine wa_iload_n dX6_fill_0 rfl ?_
        refine wa_i2l dX6_fill_1 ?_
        refine wa_lconst (0) dX6_fill_2 (by decide) ?_
        refine wa_ldc2 (7) dX6_fill_3 lcX6_58 ?_
        refine wa_callS3 (k' := kX6_in) (d' := 0) dX6_fill_6 lmX6_60 ksX6_in (by decide) (by omega) (Nat.le_of_ble_eq_true rfl) ?_
        first | refine in8_1 hj_ ?_ | refine in8_0 hoob ?_
        refine wa_if_eq 24 dX6_fill_9 (by decide) (fun c9_2 => ?_) (fun c9_2 => ?_)
        · try simp (disch := omega) only [nI_toInt, Int32.toInt_toInt64, not_true_eq_false] at c9_2
          try (exfalso; omega)
          all_goals
            skip
            refine wa_bipush (-2) dX6_fill_24 (by decide) ?_
            refine wa_iret dX6_fill_26 rfl ?_
            exact ⟨rfl, hrel.up⟩
        · try simp (disch := omega) only [nI_toInt, Int32.toInt_toInt64, not_true_eq_false] at c9_2
          try (exfalso; omega)
          all_goals
            skip
            refine wa_iload_n dX6_fill_12 rfl ?_
            refine wa_i2l dX6_fill_13 ?_
            refine wa_lconst (0) dX6_fill_14 (by decide) ?_
            refine wa_ldc2 (64) dX6_fill_15 lcX6_88 ?_
            refine wa_callS3 (k' := kX6_in) (d' := 0) dX6_fill_18 lmX6_60 ksX6_in (by decide) (by omega) (Nat.le_of_ble_eq_true rfl) ?_
            refine wp_X6_in (fun hy_ => ?_) (fun hy_ => ?_)
            · skip
              rw [Int32.toInt_toInt64, z64, k64_L] at hy_
              try (exfalso; omega)
              all_goals
                skip
                refine wa_if_neT 27 dX6_fill_21 (by decide) (by decide) ?_
                skip
            · skip
              rw [Int32.toInt_toInt64, z64, k64_L] at hy_
              try (exfalso; omega)
              all_goals
                skip
                refine wa_if_neF 27 dX6_fill_21 (by decide) (by decide) ?_
                refine wa_bipush (-2) dX6_fill_24 (by decide) ?_
                refine wa_iret dX6_fill_26 rfl ?_
                exact ⟨rfl, hrel.up⟩
  · skip
    refine wa_if_eqT 17 dX5_fill_4 (by decide) (by decide) ?_
    refine wa_bipush (-2) dX5_fill_17 (by decide) ?_
    refine wa_iret dX5_fill_19 rfl ?_
    skip
    refine MW_of (by decide) [some (.ref 73), some (.int _), some (.int m), none, none, none, none, none, none, none, none, none, none] rfl (Nat.le_of_ble_eq_true rfl) ?_
    refine wa_iload_n dX6_fill_0 rfl ?_
    refine wa_i2l dX6_fill_1 ?_
    refine wa_lconst (0) dX6_fill_2 (by decide) ?_
    refine wa_ldc2 (7) dX6_fill_3 lcX6_58 ?_
    refine wa_callS3 (k' := kX6_in) (d' := 0) dX6_fill_6 lmX6_60 ksX6_in (by decide) (by omega) (Nat.le_of_ble_eq_true rfl) ?_
    first | refine in8_1 hj_ ?_ | refine in8_0 hoob ?_
    refine wa_if_eq 24 dX6_fill_9 (by decide) (fun c9_2 => ?_) (fun c9_2 => ?_)
    · try simp (disch := omega) only [nI_toInt, Int32.toInt_toInt64, not_true_eq_false] at c9_2
      try (exfalso; omega)
      all_goals
        skip
        refine wa_bipush (-2) dX6_fill_24 (by decide) ?_
        refine wa_iret dX6_fill_26 rfl ?_
        exact ⟨rfl, hrel.up⟩
    · try simp (disch := omega) only [nI_toInt, Int32.toInt_toInt64, not_true_eq_false] at c9_2
      try (exfalso; omega)
      all_goals
        skip
        refine wa_iload_n dX6_fill_12 rfl ?_
        refine wa_i2l dX6_fill_13 ?_
        refine wa_lconst (0) dX6_fill_14 (by decide) ?_
        refine wa_ldc2 (64) dX6_fill_15 lcX6_88 ?_
        refine wa_callS3 (k' := kX6_in) (d' := 0) dX6_fill_18 lmX6_60 ksX6_in (by decide) (by omega) (Nat.le_of_ble_eq_true rfl) ?_
        refine wp_X6_in (fun hy_ => ?_) (fun hy_ => ?_)
        · skip
          rw [Int32.toInt_toInt64, z64, k64_L] at hy_
          try (exfalso; omega)
          all_goals
            skip
            refine wa_if_neT 27 dX6_fill_21 (by decide) (by decide) ?_
            skip
        · skip
          rw [Int32.toInt_toInt64, z64, k64_L] at hy_
          try (exfalso; omega)
          all_goals
            skip
            refine wa_if_neF 27 dX6_fill_21 (by decide) (by decide) ?_
            refine wa_bipush (-2) dX6_fill_24 (by decide) ?_
            refine wa_iret dX6_fill_26 rfl ?_
            exact ⟨rfl, hrel.up⟩
