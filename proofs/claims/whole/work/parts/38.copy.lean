/-! PAIRS: copy -/
def frI (g old : Nat → Int32) (m : Nat) : Nat → Int32 := fun b => if b < m then g b else old b
theorem frI_0 (g old : Nat → Int32) : frI g old 0 = old := by
  funext b
  simp [frI]
theorem frI_s (g old : Nat → Int32) (m : Nat) : upd (frI g old m) m (g m) = frI g old (m + 1) := by
  funext b
  by_cases h : b = m
  · subst h
    simp [upd, frI]
  · simp only [upd, frI, h, if_false]
    congr 1
    exact propext ⟨fun q => by omega, fun q => by omega⟩
theorem frI_lt {g old : Nat → Int32} {n i : Nat} (h : i < n) : frI g old n i = g i := by
  rw [frI, if_pos h]
/-- n ints from place s on are g's -/
def pwI (g old : Nat → Int32) (s n : Nat) : Nat → Int32 := fun q => if s ≤ q ∧ q < s + n then g (q - s) else old q
theorem pwI_0 (g old : Nat → Int32) (s : Nat) : pwI g old s 0 = old := by
  funext q
  simp only [pwI]
  rw [if_neg (by omega)]
theorem pwI_s (g old : Nat → Int32) (s i : Nat) : upd (pwI g old s i) (s + i) (g i) = pwI g old s (i + 1) := by
  funext q
  by_cases hq : q = s + i
  · subst hq
    simp only [upd, pwI, if_true]
    rw [if_pos (by omega), show s + i - s = i by omega]
  · simp only [upd, pwI, hq, if_false]
    congr 1
    exact propext ⟨fun q => by omega, fun q => by omega⟩
theorem pwI_at {g old : Nat → Int32} {s n q : Nat} (h : s ≤ q) (h2 : q < s + n) : pwI g old s n q = g (q - s) := by
  rw [pwI, if_pos ⟨h, h2⟩]
theorem pwI_no {g old : Nat → Int32} {s n q : Nat} (h : ¬ (s ≤ q ∧ q < s + n)) : pwI g old s n q = old q := by
  rw [pwI, if_neg h]
theorem two_I (ν : Mem) {t u : Nat} (f g : Nat → Int32) {p q : Nat} {x y : Int32} (h : t ≠ u) : sI (sI (bI (bI ν t f) u g) t p x) u q y = bI (bI ν t (upd f p x)) u (upd g q y) := by
  rw [sIb2 _ _ _ _ _ h, sIb]
theorem wa_copy {d j u a b n : Nat} {μ : Mem} {Q : QM} (hj : j < 8) (hu : u < 8) (ha : a + n ≤ 64) (hb : b + n ≤ 64) (hQ : ∀ F G, Q (some (.int (nI n))) (bI (bI (bI (bI μ 83 F) 84 G) 77 (pwI (fun i => μ.1 77 (64 * j + a + i)) (μ.1 77) (64 * u + b) n)) 78 (pwI (fun i => μ.1 78 (64 * j + a + i)) (μ.1 78) (64 * u + b) n))) : WA kX6_copy d Q 121 [some (.ref 73), some (.int (nI j)), some (.int (nI a)), some (.int (nI u)), some (.int (nI b)), some (.int (nI n)), none] [] μ := by
  generalize hS_ : (fun i => μ.1 77 (64 * j + a + i)) = S_ at hQ
  generalize hV_ : (fun i => μ.1 78 (64 * j + a + i)) = V_ at hQ
  have es : ∀ i, μ.1 77 (64 * j + a + i) = S_ i := fun i => by rw [← hS_]
  have evv : ∀ i, μ.1 78 (64 * j + a + i) = V_ i := fun i => by rw [← hV_]
  have loop2 : ∀ m i, i + m = n → WA kX6_copy d Q 182 [some (.ref 73), some (.int (nI j)), some (.int (nI a)), some (.int (nI u)), some (.int (nI b)), some (.int (nI n)), some (.int (nI i))] [] (bI (bI (bI (bI μ 83 (frI S_ (μ.1 83) n)) 84 (frI V_ (μ.1 84) n)) 77 (pwI S_ (μ.1 77) (64 * u + b) i)) 78 (pwI V_ (μ.1 78) (64 * u + b) i)) := by
    intro m
    induction m with
    | zero =>
      intro i hi
      obtain rfl : i = n := by omega
      refine wa_iload dX6_copy_182 rfl ?_
      refine wa_iload dX6_copy_184 rfl ?_
      refine wa_ic_geT 239 dX6_copy_186 (by decide) (le_nI (by omega) (by omega)) ?_
      refine wa_iload dX6_copy_239 rfl ?_
      refine wa_iret dX6_copy_241 rfl ?_
      exact hQ _ _
    | succ m ih =>
      intro i hi
      have e_ := ih (i + 1) (by omega)
      refine wa_iload dX6_copy_182 rfl ?_
      refine wa_iload dX6_copy_184 rfl ?_
      refine wa_ic_geF 239 dX6_copy_186 (by decide) (nle_nI (by omega) (by omega)) ?_
      refine wa_aload_n dX6_copy_189 rfl ?_
      refine wa_getR dX6_copy_190 fgX6_20 (by first | assumption | rfl) (by rfl) ?_
      refine wa_bipush (nI 64) dX6_copy_193 (by decide) ?_
      refine wa_iload_n dX6_copy_195 rfl ?_
      refine wa_imul dX6_copy_196 ?_
      refine wa_iload dX6_copy_197 rfl ?_
      refine wa_iadd dX6_copy_199 ?_
      refine wa_iload dX6_copy_200 rfl ?_
      refine wa_iadd dX6_copy_202 ?_
      refine wa_aload_n dX6_copy_203 rfl ?_
      refine wa_getR dX6_copy_204 fgX6_49 (by first | assumption | rfl) (by rfl) ?_
      refine wa_iload dX6_copy_207 rfl ?_
      refine wa_iald _ dX6_copy_209 (by first | assumption | rfl) (by first | with_reducible rfl | with_reducible assumption | with_reducible exact ix_ma _ _ _ | with_reducible exact ix_maa _ _ _ _ | with_reducible exact ix_a _ _ | with_reducible exact ix_mama _ _ _ _ _) (by omega) ?_
      refine wa_iast _ dX6_copy_210 (by first | assumption | rfl) (by first | with_reducible rfl | with_reducible assumption | with_reducible exact ix_ma _ _ _ | with_reducible exact ix_maa _ _ _ _ | with_reducible exact ix_a _ _ | with_reducible exact ix_mama _ _ _ _ _) (by omega) ?_
      refine wa_aload_n dX6_copy_211 rfl ?_
      refine wa_getR dX6_copy_212 fgX6_23 (by first | assumption | rfl) (by rfl) ?_
      refine wa_bipush (nI 64) dX6_copy_215 (by decide) ?_
      refine wa_iload_n dX6_copy_217 rfl ?_
      refine wa_imul dX6_copy_218 ?_
      refine wa_iload dX6_copy_219 rfl ?_
      refine wa_iadd dX6_copy_221 ?_
      refine wa_iload dX6_copy_222 rfl ?_
      refine wa_iadd dX6_copy_224 ?_
      refine wa_aload_n dX6_copy_225 rfl ?_
      refine wa_getR dX6_copy_226 fgX6_52 (by first | assumption | rfl) (by rfl) ?_
      refine wa_iload dX6_copy_229 rfl ?_
      refine wa_iald _ dX6_copy_231 (by first | assumption | rfl) (by first | with_reducible rfl | with_reducible assumption | with_reducible exact ix_ma _ _ _ | with_reducible exact ix_maa _ _ _ _ | with_reducible exact ix_a _ _ | with_reducible exact ix_mama _ _ _ _ _) (by omega) ?_
      refine wa_iast _ dX6_copy_232 (by first | assumption | rfl) (by first | with_reducible rfl | with_reducible assumption | with_reducible exact ix_ma _ _ _ | with_reducible exact ix_maa _ _ _ _ | with_reducible exact ix_a _ _ | with_reducible exact ix_mama _ _ _ _ _) (by omega) ?_
      refine wa_iinc (nI 1) dX6_copy_233 rfl (by decide) (by decide) ?_
      refine wa_goto 182 dX6_copy_236 (by decide) ?_
      rw [two_I _ _ _ (by omega)]
      simp (disch := omega) only [sI_off, bI_off, rb1e, frI_lt, pwI_s, nI_add]
      exact e_
  have loop1 : ∀ m i, i + m = n → WA kX6_copy d Q 124 [some (.ref 73), some (.int (nI j)), some (.int (nI a)), some (.int (nI u)), some (.int (nI b)), some (.int (nI n)), some (.int (nI i))] [] (bI (bI μ 83 (frI S_ (μ.1 83) i)) 84 (frI V_ (μ.1 84) i)) := by
    intro m
    induction m with
    | zero =>
      intro i hi
      obtain rfl : i = n := by omega
      have e_ := loop2 i 0 (by omega)
      have e1 : bI (bI (bI (bI μ 83 (frI S_ (μ.1 83) i)) 84 (frI V_ (μ.1 84) i)) 77 (pwI S_ (μ.1 77) (64 * u + b) 0)) 78 (pwI V_ (μ.1 78) (64 * u + b) 0) = bI (bI μ 83 (frI S_ (μ.1 83) i)) 84 (frI V_ (μ.1 84) i) := by
        rw [pwI_0, pwI_0]
        have a1 := bI_self (bI (bI μ 83 (frI S_ (μ.1 83) i)) 84 (frI V_ (μ.1 84) i)) 77
        have a2 := bI_self (bI (bI μ 83 (frI S_ (μ.1 83) i)) 84 (frI V_ (μ.1 84) i)) 78
        rw [bI_off (by omega), bI_off (by omega)] at a1 a2
        rw [a1, a2]
      rw [e1] at e_
      refine wa_iload dX6_copy_124 rfl ?_
      refine wa_iload dX6_copy_126 rfl ?_
      refine wa_ic_geT 179 dX6_copy_128 (by decide) (le_nI (by omega) (by omega)) ?_
      refine wa_iconst (nI 0) dX6_copy_179 (by decide) ?_
      refine wa_istore dX6_copy_180 (by decide) ?_
      exact e_
    | succ m ih =>
      intro i hi
      have e_ := ih (i + 1) (by omega)
      refine wa_iload dX6_copy_124 rfl ?_
      refine wa_iload dX6_copy_126 rfl ?_
      refine wa_ic_geF 179 dX6_copy_128 (by decide) (nle_nI (by omega) (by omega)) ?_
      refine wa_aload_n dX6_copy_131 rfl ?_
      refine wa_getR dX6_copy_132 fgX6_49 (by first | assumption | rfl) (by rfl) ?_
      refine wa_iload dX6_copy_135 rfl ?_
      refine wa_aload_n dX6_copy_137 rfl ?_
      refine wa_getR dX6_copy_138 fgX6_20 (by first | assumption | rfl) (by rfl) ?_
      refine wa_bipush (nI 64) dX6_copy_141 (by decide) ?_
      refine wa_iload_n dX6_copy_143 rfl ?_
      refine wa_imul dX6_copy_144 ?_
      refine wa_iload_n dX6_copy_145 rfl ?_
      refine wa_iadd dX6_copy_146 ?_
      refine wa_iload dX6_copy_147 rfl ?_
      refine wa_iadd dX6_copy_149 ?_
      refine wa_iald _ dX6_copy_150 (by first | assumption | rfl) (by first | with_reducible rfl | with_reducible assumption | with_reducible exact ix_ma _ _ _ | with_reducible exact ix_maa _ _ _ _ | with_reducible exact ix_a _ _ | with_reducible exact ix_mama _ _ _ _ _) (by omega) ?_
      refine wa_iast _ dX6_copy_151 (by first | assumption | rfl) (by first | with_reducible rfl | with_reducible assumption | with_reducible exact ix_ma _ _ _ | with_reducible exact ix_maa _ _ _ _ | with_reducible exact ix_a _ _ | with_reducible exact ix_mama _ _ _ _ _) (by omega) ?_
      refine wa_aload_n dX6_copy_152 rfl ?_
      refine wa_getR dX6_copy_153 fgX6_52 (by first | assumption | rfl) (by rfl) ?_
      refine wa_iload dX6_copy_156 rfl ?_
      refine wa_aload_n dX6_copy_158 rfl ?_
      refine wa_getR dX6_copy_159 fgX6_23 (by first | assumption | rfl) (by rfl) ?_
      refine wa_bipush (nI 64) dX6_copy_162 (by decide) ?_
      refine wa_iload_n dX6_copy_164 rfl ?_
      refine wa_imul dX6_copy_165 ?_
      refine wa_iload_n dX6_copy_166 rfl ?_
      refine wa_iadd dX6_copy_167 ?_
      refine wa_iload dX6_copy_168 rfl ?_
      refine wa_iadd dX6_copy_170 ?_
      refine wa_iald _ dX6_copy_171 (by first | assumption | rfl) (by first | with_reducible rfl | with_reducible assumption | with_reducible exact ix_ma _ _ _ | with_reducible exact ix_maa _ _ _ _ | with_reducible exact ix_a _ _ | with_reducible exact ix_mama _ _ _ _ _) (by omega) ?_
      refine wa_iast _ dX6_copy_172 (by first | assumption | rfl) (by first | with_reducible rfl | with_reducible assumption | with_reducible exact ix_ma _ _ _ | with_reducible exact ix_maa _ _ _ _ | with_reducible exact ix_a _ _ | with_reducible exact ix_mama _ _ _ _ _) (by omega) ?_
      refine wa_iinc (nI 1) dX6_copy_173 rfl (by decide) (by decide) ?_
      refine wa_goto 124 dX6_copy_176 (by decide) ?_
      rw [two_I _ _ _ (by omega)]
      simp (disch := omega) only [sI_off, bI_off, es, evv, frI_s, nI_add]
      exact e_
  have e0 := loop1 n 0 (by omega)
  rw [frI_0, frI_0, bI_self, bI_self] at e0
  refine wa_iconst (nI 0) dX6_copy_121 (by decide) ?_
  refine wa_istore dX6_copy_122 (by decide) ?_
  exact e0
theorem z_add64 (x y : Int32) : (x.toInt64 + y.toInt64).toInt = x.toInt + y.toInt := by
  have a1 := x.toInt_lt
  have a2 := x.le_toInt
  have b1 := y.toInt_lt
  have b2 := y.le_toInt
  rw [← Int64.ofInt_int32ToInt x, ← Int64.ofInt_int32ToInt y, ← Int64.ofInt_add]
  exact zin (by omega) (by omega)
