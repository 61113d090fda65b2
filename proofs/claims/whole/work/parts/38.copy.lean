/-! PAIRS: copy -/
def frI (g old : Nat → Int32) (m : Nat) : Nat → Int32 := fun b => if b < m then g b else old b
theorem frI_0 (g old : Nat → Int32) : frI g old 0 = old := by
  funext b
  simp [frI]
theorem frI_s (g old : Nat → Int32) (m : Nat) : upd (frI g old m) m (g m) = frI g old (m + 1) := by
  funext b
  by_cases h : b = m
  · subst h
    simp [upd, frI]
  · simp only [upd, frI, h, if_false]
    congr 1
    exact propext ⟨fun q => by omega, fun q => by omega⟩
theorem frI_lt {g old : Nat → Int32} {n i : Nat} (h : i < n) : frI g old n i = g i := by
  rw [frI, if_pos h]
/-- n ints from place s on are g's -/
def pwI (g old : Nat → Int32) (s n : Nat) : Nat → Int32 := fun q => if s ≤ q ∧ q < s + n then g (q - s) else old q
theorem pwI_0 (g old : Nat → Int32) (s : Nat) : pwI g old s 0 = old := by
  funext q
  simp only [pwI]
  rw [if_neg (by omega)]
theorem pwI_s (g old : Nat → Int32) (s i : Nat) : upd (pwI g old s i) (s + i) (g i) = pwI g old s (i + 1) := by
  funext q
  by_cases hq : q = s + i
  · subst hq
    simp only [upd, pwI, if_true]
    rw [if_pos (by omega), show s + i - s = i by omega]
  · simp only [upd, pwI, hq, if_false]
    congr 1
    exact propext ⟨fun q => by omega, fun q => by omega⟩
theorem pwI_at {g old : Nat → Int32} {s n q : Nat} (h : s ≤ q) (h2 : q < s + n) : pwI g old s n q = g (q - s) := by
  rw [pwI, if_pos ⟨h, h2⟩]
theorem pwI_no {g old : Nat → Int32} {s n q : Nat} (h : ¬ (s ≤ q ∧ q < s + n)) : pwI g old s n q = old q := by
  rw [pwI, if_neg h]
theorem two_I (ν : Mem) {t u : Nat} (f g : Nat → Int32) {p q : Nat} {x y : Int32} (h : t ≠ u) : sI (sI (bI (bI ν t f) u g) t p x) u q y = bI (bI ν t (upd f p x)) u (upd g q y) := by
  rw [sIb2 _ _ _ _ _ h, sIb]
theorem wa_copy {d j u a b n : Nat} {μ : Mem} {Q : QM} (hj : j < 8) (hu : u < 8) (ha : a + n ≤ 64) (hb : b + n ≤ 64) (hQ : ∀ F G, Q (some (.int (nI n))) (bI (bI (bI (bI μ 83 F) 84 G) 77 (pwI (fun i => μ.1 77 (64 * j + a + i)) (μ.1 77) (64 * u + b) n)) 78 (pwI (fun i => μ.1 78 (64 * j + a + i)) (μ.1 78) (64 * u + b) n))) : WA kX6_copy d Q 121 [some (.ref 73), some (.int (nI j)), some (.int (nI a)), some (.int (nI u)), some (.int (nI b)), some (.int (nI n)), none] [] μ := by
  generalize hS_ : (fun i => μ.1 77 (64 * j + a + i)) = S_ at hQ
  generalize hV_ : (fun i => μ.1 78 (64 * j + a + i)) = V_ at hQ
  have es : ∀ i, μ.1 77 (64 * j + a + i) = S_ i := fun i => by rw [← hS_]
  have evv : ∀ i, μ.1 78 (64 * j + a + i) = V_ i := fun i => by rw [← hV_]
  have loop2 : ∀ m i, i + m = n → WA kX6_copy d Q 182 [some (.ref 73), some (.int (nI j)), some (.int (nI a)), some (.int (nI u)), some (.int (nI b)), some (.int (nI n)), some (.int (nI i))] [] (bI (bI (bI (bI μ 83 (frI S_ (μ.1 83) n)) 84 (frI V_ (μ.1 84) n)) 77 (pwI S_ (μ.1 77) (64 * u + b) i)) 78 (pwI V_ (μ.1 78) (64 * u + b) i)) := by
    intro m
    induction m with
    | zero =>
      intro i hi
      obtain rfl : i = n := by omega
      refine wa_iload dX6_copy_182 rfl ?_
      refine wa_iload dX6_copy_184 rfl ?_
      refine wa_ic_geT 239 dX6_copy_186 (by decide) (le_nI (by omega) (by omega)) ?_
      refine wa_iload dX6_copy_239 rfl ?_
      refine wa_iret dX6_copy_241 rfl ?_
      exact hQ _ _
    | succ m ih =>
      intro i hi
      have e_ := ih (i + 1) (by omega)
      refine wa_iload dX6_copy_182 rfl ?_
      refine wa_iload dX6_copy_184 rfl ?_
      refine wa_ic_geF 239 dX6_copy_186 (by decide) (nle_nI (by omega) (by omega)) ?_
      refine wa_aload_n dX6_copy_189 rfl ?_
      refine wa_getR dX6_copy_190 fgX6_20 (by first | assumption | rfl) (by rfl) ?_
      refine wa_bipush (nI 64) dX6_copy_193 (by decide) ?_
      refine wa_iload_n dX6_copy_195 rfl ?_
      refine wa_imul dX6_copy_196 ?_
      refine wa_iload dX6_copy_197 rfl ?_
      refine wa_iadd dX6_copy_199 ?_
      refine wa_iload dX6_copy_200 rfl ?_
      refine wa_iadd dX6_copy_202 ?_
      refine wa_aload_n dX6_copy_203 rfl ?_
      refine wa_getR dX6_copy_204 fgX6_49 (by first | assumption | rfl) (by rfl) ?_
      refine wa_iload dX6_copy_207 rfl ?_
      refine wa_iald _ dX6_copy_209 (by first | assumption | rfl) (by first | with_reducible rfl | with_reducible assumption | with_reducible exact ix_ma _ _ _ | with_reducible exact ix_maa _ _ _ _ | with_reducible exact ix_a _ _ | with_reducible exact ix_mama _ _ _ _ _) (by omega) ?_
      refine wa_iast _ dX6_copy_210 (by first | assumption | rfl) (by first | with_reducible rfl | with_reducible assumption | with_reducible exact ix_ma _ _ _ | with_reducible exact ix_maa _ _ _ _ | with_reducible exact ix_a _ _ | with_reducible exact ix_mama _ _ _ _ _) (by omega) ?_
      refine wa_aload_n dX6_copy_211 rfl ?_
      refine wa_getR dX6_copy_212 fgX6_23 (by first | assumption | rfl) (by rfl) ?_
      refine wa_bipush (nI 64) dX6_copy_215 (by decide) ?_
      refine wa_iload_n dX6_copy_217 rfl ?_
      refine wa_imul dX6_copy_218 ?_
      refine wa_iload dX6_copy_219 rfl ?_
      refine wa_iadd dX6_copy_221 ?_
      refine wa_iload dX6_copy_222 rfl ?_
      refine wa_iadd dX6_copy_224 ?_
      refine wa_aload_n dX6_copy_225 rfl ?_
      refine wa_getR dX6_copy_226 fgX6_52 (by first | assumption | rfl) (by rfl) ?_
      refine wa_iload dX6_copy_229 rfl ?_
      refine wa_iald _ dX6_copy_231 (by first | assumption | rfl) (by first | with_reducible rfl | with_reducible assumption | with_reducible exact ix_ma _ _ _ | with_reducible exact ix_maa _ _ _ _ | with_reducible exact ix_a _ _ | with_reducible exact ix_mama _ _ _ _ _) (by omega) ?_
      refine wa_iast _ dX6_copy_232 (by first | assumption | rfl) (by first | with_reducible rfl | with_reducible assumption | with_reducible exact ix_ma _ _ _ | with_reducible exact ix_maa _ _ _ _ | with_reducible exact ix_a _ _ | with_reducible exact ix_mama _ _ _ _ _) (by omega) ?_
      refine wa_iinc (nI 1) dX6_copy_233 rfl (by decide) (by decide) ?_
      refine wa_goto 182 dX6_copy_236 (by decide) ?_
      rw [two_I _ _ _ (by omega)]
      simp (disch := omega) only [sI_off, bI_off, rb1e, frI_lt, pwI_s, nI_add]
      exact e_
  have loop1 : ∀ m i, i + m = n → WA kX6_copy d Q 124 [some (.ref 73), some (.int (nI j)), some (.int (nI a)), some (.int (nI u)), some (.int (nI b)), some (.int (nI n)), some (.int (nI i))] [] (bI (bI μ 83 (frI S_ (μ.1 83) i)) 84 (frI V_ (μ.1 84) i)) := by
    intro m
    induction m with
    | zero =>
      intro i hi
      obtain rfl : i = n := by omega
      have e_ := loop2 i 0 (by omega)
      have e1 : bI (bI (bI (bI μ 83 (frI S_ (μ.1 83) i)) 84 (frI V_ (μ.1 84) i)) 77 (pwI S_ (μ.1 77) (64 * u + b) 0)) 78 (pwI V_ (μ.1 78) (64 * u + b) 0) = bI (bI μ 83 (frI S_ (μ.1 83) i)) 84 (frI V_ (μ.1 84) i) := by
        rw [pwI_0, pwI_0]
        have a1 := bI_self (bI (bI μ 83 (frI S_ (μ.1 83) i)) 84 (frI V_ (μ.1 84) i)) 77
        have a2 := bI_self (bI (bI μ 83 (frI S_ (μ.1 83) i)) 84 (frI V_ (μ.1 84) i)) 78
        rw [bI_off (by omega), bI_off (by omega)] at a1 a2
        rw [a1, a2]
      rw [e1] at e_
      refine wa_iload dX6_copy_124 rfl ?_
      refine wa_iload dX6_copy_126 rfl ?_
      refine wa_ic_geT 179 dX6_copy_128 (by decide) (le_nI (by omega) (by omega)) ?_
      refine wa_iconst (nI 0) dX6_copy_179 (by decide) ?_
      refine wa_istore dX6_copy_180 (by decide) ?_
      exact e_
    | succ m ih =>
      intro i hi
      have e_ := ih (i + 1) (by omega)
      refine wa_iload dX6_copy_124 rfl ?_
      refine wa_iload dX6_copy_126 rfl ?_
      refine wa_ic_geF 179 dX6_copy_128 (by decide) (nle_nI (by omega) (by omega)) ?_
      refine wa_aload_n dX6_copy_131 rfl ?_
      refine wa_getR dX6_copy_132 fgX6_49 (by first | assumption | rfl) (by rfl) ?_
      refine wa_iload dX6_copy_135 rfl ?_
      refine wa_aload_n dX6_copy_137 rfl ?_
      refine wa_getR dX6_copy_138 fgX6_20 (by first | assumption | rfl) (by rfl) ?_
      refine wa_bipush (nI 64) dX6_copy_141 (by decide) ?_
      refine wa_iload_n dX6_copy_143 rfl ?_
      refine wa_imul dX6_copy_144 ?_
      refine wa_iload_n dX6_copy_145 rfl ?_
      refine wa_iadd dX6_copy_146 ?_
      refine wa_iload dX6_copy_147 rfl ?_
      refine wa_iadd dX6_copy_149 ?_
      refine wa_iald _ dX6_copy_150 (by first | assumption | rfl) (by first | with_reducible rfl | with_reducible assumption | with_reducible exact ix_ma _ _ _ | with_reducible exact ix_maa _ _ _ _ | with_reducible exact ix_a _ _ | with_reducible exact ix_mama _ _ _ _ _) (by omega) ?_
      refine wa_iast _ dX6_copy_151 (by first | assumption | rfl) (by first | with_reducible rfl | with_reducible assumption | with_reducible exact ix_ma _ _ _ | with_reducible exact ix_maa _ _ _ _ | with_reducible exact ix_a _ _ | with_reducible exact ix_mama _ _ _ _ _) (by omega) ?_
      refine wa_aload_n dX6_copy_152 rfl ?_
      refine wa_getR dX6_copy_153 fgX6_52 (by first | assumption | rfl) (by rfl) ?_
      refine wa_iload dX6_copy_156 rfl ?_
      refine wa_aload_n dX6_copy_158 rfl ?_
      refine wa_getR dX6_copy_159 fgX6_23 (by first | assumption | rfl) (by rfl) ?_
      refine wa_bipush (nI 64) dX6_copy_162 (by decide) ?_
      refine wa_iload_n dX6_copy_164 rfl ?_
      refine wa_imul dX6_copy_165 ?_
      refine wa_iload_n dX6_copy_166 rfl ?_
      refine wa_iadd dX6_copy_167 ?_
      refine wa_iload dX6_copy_168 rfl ?_
      refine wa_iadd dX6_copy_170 ?_
      refine wa_iald _ dX6_copy_171 (by first | assumption | rfl) (by first | with_reducible rfl | with_reducible assumption | with_reducible exact ix_ma _ _ _ | with_reducible exact ix_maa _ _ _ _ | with_reducible exact ix_a _ _ | with_reducible exact ix_mama _ _ _ _ _) (by omega) ?_
      refine wa_iast _ dX6_copy_172 (by first | assumption | rfl) (by first | with_reducible rfl | with_reducible assumption | with_reducible exact ix_ma _ _ _ | with_reducible exact ix_maa _ _ _ _ | with_reducible exact ix_a _ _ | with_reducible exact ix_mama _ _ _ _ _) (by omega) ?_
      refine wa_iinc (nI 1) dX6_copy_173 rfl (by decide) (by decide) ?_
      refine wa_goto 124 dX6_copy_176 (by decide) ?_
      rw [two_I _ _ _ (by omega)]
      simp (disch := omega) only [sI_off, bI_off, es, evv, frI_s, nI_add]
      exact e_
  have e0 := loop1 n 0 (by omega)
  rw [frI_0, frI_0, bI_self, bI_self] at e0
  refine wa_iconst (nI 0) dX6_copy_121 (by decide) ?_
  refine wa_istore dX6_copy_122 (by decide) ?_
  exact e0
theorem z_add64 (x y : Int32) : (x.toInt64 + y.toInt64).toInt = x.toInt + y.toInt := by
  have a1 := x.toInt_lt
  have a2 := x.le_toInt
  have b1 := y.toInt_lt
  have b2 := y.le_toInt
  rw [← Int64.ofInt_int32ToInt x, ← Int64.ofInt_int32ToInt y, ← Int64.ofInt_add]
  exact zin (by omega) (by omega)
theorem cpI_in {f g : Nat → Int32} {sp dp n k : Nat} (h : dp ≤ k) (h2 : k < dp + n) : va_cpy f g sp dp n k = f (sp + (k - dp)) := if_pos ⟨h, h2⟩
theorem cpI_out {f g : Nat → Int32} {sp dp n k : Nat} (h : ¬ (dp ≤ k ∧ k < dp + n)) : va_cpy f g sp dp n k = g k := if_neg h
theorem pr_copy (k a e b n : Int32) : PR kX5_copy kX6_copy [.int k, .int a, .int e, .int b, .int n] := by
  intro N μ d c hd hc hN hrel
  refine MW_of (by decide) [some (.ref 0), some (.int k), some (.int a), some (.int e), some (.int b), some (.int n), none, none] rfl (Nat.le_of_ble_eq_true rfl) ?_
  refine wa_iload_n dX5_copy_0 rfl ?_
  refine wa_callS1 (k' := kX5_isSheet) (d' := 0) dX5_copy_1 lmX5_44 ksX5_isSheet (by decide) (by omega) (Nat.le_of_ble_eq_true rfl) ?_
  refine wp_X5_isSheet (fun j_ hj_ hk_ => ?_) (fun hoob => ?_)
  · skip
    obtain ⟨n_, s1_, s2_, s3_, s4_, s5_, s6_, s7_, s8_, s9_, s10_⟩ := hrel.1 j_ (by omega); have s5_ := s5_ (by omega); have hS_ := isS_k (show j_ < 9 by omega); have hsh_ := (isS_sh hS_).1
    refine wa_if_eqF 14 dX5_copy_4 (by decide) (by decide) ?_
    refine wa_iload_n dX5_copy_7 rfl ?_
    refine wa_callS1 (k' := kX5_isSheet) (d' := 0) dX5_copy_8 lmX5_44 ksX5_isSheet (by decide) (by omega) (Nat.le_of_ble_eq_true rfl) ?_
    refine wp_X5_isSheet (fun u_ hu_ he_ => ?_) (fun hoob => ?_)
    · skip
      obtain ⟨m_, t1_, t2_, t3_, t4_, t5_, t6_, t7_, t8_, t9_, t10_⟩ := hrel.1 u_ (by omega); have t5_ := t5_ (by omega); have hT_ := isS_k (show u_ < 9 by omega); have hsht_ := (isS_sh hT_).1
      refine wa_if_neT 17 dX5_copy_11 (by decide) (by decide) ?_
      refine wa_aload_n dX5_copy_17 rfl ?_
      refine wa_getR dX5_copy_18 fgX5_11 (by first | assumption | rfl) (by rfl) ?_
      refine wa_iload_n dX5_copy_21 rfl ?_
      refine wa_aalS _ dX5_copy_22 (by first | assumption | rfl) (by exact hk_) (by omega) ?_
      rw [show arf 1 j_ = 7 + 4 * j_ from rfl]
      refine wa_astore dX5_copy_23 (by decide) ?_
      refine wa_aload_n dX5_copy_25 rfl ?_
      refine wa_getR dX5_copy_26 fgX5_11 (by first | assumption | rfl) (by rfl) ?_
      refine wa_iload_n dX5_copy_29 rfl ?_
      refine wa_aalS _ dX5_copy_30 (by first | assumption | rfl) (by exact he_) (by omega) ?_
      rw [show arf 1 u_ = 7 + 4 * u_ from rfl]
      refine wa_astore dX5_copy_31 (by decide) ?_
      refine wa_aload dX5_copy_33 rfl ?_
      refine wa_callV0 (k' := kX3_isThere) (d' := 0) dX5_copy_35 lmX5_87 kvX3_isThere (by first | assumption | rfl) (by rfl) (by decide) (by omega) (Nat.le_of_ble_eq_true rfl) ?_
      refine wp_X3_isThere hS_ s1_ (fun h_ => ?_) (fun h_ => ?_)
      · skip
        refine wa_if_eqF 49 dX5_copy_38 (by decide) (by decide) ?_
        refine wa_aload dX5_copy_41 rfl ?_
        refine wa_callV0 (k' := kX3_isThere) (d' := 0) dX5_copy_43 lmX5_87 kvX3_isThere (by first | assumption | rfl) (by rfl) (by decide) (by omega) (Nat.le_of_ble_eq_true rfl) ?_
        refine wp_X3_isThere hT_ t1_ (fun h2_ => ?_) (fun h2_ => ?_)
        · skip
          refine wa_if_neT 52 dX5_copy_46 (by decide) (by decide) ?_
          refine wa_aload dX5_copy_52 rfl ?_
          refine wa_callV0 (k' := kX3_sort) (d' := 0) dX5_copy_54 lmX5_91 kvX3_sort (by first | assumption | rfl) (by rfl) (by decide) (by omega) (Nat.le_of_ble_eq_true rfl) ?_
          refine wp_X3_sort hS_ ?_
          refine wa_aload dX5_copy_57 rfl ?_
          refine wa_callV0 (k' := kX3_sort) (d' := 0) dX5_copy_59 lmX5_91 kvX3_sort (by first | assumption | rfl) (by rfl) (by decide) (by omega) (Nat.le_of_ble_eq_true rfl) ?_
          refine wp_X3_sort hT_ ?_
          refine wa_ic_eq 68 dX5_copy_62 (by decide) (fun c62_7 => ?_) (fun c62_7 => ?_)
          · try simp (disch := omega) only [nI_toInt, Int32.toInt_toInt64] at c62_7
            refine wa_iload dX5_copy_68 rfl ?_
            refine wa_if_ge 76 dX5_copy_70 (by decide) (fun c70_8 => ?_) (fun c70_8 => ?_)
            · try simp (disch := omega) only [nI_toInt, Int32.toInt_toInt64] at c70_8
              refine wa_aload dX5_copy_76 rfl ?_
              refine wa_iload_n dX5_copy_78 rfl ?_
              refine wa_iload dX5_copy_79 rfl ?_
              refine wa_callV2 (k' := kX3_hasStretch) (d' := 0) dX5_copy_81 lmX5_94 kvX3_hasStretch (by first | assumption | rfl) (by rfl) (by decide) (by omega) (Nat.le_of_ble_eq_true rfl) ?_
              refine wp_X3_hasStretch (n := n_) hS_ s3_ s4_ (by omega) (fun a_ n2_ ha_ hn_ han_ => ?_) (fun hz_ => ?_)
              · skip
                refine wa_if_eqF 99 dX5_copy_84 (by decide) (by decide) ?_
                refine wa_aload dX5_copy_87 rfl ?_
                refine wa_iload dX5_copy_89 rfl ?_
                refine wa_iload dX5_copy_91 rfl ?_
                refine wa_callV2 (k' := kX3_hasStretch) (d' := 0) dX5_copy_93 lmX5_94 kvX3_hasStretch (by first | assumption | rfl) (by rfl) (by decide) (by omega) (Nat.le_of_ble_eq_true rfl) ?_
                refine wp_X3_hasStretch (n := m_) hT_ t3_ t4_ (by omega) (fun b_ n3_ hb_ hn2_ hbn_ => ?_) (fun hz_ => ?_)
                · skip
                  refine wa_if_neT 102 dX5_copy_96 (by decide) (by decide) ?_
                  obtain rfl : n2_ = n3_ := nI_eq3 (hn_.symm.trans hn2_) (by omega) (by omega)
                  refine wa_aload dX5_copy_102 rfl ?_
                  refine wa_aload dX5_copy_104 rfl ?_
                  refine wa_iload_n dX5_copy_106 rfl ?_
                  refine wa_iload dX5_copy_107 rfl ?_
                  refine wa_iload dX5_copy_109 rfl ?_
                  refine wa_callV4 (k' := kX3_take) (d' := 1) dX5_copy_111 lmX5_98 kvX3_take (by first | assumption | rfl) (by rfl) (by decide) (by omega) (Nat.le_of_ble_eq_true rfl) ?_
                  rw [ha_, hb_, hn_]; refine wp_X3_take (a := a_) (b := b_) (m := n2_) hT_ hS_ (by omega) (by omega) (by omega) ?_
                  refine wa_iload dX5_copy_114 rfl ?_
                  refine wa_iret dX5_copy_116 rfl ?_
                  rw [hk_, he_]
                  refine MW_of (by decide) [some (.ref 73), some (.int (nI j_)), some (.int (nI a_)), some (.int (nI u_)), some (.int (nI b_)), some (.int (nI n2_)), none] rfl (Nat.le_of_ble_eq_true rfl) ?_
                  refine wa_iload_n dX6_copy_0 rfl ?_
                  refine wa_i2l dX6_copy_1 ?_
                  refine wa_lconst (0) dX6_copy_2 (by decide) ?_
                  refine wa_ldc2 (7) dX6_copy_3 lcX6_58 ?_
                  refine wa_callS3 (k' := kX6_in) (d' := 0) dX6_copy_6 lmX6_60 ksX6_in (by decide) (by omega) (Nat.le_of_ble_eq_true rfl) ?_
                  refine in8_1 hj_ ?_
                  refine wa_if_eqF 24 dX6_copy_9 (by decide) (by decide) ?_
                  refine wa_iload_n dX6_copy_12 rfl ?_
                  refine wa_i2l dX6_copy_13 ?_
                  refine wa_lconst (0) dX6_copy_14 (by decide) ?_
                  refine wa_ldc2 (7) dX6_copy_15 lcX6_58 ?_
                  refine wa_callS3 (k' := kX6_in) (d' := 0) dX6_copy_18 lmX6_60 ksX6_in (by decide) (by omega) (Nat.le_of_ble_eq_true rfl) ?_
                  refine in8_1 hu_ ?_
                  refine wa_if_neT 27 dX6_copy_21 (by decide) (by decide) ?_
                  refine wa_aload_n dX6_copy_27 rfl ?_
                  refine wa_getR dX6_copy_28 fgX6_7 (by first | assumption | rfl) (by rfl) ?_
                  refine wa_iload_n dX6_copy_31 rfl ?_
                  refine wa_zald _ dX6_copy_32 (by first | assumption | rfl) (by first | with_reducible rfl | with_reducible assumption | with_reducible exact ix_ma _ _ _ | with_reducible exact ix_maa _ _ _ _ | with_reducible exact ix_a _ _ | with_reducible exact ix_mama _ _ _ _ _) (by omega) ?_
                  refine wa_if_eq 45 dX6_copy_33 (by decide) (fun c33_3 => ?_) (fun c33_3 => ?_)
                  · try simp (disch := omega) only [nI_toInt, Int32.toInt_toInt64, not_true_eq_false, bI_off, s5_, t5_, s6_, t6_, s7_, t7_, z_add64, h_, h2_] at c33_3
                    try (exfalso; omega)
                    all_goals
                      skip
                      refine wa_bipush (-10) dX6_copy_45 (by decide) ?_
                      refine wa_iret dX6_copy_47 rfl ?_
                      skip
                  · try simp (disch := omega) only [nI_toInt, Int32.toInt_toInt64, not_true_eq_false, bI_off, s5_, t5_, s6_, t6_, s7_, t7_, z_add64, h_, h2_] at c33_3
                    try (exfalso; omega)
                    all_goals
                      skip
                      refine wa_aload_n dX6_copy_36 rfl ?_
                      refine wa_getR dX6_copy_37 fgX6_7 (by first | assumption | rfl) (by rfl) ?_
                      refine wa_iload_n dX6_copy_40 rfl ?_
                      refine wa_zald _ dX6_copy_41 (by first | assumption | rfl) (by first | with_reducible rfl | with_reducible assumption | with_reducible exact ix_ma _ _ _ | with_reducible exact ix_maa _ _ _ _ | with_reducible exact ix_a _ _ | with_reducible exact ix_mama _ _ _ _ _) (by omega) ?_
                      refine wa_if_ne 48 dX6_copy_42 (by decide) (fun c42_4 => ?_) (fun c42_4 => ?_)
                      · try simp (disch := omega) only [nI_toInt, Int32.toInt_toInt64, not_true_eq_false, bI_off, s5_, t5_, s6_, t6_, s7_, t7_, z_add64, h_, h2_] at c42_4
                        try (exfalso; omega)
                        all_goals
                          skip
                          refine wa_aload_n dX6_copy_48 rfl ?_
                          refine wa_getR dX6_copy_49 fgX6_13 (by first | assumption | rfl) (by rfl) ?_
                          refine wa_iload_n dX6_copy_52 rfl ?_
                          refine wa_iald _ dX6_copy_53 (by first | assumption | rfl) (by first | with_reducible rfl | with_reducible assumption | with_reducible exact ix_ma _ _ _ | with_reducible exact ix_maa _ _ _ _ | with_reducible exact ix_a _ _ | with_reducible exact ix_mama _ _ _ _ _) (by omega) ?_
                          refine wa_aload_n dX6_copy_54 rfl ?_
                          refine wa_getR dX6_copy_55 fgX6_13 (by first | assumption | rfl) (by rfl) ?_
                          refine wa_iload_n dX6_copy_58 rfl ?_
                          refine wa_iald _ dX6_copy_59 (by first | assumption | rfl) (by first | with_reducible rfl | with_reducible assumption | with_reducible exact ix_ma _ _ _ | with_reducible exact ix_maa _ _ _ _ | with_reducible exact ix_a _ _ | with_reducible exact ix_mama _ _ _ _ _) (by omega) ?_
                          refine wa_ic_eq 66 dX6_copy_60 (by decide) (fun c60_5 => ?_) (fun c60_5 => ?_)
                          · try simp (disch := omega) only [nI_toInt, Int32.toInt_toInt64, not_true_eq_false, bI_off, s5_, t5_, s6_, t6_, s7_, t7_, z_add64, h_, h2_] at c60_5
                            try (exfalso; omega)
                            all_goals
                              skip
                              refine wa_iload dX6_copy_66 rfl ?_
                              refine wa_if_ge 74 dX6_copy_68 (by decide) (fun c68_6 => ?_) (fun c68_6 => ?_)
                              · try simp (disch := omega) only [nI_toInt, Int32.toInt_toInt64, not_true_eq_false, bI_off, s5_, t5_, s6_, t6_, s7_, t7_, z_add64, h_, h2_] at c68_6
                                try (exfalso; omega)
                                all_goals
                                  skip
                                  refine wa_iload_n dX6_copy_74 rfl ?_
                                  refine wa_if_lt 118 dX6_copy_75 (by decide) (fun c75_7 => ?_) (fun c75_7 => ?_)
                                  · try simp (disch := omega) only [nI_toInt, Int32.toInt_toInt64, not_true_eq_false, bI_off, s5_, t5_, s6_, t6_, s7_, t7_, z_add64, h_, h2_] at c75_7
                                    try (exfalso; omega)
                                    all_goals
                                      skip
                                      refine wa_bipush (-13) dX6_copy_118 (by decide) ?_
                                      refine wa_iret dX6_copy_120 rfl ?_
                                      skip
                                  · try simp (disch := omega) only [nI_toInt, Int32.toInt_toInt64, not_true_eq_false, bI_off, s5_, t5_, s6_, t6_, s7_, t7_, z_add64, h_, h2_] at c75_7
                                    try (exfalso; omega)
                                    all_goals
                                      skip
                                      refine wa_iload dX6_copy_78 rfl ?_
                                      refine wa_if_lt 118 dX6_copy_80 (by decide) (fun c80_8 => ?_) (fun c80_8 => ?_)
                                      · try simp (disch := omega) only [nI_toInt, Int32.toInt_toInt64, not_true_eq_false, bI_off, s5_, t5_, s6_, t6_, s7_, t7_, z_add64, h_, h2_] at c80_8
                                        try (exfalso; omega)
                                        all_goals
                                          skip
                                          refine wa_bipush (-13) dX6_copy_118 (by decide) ?_
                                          refine wa_iret dX6_copy_120 rfl ?_
                                          skip
                                      · try simp (disch := omega) only [nI_toInt, Int32.toInt_toInt64, not_true_eq_false, bI_off, s5_, t5_, s6_, t6_, s7_, t7_, z_add64, h_, h2_] at c80_8
                                        try (exfalso; omega)
                                        all_goals
                                          skip
                                          refine wa_iload_n dX6_copy_83 rfl ?_
                                          refine wa_i2l dX6_copy_84 ?_
                                          refine wa_iload dX6_copy_85 rfl ?_
                                          refine wa_i2l dX6_copy_87 ?_
                                          refine wa_ladd dX6_copy_88 ?_
                                          refine wa_aload_n dX6_copy_89 rfl ?_
                                          refine wa_getR dX6_copy_90 fgX6_17 (by first | assumption | rfl) (by rfl) ?_
                                          refine wa_iload_n dX6_copy_93 rfl ?_
                                          refine wa_iald _ dX6_copy_94 (by first | assumption | rfl) (by first | with_reducible rfl | with_reducible assumption | with_reducible exact ix_ma _ _ _ | with_reducible exact ix_maa _ _ _ _ | with_reducible exact ix_a _ _ | with_reducible exact ix_mama _ _ _ _ _) (by omega) ?_
                                          refine wa_i2l dX6_copy_95 ?_
                                          refine wa_lc_gt 118 dX6_copy_96 dX6_copy_97 (by decide) (fun c96_9 => ?_) (fun c96_9 => ?_)
                                          · try simp (disch := omega) only [nI_toInt, Int32.toInt_toInt64, not_true_eq_false, bI_off, s5_, t5_, s6_, t6_, s7_, t7_, z_add64, h_, h2_] at c96_9
                                            try (exfalso; omega)
                                            all_goals
                                              skip
                                              refine wa_bipush (-13) dX6_copy_118 (by decide) ?_
                                              refine wa_iret dX6_copy_120 rfl ?_
                                              skip
                                          · try simp (disch := omega) only [nI_toInt, Int32.toInt_toInt64, not_true_eq_false, bI_off, s5_, t5_, s6_, t6_, s7_, t7_, z_add64, h_, h2_] at c96_9
                                            try (exfalso; omega)
                                            all_goals
                                              skip
                                              refine wa_iload dX6_copy_100 rfl ?_
                                              refine wa_i2l dX6_copy_102 ?_
                                              refine wa_iload dX6_copy_103 rfl ?_
                                              refine wa_i2l dX6_copy_105 ?_
                                              refine wa_ladd dX6_copy_106 ?_
                                              refine wa_aload_n dX6_copy_107 rfl ?_
                                              refine wa_getR dX6_copy_108 fgX6_17 (by first | assumption | rfl) (by rfl) ?_
                                              refine wa_iload_n dX6_copy_111 rfl ?_
                                              refine wa_iald _ dX6_copy_112 (by first | assumption | rfl) (by first | with_reducible rfl | with_reducible assumption | with_reducible exact ix_ma _ _ _ | with_reducible exact ix_maa _ _ _ _ | with_reducible exact ix_a _ _ | with_reducible exact ix_mama _ _ _ _ _) (by omega) ?_
                                              refine wa_i2l dX6_copy_113 ?_
                                              refine wa_lc_le 121 dX6_copy_114 dX6_copy_115 (by decide) (fun c114_10 => ?_) (fun c114_10 => ?_)
                                              · try simp (disch := omega) only [nI_toInt, Int32.toInt_toInt64, not_true_eq_false, bI_off, s5_, t5_, s6_, t6_, s7_, t7_, z_add64, h_, h2_] at c114_10
                                                try (exfalso; omega)
                                                all_goals
                                                  skip
                                                  refine wa_copy (a := a_) (b := b_) (n := n2_) hj_ hu_ (by omega) (by omega) (fun F_ G_ => ⟨rfl, ?_⟩)
                                                  refine Rel_S (k := u_) (n := m_) hrel ?rels ?fs ?fr ?fp ?fw ?fm
                                                  case fs =>
                                                    intro j_ hj_ hjk_
                                                    refine ⟨?_, ?_, ?_, ?_, ?_, ?_, fun i_ hi_ => ?_, fun i_ hi_ => ?_⟩
                                                    all_goals
                                                      simp (disch := omega) only [sI_off, bI_off, sL_off, bL_off, r1l, r2l, rb1l, rb2l, r1m, r2m, rb1e, rb2e,pwI_no]
                                                  case fr =>
                                                    intro r_ hr_
                                                    refine ⟨?_, ?_, ?_, fun i_ hi_ => ?_⟩
                                                    all_goals
                                                      simp (disch := omega) only [sI_off, bI_off, sL_off, bL_off, r1l, r2l, rb1l, rb2l, r1m, r2m, rb1e, rb2e,pwI_no]
                                                  case fp =>
                                                    refine ⟨?_, ?_, ?_, ?_, ?_⟩
                                                    all_goals
                                                      simp (disch := omega) only [sI_off, bI_off, sL_off, bL_off, r1l, r2l, rb1l, rb2l, r1m, r2m, rb1e, rb2e,pwI_no]
                                                  case fw =>
                                                    refine ⟨?_, fun q_ ha_ hb_ => ?_⟩
                                                    all_goals
                                                      simp (disch := omega) only [sI_off, bI_off, sL_off, bL_off, r1l, r2l, rb1l, rb2l, r1m, r2m, rb1e, rb2e,pwI_no]
                                                  case fm =>
                                                    refine ⟨?_, ?_, fun q_ ha_ hb_ => ?_⟩
                                                    all_goals
                                                      simp (disch := omega) only [sI_off, bI_off, sL_off, bL_off, r1l, r2l, rb1l, rb2l, r1m, r2m, rb1e, rb2e,pwI_no]
                                                  case rels =>
                                                    refine ⟨by simp (disch := omega) only [sI_off, bI_off, sL_off, bL_off, r1l, r2l, rb1l, rb2l, r1m, r2m, rb1e, rb2e, r1e, r2e]; exact t1_, by simp (disch := omega) only [sI_off, bI_off, sL_off, bL_off, r1l, r2l, rb1l, rb2l, r1m, r2m, rb1e, rb2e, r1e, r2e]; exact t2_, by simp (disch := omega) only [sI_off, bI_off, sL_off, bL_off, r1l, r2l, rb1l, rb2l, r1m, r2m, rb1e, rb2e, r1e, r2e]; exact t3_, t4_, fun _ => by simp (disch := omega) only [sI_off, bI_off, sL_off, bL_off, r1l, r2l, rb1l, rb2l, r1m, r2m, rb1e, rb2e, r1e, r2e]; exact t5_, by simp (disch := omega) only [sI_off, bI_off, sL_off, bL_off, r1l, r2l, rb1l, rb2l, r1m, r2m, rb1e, rb2e, r1e, r2e]; exact t6_, by simp (disch := omega) only [sI_off, bI_off, sL_off, bL_off, r1l, r2l, rb1l, rb2l, r1m, r2m, rb1e, rb2e, r1e, r2e]; exact t7_, fun i_ hb_ hz_ => ?_, fun i_ hb_ => ?_, fun i_ hb_ => ?_⟩
                                                    · revert hz_
                                                      simp (disch := omega) only [sI_off, bI_off, sL_off, bL_off, r1l, r2l, rb1l, rb2l, r1m, r2m, rb1e, rb2e, r1e, r2e]
                                                      intro hz_
                                                      by_cases hin_ : b_ ≤ i_ ∧ i_ < b_ + n2_
                                                      · rw [cpI_in hin_.1 hin_.2] at hz_ ⊢
                                                        rw [pwI_at (by omega) (by omega)]
                                                        have e_ := s8_ (a_ + (i_ - b_)) (by omega) hz_
                                                        rw [← e_]
                                                        show μ.1 78 (64 * j_ + a_ + (64 * u_ + i_ - (64 * u_ + b_))) = _
                                                        rw [show 64 * u_ + i_ - (64 * u_ + b_) = i_ - b_ by omega, Nat.add_assoc]
                                                      · rw [cpI_out hin_] at hz_ ⊢
                                                        rw [pwI_no (by omega)]
                                                        exact t8_ i_ hb_ hz_
                                                    · simp (disch := omega) only [sI_off, bI_off, sL_off, bL_off, r1l, r2l, rb1l, rb2l, r1m, r2m, rb1e, rb2e, r1e, r2e]
                                                      by_cases hin_ : b_ ≤ i_ ∧ i_ < b_ + n2_
                                                      · rw [cpI_in hin_.1 hin_.2, pwI_at (by omega) (by omega), ← s9_ (a_ + (i_ - b_)) (by omega)]
                                                        show μ.1 77 (64 * j_ + a_ + (64 * u_ + i_ - (64 * u_ + b_))) = _
                                                        rw [show 64 * u_ + i_ - (64 * u_ + b_) = i_ - b_ by omega, Nat.add_assoc]
                                                      · rw [cpI_out hin_, pwI_no (by omega)]
                                                        exact t9_ i_ hb_
                                                    · simp (disch := omega) only [sI_off, bI_off, sL_off, bL_off, r1l, r2l, rb1l, rb2l, r1m, r2m, rb1e, rb2e, r1e, r2e]
                                                      by_cases hin_ : b_ ≤ i_ ∧ i_ < b_ + n2_
                                                      · rw [cpI_in hin_.1 hin_.2]
                                                        exact s10_ _ (by omega)
                                                      · rw [cpI_out hin_]
                                                        exact t10_ i_ hb_
                                              · try simp (disch := omega) only [nI_toInt, Int32.toInt_toInt64, not_true_eq_false, bI_off, s5_, t5_, s6_, t6_, s7_, t7_, z_add64, h_, h2_] at c114_10
                                                try (exfalso; omega)
                                                all_goals
                                                  skip
                                                  refine wa_bipush (-13) dX6_copy_118 (by decide) ?_
                                                  refine wa_iret dX6_copy_120 rfl ?_
                                                  skip
                              · try simp (disch := omega) only [nI_toInt, Int32.toInt_toInt64, not_true_eq_false, bI_off, s5_, t5_, s6_, t6_, s7_, t7_, z_add64, h_, h2_] at c68_6
                                try (exfalso; omega)
                                all_goals
                                  skip
                                  refine wa_bipush (-12) dX6_copy_71 (by decide) ?_
                                  refine wa_iret dX6_copy_73 rfl ?_
                                  skip
                          · try simp (disch := omega) only [nI_toInt, Int32.toInt_toInt64, not_true_eq_false, bI_off, s5_, t5_, s6_, t6_, s7_, t7_, z_add64, h_, h2_] at c60_5
                            try (exfalso; omega)
                            all_goals
                              skip
                              refine wa_bipush (-11) dX6_copy_63 (by decide) ?_
                              refine wa_iret dX6_copy_65 rfl ?_
                              skip
                      · try simp (disch := omega) only [nI_toInt, Int32.toInt_toInt64, not_true_eq_false, bI_off, s5_, t5_, s6_, t6_, s7_, t7_, z_add64, h_, h2_] at c42_4
                        try (exfalso; omega)
                        all_goals
                          skip
                          refine wa_bipush (-10) dX6_copy_45 (by decide) ?_
                          refine wa_iret dX6_copy_47 rfl ?_
                          skip
                · skip
                  refine wa_if_neF 102 dX5_copy_96 (by decide) (by decide) ?_
                  refine wa_bipush (-13) dX5_copy_99 (by decide) ?_
                  refine wa_iret dX5_copy_101 rfl ?_
                  skip
                  rw [hk_, he_]
                  refine MW_of (by decide) [some (.ref 73), some (.int (nI j_)), some (.int a), some (.int (nI u_)), some (.int b), some (.int n), none] rfl (Nat.le_of_ble_eq_true rfl) ?_
                  refine wa_iload_n dX6_copy_0 rfl ?_
                  refine wa_i2l dX6_copy_1 ?_
                  refine wa_lconst (0) dX6_copy_2 (by decide) ?_
                  refine wa_ldc2 (7) dX6_copy_3 lcX6_58 ?_
                  refine wa_callS3 (k' := kX6_in) (d' := 0) dX6_copy_6 lmX6_60 ksX6_in (by decide) (by omega) (Nat.le_of_ble_eq_true rfl) ?_
                  refine in8_1 hj_ ?_
                  refine wa_if_eqF 24 dX6_copy_9 (by decide) (by decide) ?_
                  refine wa_iload_n dX6_copy_12 rfl ?_
                  refine wa_i2l dX6_copy_13 ?_
                  refine wa_lconst (0) dX6_copy_14 (by decide) ?_
                  refine wa_ldc2 (7) dX6_copy_15 lcX6_58 ?_
                  refine wa_callS3 (k' := kX6_in) (d' := 0) dX6_copy_18 lmX6_60 ksX6_in (by decide) (by omega) (Nat.le_of_ble_eq_true rfl) ?_
                  refine in8_1 hu_ ?_
                  refine wa_if_neT 27 dX6_copy_21 (by decide) (by decide) ?_
                  refine wa_aload_n dX6_copy_27 rfl ?_
                  refine wa_getR dX6_copy_28 fgX6_7 (by first | assumption | rfl) (by rfl) ?_
                  refine wa_iload_n dX6_copy_31 rfl ?_
                  refine wa_zald _ dX6_copy_32 (by first | assumption | rfl) (by first | with_reducible rfl | with_reducible assumption | with_reducible exact ix_ma _ _ _ | with_reducible exact ix_maa _ _ _ _ | with_reducible exact ix_a _ _ | with_reducible exact ix_mama _ _ _ _ _) (by omega) ?_
                  refine wa_if_eq 45 dX6_copy_33 (by decide) (fun c33_3 => ?_) (fun c33_3 => ?_)
                  · try simp (disch := omega) only [nI_toInt, Int32.toInt_toInt64, not_true_eq_false, s5_, t5_, s6_, t6_, s7_, t7_, z_add64, h_, h2_] at c33_3
                    try (exfalso; omega)
                    all_goals
                      skip
                      refine wa_bipush (-10) dX6_copy_45 (by decide) ?_
                      refine wa_iret dX6_copy_47 rfl ?_
                      exact ⟨rfl, hrel.up⟩
                  · try simp (disch := omega) only [nI_toInt, Int32.toInt_toInt64, not_true_eq_false, s5_, t5_, s6_, t6_, s7_, t7_, z_add64, h_, h2_] at c33_3
                    try (exfalso; omega)
                    all_goals
                      skip
                      refine wa_aload_n dX6_copy_36 rfl ?_
                      refine wa_getR dX6_copy_37 fgX6_7 (by first | assumption | rfl) (by rfl) ?_
                      refine wa_iload_n dX6_copy_40 rfl ?_
                      refine wa_zald _ dX6_copy_41 (by first | assumption | rfl) (by first | with_reducible rfl | with_reducible assumption | with_reducible exact ix_ma _ _ _ | with_reducible exact ix_maa _ _ _ _ | with_reducible exact ix_a _ _ | with_reducible exact ix_mama _ _ _ _ _) (by omega) ?_
                      refine wa_if_ne 48 dX6_copy_42 (by decide) (fun c42_4 => ?_) (fun c42_4 => ?_)
                      · try simp (disch := omega) only [nI_toInt, Int32.toInt_toInt64, not_true_eq_false, s5_, t5_, s6_, t6_, s7_, t7_, z_add64, h_, h2_] at c42_4
                        try (exfalso; omega)
                        all_goals
                          skip
                          refine wa_aload_n dX6_copy_48 rfl ?_
                          refine wa_getR dX6_copy_49 fgX6_13 (by first | assumption | rfl) (by rfl) ?_
                          refine wa_iload_n dX6_copy_52 rfl ?_
                          refine wa_iald _ dX6_copy_53 (by first | assumption | rfl) (by first | with_reducible rfl | with_reducible assumption | with_reducible exact ix_ma _ _ _ | with_reducible exact ix_maa _ _ _ _ | with_reducible exact ix_a _ _ | with_reducible exact ix_mama _ _ _ _ _) (by omega) ?_
                          refine wa_aload_n dX6_copy_54 rfl ?_
                          refine wa_getR dX6_copy_55 fgX6_13 (by first | assumption | rfl) (by rfl) ?_
                          refine wa_iload_n dX6_copy_58 rfl ?_
                          refine wa_iald _ dX6_copy_59 (by first | assumption | rfl) (by first | with_reducible rfl | with_reducible assumption | with_reducible exact ix_ma _ _ _ | with_reducible exact ix_maa _ _ _ _ | with_reducible exact ix_a _ _ | with_reducible exact ix_mama _ _ _ _ _) (by omega) ?_
                          refine wa_ic_eq 66 dX6_copy_60 (by decide) (fun c60_5 => ?_) (fun c60_5 => ?_)
                          · try simp (disch := omega) only [nI_toInt, Int32.toInt_toInt64, not_true_eq_false, s5_, t5_, s6_, t6_, s7_, t7_, z_add64, h_, h2_] at c60_5
                            try (exfalso; omega)
                            all_goals
                              skip
                              refine wa_iload dX6_copy_66 rfl ?_
                              refine wa_if_ge 74 dX6_copy_68 (by decide) (fun c68_6 => ?_) (fun c68_6 => ?_)
                              · try simp (disch := omega) only [nI_toInt, Int32.toInt_toInt64, not_true_eq_false, s5_, t5_, s6_, t6_, s7_, t7_, z_add64, h_, h2_] at c68_6
                                try (exfalso; omega)
                                all_goals
                                  skip
                                  refine wa_iload_n dX6_copy_74 rfl ?_
                                  refine wa_if_lt 118 dX6_copy_75 (by decide) (fun c75_7 => ?_) (fun c75_7 => ?_)
                                  · try simp (disch := omega) only [nI_toInt, Int32.toInt_toInt64, not_true_eq_false, s5_, t5_, s6_, t6_, s7_, t7_, z_add64, h_, h2_] at c75_7
                                    try (exfalso; omega)
                                    all_goals
                                      skip
                                      refine wa_bipush (-13) dX6_copy_118 (by decide) ?_
                                      refine wa_iret dX6_copy_120 rfl ?_
                                      exact ⟨rfl, hrel.up⟩
                                  · try simp (disch := omega) only [nI_toInt, Int32.toInt_toInt64, not_true_eq_false, s5_, t5_, s6_, t6_, s7_, t7_, z_add64, h_, h2_] at c75_7
                                    try (exfalso; omega)
                                    all_goals
                                      skip
                                      refine wa_iload dX6_copy_78 rfl ?_
                                      refine wa_if_lt 118 dX6_copy_80 (by decide) (fun c80_8 => ?_) (fun c80_8 => ?_)
                                      · try simp (disch := omega) only [nI_toInt, Int32.toInt_toInt64, not_true_eq_false, s5_, t5_, s6_, t6_, s7_, t7_, z_add64, h_, h2_] at c80_8
                                        try (exfalso; omega)
                                        all_goals
                                          skip
                                          refine wa_bipush (-13) dX6_copy_118 (by decide) ?_
                                          refine wa_iret dX6_copy_120 rfl ?_
                                          exact ⟨rfl, hrel.up⟩
                                      · try simp (disch := omega) only [nI_toInt, Int32.toInt_toInt64, not_true_eq_false, s5_, t5_, s6_, t6_, s7_, t7_, z_add64, h_, h2_] at c80_8
                                        try (exfalso; omega)
                                        all_goals
                                          skip
                                          refine wa_iload_n dX6_copy_83 rfl ?_
                                          refine wa_i2l dX6_copy_84 ?_
                                          refine wa_iload dX6_copy_85 rfl ?_
                                          refine wa_i2l dX6_copy_87 ?_
                                          refine wa_ladd dX6_copy_88 ?_
                                          refine wa_aload_n dX6_copy_89 rfl ?_
                                          refine wa_getR dX6_copy_90 fgX6_17 (by first | assumption | rfl) (by rfl) ?_
                                          refine wa_iload_n dX6_copy_93 rfl ?_
                                          refine wa_iald _ dX6_copy_94 (by first | assumption | rfl) (by first | with_reducible rfl | with_reducible assumption | with_reducible exact ix_ma _ _ _ | with_reducible exact ix_maa _ _ _ _ | with_reducible exact ix_a _ _ | with_reducible exact ix_mama _ _ _ _ _) (by omega) ?_
                                          refine wa_i2l dX6_copy_95 ?_
                                          refine wa_lc_gt 118 dX6_copy_96 dX6_copy_97 (by decide) (fun c96_9 => ?_) (fun c96_9 => ?_)
                                          · try simp (disch := omega) only [nI_toInt, Int32.toInt_toInt64, not_true_eq_false, s5_, t5_, s6_, t6_, s7_, t7_, z_add64, h_, h2_] at c96_9
                                            try (exfalso; omega)
                                            all_goals
                                              skip
                                              refine wa_bipush (-13) dX6_copy_118 (by decide) ?_
                                              refine wa_iret dX6_copy_120 rfl ?_
                                              exact ⟨rfl, hrel.up⟩
                                          · try simp (disch := omega) only [nI_toInt, Int32.toInt_toInt64, not_true_eq_false, s5_, t5_, s6_, t6_, s7_, t7_, z_add64, h_, h2_] at c96_9
                                            try (exfalso; omega)
                                            all_goals
                                              skip
                                              refine wa_iload dX6_copy_100 rfl ?_
                                              refine wa_i2l dX6_copy_102 ?_
                                              refine wa_iload dX6_copy_103 rfl ?_
                                              refine wa_i2l dX6_copy_105 ?_
                                              refine wa_ladd dX6_copy_106 ?_
                                              refine wa_aload_n dX6_copy_107 rfl ?_
                                              refine wa_getR dX6_copy_108 fgX6_17 (by first | assumption | rfl) (by rfl) ?_
                                              refine wa_iload_n dX6_copy_111 rfl ?_
                                              refine wa_iald _ dX6_copy_112 (by first | assumption | rfl) (by first | with_reducible rfl | with_reducible assumption | with_reducible exact ix_ma _ _ _ | with_reducible exact ix_maa _ _ _ _ | with_reducible exact ix_a _ _ | with_reducible exact ix_mama _ _ _ _ _) (by omega) ?_
                                              refine wa_i2l dX6_copy_113 ?_
                                              refine wa_lc_le 121 dX6_copy_114 dX6_copy_115 (by decide) (fun c114_10 => ?_) (fun c114_10 => ?_)
                                              · try simp (disch := omega) only [nI_toInt, Int32.toInt_toInt64, not_true_eq_false, s5_, t5_, s6_, t6_, s7_, t7_, z_add64, h_, h2_] at c114_10
                                                try (exfalso; omega)
                                                all_goals
                                                  skip
                                                  skip
                                              · try simp (disch := omega) only [nI_toInt, Int32.toInt_toInt64, not_true_eq_false, s5_, t5_, s6_, t6_, s7_, t7_, z_add64, h_, h2_] at c114_10
                                                try (exfalso; omega)
                                                all_goals
                                                  skip
                                                  refine wa_bipush (-13) dX6_copy_118 (by decide) ?_
                                                  refine wa_iret dX6_copy_120 rfl ?_
                                                  exact ⟨rfl, hrel.up⟩
                              · try simp (disch := omega) only [nI_toInt, Int32.toInt_toInt64, not_true_eq_false, s5_, t5_, s6_, t6_, s7_, t7_, z_add64, h_, h2_] at c68_6
                                try (exfalso; omega)
                                all_goals
                                  skip
                                  refine wa_bipush (-12) dX6_copy_71 (by decide) ?_
                                  refine wa_iret dX6_copy_73 rfl ?_
                                  exact ⟨rfl, hrel.up⟩
                          · try simp (disch := omega) only [nI_toInt, Int32.toInt_toInt64, not_true_eq_false, s5_, t5_, s6_, t6_, s7_, t7_, z_add64, h_, h2_] at c60_5
                            try (exfalso; omega)
                            all_goals
                              skip
                              refine wa_bipush (-11) dX6_copy_63 (by decide) ?_
                              refine wa_iret dX6_copy_65 rfl ?_
                              exact ⟨rfl, hrel.up⟩
                      · try simp (disch := omega) only [nI_toInt, Int32.toInt_toInt64, not_true_eq_false, s5_, t5_, s6_, t6_, s7_, t7_, z_add64, h_, h2_] at c42_4
                        try (exfalso; omega)
                        all_goals
                          skip
                          refine wa_bipush (-10) dX6_copy_45 (by decide) ?_
                          refine wa_iret dX6_copy_47 rfl ?_
                          exact ⟨rfl, hrel.up⟩
              · skip
                refine wa_if_eqT 99 dX5_copy_84 (by decide) (by decide) ?_
                refine wa_bipush (-13) dX5_copy_99 (by decide) ?_
                refine wa_iret dX5_copy_101 rfl ?_
                skip
                rw [hk_, he_]
                refine MW_of (by decide) [some (.ref 73), some (.int (nI j_)), some (.int a), some (.int (nI u_)), some (.int b), some (.int n), none] rfl (Nat.le_of_ble_eq_true rfl) ?_
                refine wa_iload_n dX6_copy_0 rfl ?_
                refine wa_i2l dX6_copy_1 ?_
                refine wa_lconst (0) dX6_copy_2 (by decide) ?_
                refine wa_ldc2 (7) dX6_copy_3 lcX6_58 ?_
                refine wa_callS3 (k' := kX6_in) (d' := 0) dX6_copy_6 lmX6_60 ksX6_in (by decide) (by omega) (Nat.le_of_ble_eq_true rfl) ?_
                refine in8_1 hj_ ?_
                refine wa_if_eqF 24 dX6_copy_9 (by decide) (by decide) ?_
                refine wa_iload_n dX6_copy_12 rfl ?_
                refine wa_i2l dX6_copy_13 ?_
                refine wa_lconst (0) dX6_copy_14 (by decide) ?_
                refine wa_ldc2 (7) dX6_copy_15 lcX6_58 ?_
                refine wa_callS3 (k' := kX6_in) (d' := 0) dX6_copy_18 lmX6_60 ksX6_in (by decide) (by omega) (Nat.le_of_ble_eq_true rfl) ?_
                refine in8_1 hu_ ?_
                refine wa_if_neT 27 dX6_copy_21 (by decide) (by decide) ?_
                refine wa_aload_n dX6_copy_27 rfl ?_
                refine wa_getR dX6_copy_28 fgX6_7 (by first | assumption | rfl) (by rfl) ?_
                refine wa_iload_n dX6_copy_31 rfl ?_
                refine wa_zald _ dX6_copy_32 (by first | assumption | rfl) (by first | with_reducible rfl | with_reducible assumption | with_reducible exact ix_ma _ _ _ | with_reducible exact ix_maa _ _ _ _ | with_reducible exact ix_a _ _ | with_reducible exact ix_mama _ _ _ _ _) (by omega) ?_
                refine wa_if_eq 45 dX6_copy_33 (by decide) (fun c33_3 => ?_) (fun c33_3 => ?_)
                · try simp (disch := omega) only [nI_toInt, Int32.toInt_toInt64, not_true_eq_false, s5_, t5_, s6_, t6_, s7_, t7_, z_add64, h_, h2_] at c33_3
                  try (exfalso; omega)
                  all_goals
                    skip
                    refine wa_bipush (-10) dX6_copy_45 (by decide) ?_
                    refine wa_iret dX6_copy_47 rfl ?_
                    exact ⟨rfl, hrel.up⟩
                · try simp (disch := omega) only [nI_toInt, Int32.toInt_toInt64, not_true_eq_false, s5_, t5_, s6_, t6_, s7_, t7_, z_add64, h_, h2_] at c33_3
                  try (exfalso; omega)
                  all_goals
                    skip
                    refine wa_aload_n dX6_copy_36 rfl ?_
                    refine wa_getR dX6_copy_37 fgX6_7 (by first | assumption | rfl) (by rfl) ?_
                    refine wa_iload_n dX6_copy_40 rfl ?_
                    refine wa_zald _ dX6_copy_41 (by first | assumption | rfl) (by first | with_reducible rfl | with_reducible assumption | with_reducible exact ix_ma _ _ _ | with_reducible exact ix_maa _ _ _ _ | with_reducible exact ix_a _ _ | with_reducible exact ix_mama _ _ _ _ _) (by omega) ?_
                    refine wa_if_ne 48 dX6_copy_42 (by decide) (fun c42_4 => ?_) (fun c42_4 => ?_)
                    · try simp (disch := omega) only [nI_toInt, Int32.toInt_toInt64, not_true_eq_false, s5_, t5_, s6_, t6_, s7_, t7_, z_add64, h_, h2_] at c42_4
                      try (exfalso; omega)
                      all_goals
                        skip
                        refine wa_aload_n dX6_copy_48 rfl ?_
                        refine wa_getR dX6_copy_49 fgX6_13 (by first | assumption | rfl) (by rfl) ?_
                        refine wa_iload_n dX6_copy_52 rfl ?_
                        refine wa_iald _ dX6_copy_53 (by first | assumption | rfl) (by first | with_reducible rfl | with_reducible assumption | with_reducible exact ix_ma _ _ _ | with_reducible exact ix_maa _ _ _ _ | with_reducible exact ix_a _ _ | with_reducible exact ix_mama _ _ _ _ _) (by omega) ?_
                        refine wa_aload_n dX6_copy_54 rfl ?_
                        refine wa_getR dX6_copy_55 fgX6_13 (by first | assumption | rfl) (by rfl) ?_
                        refine wa_iload_n dX6_copy_58 rfl ?_
                        refine wa_iald _ dX6_copy_59 (by first | assumption | rfl) (by first | with_reducible rfl | with_reducible assumption | with_reducible exact ix_ma _ _ _ | with_reducible exact ix_maa _ _ _ _ | with_reducible exact ix_a _ _ | with_reducible exact ix_mama _ _ _ _ _) (by omega) ?_
                        refine wa_ic_eq 66 dX6_copy_60 (by decide) (fun c60_5 => ?_) (fun c60_5 => ?_)
                        · try simp (disch := omega) only [nI_toInt, Int32.toInt_toInt64, not_true_eq_false, s5_, t5_, s6_, t6_, s7_, t7_, z_add64, h_, h2_] at c60_5
                          try (exfalso; omega)
                          all_goals
                            skip
                            refine wa_iload dX6_copy_66 rfl ?_
                            refine wa_if_ge 74 dX6_copy_68 (by decide) (fun c68_6 => ?_) (fun c68_6 => ?_)
                            · try simp (disch := omega) only [nI_toInt, Int32.toInt_toInt64, not_true_eq_false, s5_, t5_, s6_, t6_, s7_, t7_, z_add64, h_, h2_] at c68_6
                              try (exfalso; omega)
                              all_goals
                                skip
                                refine wa_iload_n dX6_copy_74 rfl ?_
                                refine wa_if_lt 118 dX6_copy_75 (by decide) (fun c75_7 => ?_) (fun c75_7 => ?_)
                                · try simp (disch := omega) only [nI_toInt, Int32.toInt_toInt64, not_true_eq_false, s5_, t5_, s6_, t6_, s7_, t7_, z_add64, h_, h2_] at c75_7
                                  try (exfalso; omega)
                                  all_goals
                                    skip
                                    refine wa_bipush (-13) dX6_copy_118 (by decide) ?_
                                    refine wa_iret dX6_copy_120 rfl ?_
                                    exact ⟨rfl, hrel.up⟩
                                · try simp (disch := omega) only [nI_toInt, Int32.toInt_toInt64, not_true_eq_false, s5_, t5_, s6_, t6_, s7_, t7_, z_add64, h_, h2_] at c75_7
                                  try (exfalso; omega)
                                  all_goals
                                    skip
                                    refine wa_iload dX6_copy_78 rfl ?_
                                    refine wa_if_lt 118 dX6_copy_80 (by decide) (fun c80_8 => ?_) (fun c80_8 => ?_)
                                    · try simp (disch := omega) only [nI_toInt, Int32.toInt_toInt64, not_true_eq_false, s5_, t5_, s6_, t6_, s7_, t7_, z_add64, h_, h2_] at c80_8
                                      try (exfalso; omega)
                                      all_goals
                                        skip
                                        refine wa_bipush (-13) dX6_copy_118 (by decide) ?_
                                        refine wa_iret dX6_copy_120 rfl ?_
                                        exact ⟨rfl, hrel.up⟩
                                    · try simp (disch := omega) only [nI_toInt, Int32.toInt_toInt64, not_true_eq_false, s5_, t5_, s6_, t6_, s7_, t7_, z_add64, h_, h2_] at c80_8
                                      try (exfalso; omega)
                                      all_goals
                                        skip
                                        refine wa_iload_n dX6_copy_83 rfl ?_
                                        refine wa_i2l dX6_copy_84 ?_
                                        refine wa_iload dX6_copy_85 rfl ?_
                                        refine wa_i2l dX6_copy_87 ?_
                                        refine wa_ladd dX6_copy_88 ?_
                                        refine wa_aload_n dX6_copy_89 rfl ?_
                                        refine wa_getR dX6_copy_90 fgX6_17 (by first | assumption | rfl) (by rfl) ?_
                                        refine wa_iload_n dX6_copy_93 rfl ?_
                                        refine wa_iald _ dX6_copy_94 (by first | assumption | rfl) (by first | with_reducible rfl | with_reducible assumption | with_reducible exact ix_ma _ _ _ | with_reducible exact ix_maa _ _ _ _ | with_reducible exact ix_a _ _ | with_reducible exact ix_mama _ _ _ _ _) (by omega) ?_
                                        refine wa_i2l dX6_copy_95 ?_
                                        refine wa_lc_gt 118 dX6_copy_96 dX6_copy_97 (by decide) (fun c96_9 => ?_) (fun c96_9 => ?_)
                                        · try simp (disch := omega) only [nI_toInt, Int32.toInt_toInt64, not_true_eq_false, s5_, t5_, s6_, t6_, s7_, t7_, z_add64, h_, h2_] at c96_9
                                          try (exfalso; omega)
                                          all_goals
                                            skip
                                            refine wa_bipush (-13) dX6_copy_118 (by decide) ?_
                                            refine wa_iret dX6_copy_120 rfl ?_
                                            exact ⟨rfl, hrel.up⟩
                                        · try simp (disch := omega) only [nI_toInt, Int32.toInt_toInt64, not_true_eq_false, s5_, t5_, s6_, t6_, s7_, t7_, z_add64, h_, h2_] at c96_9
                                          try (exfalso; omega)
                                          all_goals
                                            skip
                                            refine wa_iload dX6_copy_100 rfl ?_
                                            refine wa_i2l dX6_copy_102 ?_
                                            refine wa_iload dX6_copy_103 rfl ?_
                                            refine wa_i2l dX6_copy_105 ?_
                                            refine wa_ladd dX6_copy_106 ?_
                                            refine wa_aload_n dX6_copy_107 rfl ?_
                                            refine wa_getR dX6_copy_108 fgX6_17 (by first | assumption | rfl) (by rfl) ?_
                                            refine wa_iload_n dX6_copy_111 rfl ?_
                                            refine wa_iald _ dX6_copy_112 (by first | assumption | rfl) (by first | with_reducible rfl | with_reducible assumption | with_reducible exact ix_ma _ _ _ | with_reducible exact ix_maa _ _ _ _ | with_reducible exact ix_a _ _ | with_reducible exact ix_mama _ _ _ _ _) (by omega) ?_
                                            refine wa_i2l dX6_copy_113 ?_
                                            refine wa_lc_le 121 dX6_copy_114 dX6_copy_115 (by decide) (fun c114_10 => ?_) (fun c114_10 => ?_)
                                            · try simp (disch := omega) only [nI_toInt, Int32.toInt_toInt64, not_true_eq_false, s5_, t5_, s6_, t6_, s7_, t7_, z_add64, h_, h2_] at c114_10
                                              try (exfalso; omega)
                                              all_goals
                                                skip
                                                skip
                                            · try simp (disch := omega) only [nI_toInt, Int32.toInt_toInt64, not_true_eq_false, s5_, t5_, s6_, t6_, s7_, t7_, z_add64, h_, h2_] at c114_10
                                              try (exfalso; omega)
                                              all_goals
                                                skip
                                                refine wa_bipush (-13) dX6_copy_118 (by decide) ?_
                                                refine wa_iret dX6_copy_120 rfl ?_
                                                exact ⟨rfl, hrel.up⟩
                            · try simp (disch := omega) only [nI_toInt, Int32.toInt_toInt64, not_true_eq_false, s5_, t5_, s6_, t6_, s7_, t7_, z_add64, h_, h2_] at c68_6
                              try (exfalso; omega)
                              all_goals
                                skip
                                refine wa_bipush (-12) dX6_copy_71 (by decide) ?_
                                refine wa_iret dX6_copy_73 rfl ?_
                                exact ⟨rfl, hrel.up⟩
                        · try simp (disch := omega) only [nI_toInt, Int32.toInt_toInt64, not_true_eq_false, s5_, t5_, s6_, t6_, s7_, t7_, z_add64, h_, h2_] at c60_5
                          try (exfalso; omega)
                          all_goals
                            skip
                            refine wa_bipush (-11) dX6_copy_63 (by decide) ?_
                            refine wa_iret dX6_copy_65 rfl ?_
                            exact ⟨rfl, hrel.up⟩
                    · try simp (disch := omega) only [nI_toInt, Int32.toInt_toInt64, not_true_eq_false, s5_, t5_, s6_, t6_, s7_, t7_, z_add64, h_, h2_] at c42_4
                      try (exfalso; omega)
                      all_goals
                        skip
                        refine wa_bipush (-10) dX6_copy_45 (by decide) ?_
                        refine wa_iret dX6_copy_47 rfl ?_
                        exact ⟨rfl, hrel.up⟩
            · try simp (disch := omega) only [nI_toInt, Int32.toInt_toInt64] at c70_8
              refine wa_bipush (-12) dX5_copy_73 (by decide) ?_
              refine wa_iret dX5_copy_75 rfl ?_
              skip
              rw [hk_, he_]
              refine MW_of (by decide) [some (.ref 73), some (.int (nI j_)), some (.int a), some (.int (nI u_)), some (.int b), some (.int n), none] rfl (Nat.le_of_ble_eq_true rfl) ?_
              refine wa_iload_n dX6_copy_0 rfl ?_
              refine wa_i2l dX6_copy_1 ?_
              refine wa_lconst (0) dX6_copy_2 (by decide) ?_
              refine wa_ldc2 (7) dX6_copy_3 lcX6_58 ?_
              refine wa_callS3 (k' := kX6_in) (d' := 0) dX6_copy_6 lmX6_60 ksX6_in (by decide) (by omega) (Nat.le_of_ble_eq_true rfl) ?_
              refine in8_1 hj_ ?_
              refine wa_if_eqF 24 dX6_copy_9 (by decide) (by decide) ?_
              refine wa_iload_n dX6_copy_12 rfl ?_
              refine wa_i2l dX6_copy_13 ?_
              refine wa_lconst (0) dX6_copy_14 (by decide) ?_
              refine wa_ldc2 (7) dX6_copy_15 lcX6_58 ?_
              refine wa_callS3 (k' := kX6_in) (d' := 0) dX6_copy_18 lmX6_60 ksX6_in (by decide) (by omega) (Nat.le_of_ble_eq_true rfl) ?_
              refine in8_1 hu_ ?_
              refine wa_if_neT 27 dX6_copy_21 (by decide) (by decide) ?_
              refine wa_aload_n dX6_copy_27 rfl ?_
              refine wa_getR dX6_copy_28 fgX6_7 (by first | assumption | rfl) (by rfl) ?_
              refine wa_iload_n dX6_copy_31 rfl ?_
              refine wa_zald _ dX6_copy_32 (by first | assumption | rfl) (by first | with_reducible rfl | with_reducible assumption | with_reducible exact ix_ma _ _ _ | with_reducible exact ix_maa _ _ _ _ | with_reducible exact ix_a _ _ | with_reducible exact ix_mama _ _ _ _ _) (by omega) ?_
              refine wa_if_eq 45 dX6_copy_33 (by decide) (fun c33_3 => ?_) (fun c33_3 => ?_)
              · try simp (disch := omega) only [nI_toInt, Int32.toInt_toInt64, not_true_eq_false, s5_, t5_, s6_, t6_, s7_, t7_, z_add64, h_, h2_] at c33_3
                try (exfalso; omega)
                all_goals
                  skip
                  refine wa_bipush (-10) dX6_copy_45 (by decide) ?_
                  refine wa_iret dX6_copy_47 rfl ?_
                  exact ⟨rfl, hrel.up⟩
              · try simp (disch := omega) only [nI_toInt, Int32.toInt_toInt64, not_true_eq_false, s5_, t5_, s6_, t6_, s7_, t7_, z_add64, h_, h2_] at c33_3
                try (exfalso; omega)
                all_goals
                  skip
                  refine wa_aload_n dX6_copy_36 rfl ?_
                  refine wa_getR dX6_copy_37 fgX6_7 (by first | assumption | rfl) (by rfl) ?_
                  refine wa_iload_n dX6_copy_40 rfl ?_
                  refine wa_zald _ dX6_copy_41 (by first | assumption | rfl) (by first | with_reducible rfl | with_reducible assumption | with_reducible exact ix_ma _ _ _ | with_reducible exact ix_maa _ _ _ _ | with_reducible exact ix_a _ _ | with_reducible exact ix_mama _ _ _ _ _) (by omega) ?_
                  refine wa_if_ne 48 dX6_copy_42 (by decide) (fun c42_4 => ?_) (fun c42_4 => ?_)
                  · try simp (disch := omega) only [nI_toInt, Int32.toInt_toInt64, not_true_eq_false, s5_, t5_, s6_, t6_, s7_, t7_, z_add64, h_, h2_] at c42_4
                    try (exfalso; omega)
                    all_goals
                      skip
                      refine wa_aload_n dX6_copy_48 rfl ?_
                      refine wa_getR dX6_copy_49 fgX6_13 (by first | assumption | rfl) (by rfl) ?_
                      refine wa_iload_n dX6_copy_52 rfl ?_
                      refine wa_iald _ dX6_copy_53 (by first | assumption | rfl) (by first | with_reducible rfl | with_reducible assumption | with_reducible exact ix_ma _ _ _ | with_reducible exact ix_maa _ _ _ _ | with_reducible exact ix_a _ _ | with_reducible exact ix_mama _ _ _ _ _) (by omega) ?_
                      refine wa_aload_n dX6_copy_54 rfl ?_
                      refine wa_getR dX6_copy_55 fgX6_13 (by first | assumption | rfl) (by rfl) ?_
                      refine wa_iload_n dX6_copy_58 rfl ?_
                      refine wa_iald _ dX6_copy_59 (by first | assumption | rfl) (by first | with_reducible rfl | with_reducible assumption | with_reducible exact ix_ma _ _ _ | with_reducible exact ix_maa _ _ _ _ | with_reducible exact ix_a _ _ | with_reducible exact ix_mama _ _ _ _ _) (by omega) ?_
                      refine wa_ic_eq 66 dX6_copy_60 (by decide) (fun c60_5 => ?_) (fun c60_5 => ?_)
                      · try simp (disch := omega) only [nI_toInt, Int32.toInt_toInt64, not_true_eq_false, s5_, t5_, s6_, t6_, s7_, t7_, z_add64, h_, h2_] at c60_5
                        try (exfalso; omega)
                        all_goals
                          skip
                          refine wa_iload dX6_copy_66 rfl ?_
                          refine wa_if_ge 74 dX6_copy_68 (by decide) (fun c68_6 => ?_) (fun c68_6 => ?_)
                          · try simp (disch := omega) only [nI_toInt, Int32.toInt_toInt64, not_true_eq_false, s5_, t5_, s6_, t6_, s7_, t7_, z_add64, h_, h2_] at c68_6
                            try (exfalso; omega)
                            all_goals
                              skip
                              refine wa_iload_n dX6_copy_74 rfl ?_
                              refine wa_if_lt 118 dX6_copy_75 (by decide) (fun c75_7 => ?_) (fun c75_7 => ?_)
                              · try simp (disch := omega) only [nI_toInt, Int32.toInt_toInt64, not_true_eq_false, s5_, t5_, s6_, t6_, s7_, t7_, z_add64, h_, h2_] at c75_7
                                try (exfalso; omega)
                                all_goals
                                  skip
                                  refine wa_bipush (-13) dX6_copy_118 (by decide) ?_
                                  refine wa_iret dX6_copy_120 rfl ?_
                                  exact ⟨rfl, hrel.up⟩
                              · try simp (disch := omega) only [nI_toInt, Int32.toInt_toInt64, not_true_eq_false, s5_, t5_, s6_, t6_, s7_, t7_, z_add64, h_, h2_] at c75_7
                                try (exfalso; omega)
                                all_goals
                                  skip
                                  refine wa_iload dX6_copy_78 rfl ?_
                                  refine wa_if_lt 118 dX6_copy_80 (by decide) (fun c80_8 => ?_) (fun c80_8 => ?_)
                                  · try simp (disch := omega) only [nI_toInt, Int32.toInt_toInt64, not_true_eq_false, s5_, t5_, s6_, t6_, s7_, t7_, z_add64, h_, h2_] at c80_8
                                    try (exfalso; omega)
                                    all_goals
                                      skip
                                      refine wa_bipush (-13) dX6_copy_118 (by decide) ?_
                                      refine wa_iret dX6_copy_120 rfl ?_
                                      exact ⟨rfl, hrel.up⟩
                                  · try simp (disch := omega) only [nI_toInt, Int32.toInt_toInt64, not_true_eq_false, s5_, t5_, s6_, t6_, s7_, t7_, z_add64, h_, h2_] at c80_8
                                    try (exfalso; omega)
                                    all_goals
                                      skip
                                      refine wa_iload_n dX6_copy_83 rfl ?_
                                      refine wa_i2l dX6_copy_84 ?_
                                      refine wa_iload dX6_copy_85 rfl ?_
                                      refine wa_i2l dX6_copy_87 ?_
                                      refine wa_ladd dX6_copy_88 ?_
                                      refine wa_aload_n dX6_copy_89 rfl ?_
                                      refine wa_getR dX6_copy_90 fgX6_17 (by first | assumption | rfl) (by rfl) ?_
                                      refine wa_iload_n dX6_copy_93 rfl ?_
                                      refine wa_iald _ dX6_copy_94 (by first | assumption | rfl) (by first | with_reducible rfl | with_reducible assumption | with_reducible exact ix_ma _ _ _ | with_reducible exact ix_maa _ _ _ _ | with_reducible exact ix_a _ _ | with_reducible exact ix_mama _ _ _ _ _) (by omega) ?_
                                      refine wa_i2l dX6_copy_95 ?_
                                      refine wa_lc_gt 118 dX6_copy_96 dX6_copy_97 (by decide) (fun c96_9 => ?_) (fun c96_9 => ?_)
                                      · try simp (disch := omega) only [nI_toInt, Int32.toInt_toInt64, not_true_eq_false, s5_, t5_, s6_, t6_, s7_, t7_, z_add64, h_, h2_] at c96_9
                                        try (exfalso; omega)
                                        all_goals
                                          skip
                                          refine wa_bipush (-13) dX6_copy_118 (by decide) ?_
                                          refine wa_iret dX6_copy_120 rfl ?_
                                          exact ⟨rfl, hrel.up⟩
                                      · try simp (disch := omega) only [nI_toInt, Int32.toInt_toInt64, not_true_eq_false, s5_, t5_, s6_, t6_, s7_, t7_, z_add64, h_, h2_] at c96_9
                                        try (exfalso; omega)
                                        all_goals
                                          skip
                                          refine wa_iload dX6_copy_100 rfl ?_
                                          refine wa_i2l dX6_copy_102 ?_
                                          refine wa_iload dX6_copy_103 rfl ?_
                                          refine wa_i2l dX6_copy_105 ?_
                                          refine wa_ladd dX6_copy_106 ?_
                                          refine wa_aload_n dX6_copy_107 rfl ?_
                                          refine wa_getR dX6_copy_108 fgX6_17 (by first | assumption | rfl) (by rfl) ?_
                                          refine wa_iload_n dX6_copy_111 rfl ?_
                                          refine wa_iald _ dX6_copy_112 (by first | assumption | rfl) (by first | with_reducible rfl | with_reducible assumption | with_reducible exact ix_ma _ _ _ | with_reducible exact ix_maa _ _ _ _ | with_reducible exact ix_a _ _ | with_reducible exact ix_mama _ _ _ _ _) (by omega) ?_
                                          refine wa_i2l dX6_copy_113 ?_
                                          refine wa_lc_le 121 dX6_copy_114 dX6_copy_115 (by decide) (fun c114_10 => ?_) (fun c114_10 => ?_)
                                          · try simp (disch := omega) only [nI_toInt, Int32.toInt_toInt64, not_true_eq_false, s5_, t5_, s6_, t6_, s7_, t7_, z_add64, h_, h2_] at c114_10
                                            try (exfalso; omega)
                                            all_goals
                                              skip
                                              skip
                                          · try simp (disch := omega) only [nI_toInt, Int32.toInt_toInt64, not_true_eq_false, s5_, t5_, s6_, t6_, s7_, t7_, z_add64, h_, h2_] at c114_10
                                            try (exfalso; omega)
                                            all_goals
                                              skip
                                              refine wa_bipush (-13) dX6_copy_118 (by decide) ?_
                                              refine wa_iret dX6_copy_120 rfl ?_
                                              exact ⟨rfl, hrel.up⟩
                          · try simp (disch := omega) only [nI_toInt, Int32.toInt_toInt64, not_true_eq_false, s5_, t5_, s6_, t6_, s7_, t7_, z_add64, h_, h2_] at c68_6
                            try (exfalso; omega)
                            all_goals
                              skip
                              refine wa_bipush (-12) dX6_copy_71 (by decide) ?_
                              refine wa_iret dX6_copy_73 rfl ?_
                              exact ⟨rfl, hrel.up⟩
                      · try simp (disch := omega) only [nI_toInt, Int32.toInt_toInt64, not_true_eq_false, s5_, t5_, s6_, t6_, s7_, t7_, z_add64, h_, h2_] at c60_5
                        try (exfalso; omega)
                        all_goals
                          skip
                          refine wa_bipush (-11) dX6_copy_63 (by decide) ?_
                          refine wa_iret dX6_copy_65 rfl ?_
                          exact ⟨rfl, hrel.up⟩
                  · try simp (disch := omega) only [nI_toInt, Int32.toInt_toInt64, not_true_eq_false, s5_, t5_, s6_, t6_, s7_, t7_, z_add64, h_, h2_] at c42_4
                    try (exfalso; omega)
                    all_goals
                      skip
                      refine wa_bipush (-10) dX6_copy_45 (by decide) ?_
                      refine wa_iret dX6_copy_47 rfl ?_
                      exact ⟨rfl, hrel.up⟩
          · try simp (disch := omega) only [nI_toInt, Int32.toInt_toInt64] at c62_7
            refine wa_bipush (-11) dX5_copy_65 (by decide) ?_
            refine wa_iret dX5_copy_67 rfl ?_
            skip
            rw [hk_, he_]
            refine MW_of (by decide) [some (.ref 73), some (.int (nI j_)), some (.int a), some (.int (nI u_)), some (.int b), some (.int n), none] rfl (Nat.le_of_ble_eq_true rfl) ?_
            refine wa_iload_n dX6_copy_0 rfl ?_
            refine wa_i2l dX6_copy_1 ?_
            refine wa_lconst (0) dX6_copy_2 (by decide) ?_
            refine wa_ldc2 (7) dX6_copy_3 lcX6_58 ?_
            refine wa_callS3 (k' := kX6_in) (d' := 0) dX6_copy_6 lmX6_60 ksX6_in (by decide) (by omega) (Nat.le_of_ble_eq_true rfl) ?_
            refine in8_1 hj_ ?_
            refine wa_if_eqF 24 dX6_copy_9 (by decide) (by decide) ?_
            refine wa_iload_n dX6_copy_12 rfl ?_
            refine wa_i2l dX6_copy_13 ?_
            refine wa_lconst (0) dX6_copy_14 (by decide) ?_
            refine wa_ldc2 (7) dX6_copy_15 lcX6_58 ?_
            refine wa_callS3 (k' := kX6_in) (d' := 0) dX6_copy_18 lmX6_60 ksX6_in (by decide) (by omega) (Nat.le_of_ble_eq_true rfl) ?_
            refine in8_1 hu_ ?_
            refine wa_if_neT 27 dX6_copy_21 (by decide) (by decide) ?_
            refine wa_aload_n dX6_copy_27 rfl ?_
            refine wa_getR dX6_copy_28 fgX6_7 (by first | assumption | rfl) (by rfl) ?_
            refine wa_iload_n dX6_copy_31 rfl ?_
            refine wa_zald _ dX6_copy_32 (by first | assumption | rfl) (by first | with_reducible rfl | with_reducible assumption | with_reducible exact ix_ma _ _ _ | with_reducible exact ix_maa _ _ _ _ | with_reducible exact ix_a _ _ | with_reducible exact ix_mama _ _ _ _ _) (by omega) ?_
            refine wa_if_eq 45 dX6_copy_33 (by decide) (fun c33_3 => ?_) (fun c33_3 => ?_)
            · try simp (disch := omega) only [nI_toInt, Int32.toInt_toInt64, not_true_eq_false, s5_, t5_, s6_, t6_, s7_, t7_, z_add64, h_, h2_] at c33_3
              try (exfalso; omega)
              all_goals
                skip
                refine wa_bipush (-10) dX6_copy_45 (by decide) ?_
                refine wa_iret dX6_copy_47 rfl ?_
                exact ⟨rfl, hrel.up⟩
            · try simp (disch := omega) only [nI_toInt, Int32.toInt_toInt64, not_true_eq_false, s5_, t5_, s6_, t6_, s7_, t7_, z_add64, h_, h2_] at c33_3
              try (exfalso; omega)
              all_goals
                skip
                refine wa_aload_n dX6_copy_36 rfl ?_
                refine wa_getR dX6_copy_37 fgX6_7 (by first | assumption | rfl) (by rfl) ?_
                refine wa_iload_n dX6_copy_40 rfl ?_
                refine wa_zald _ dX6_copy_41 (by first | assumption | rfl) (by first | with_reducible rfl | with_reducible assumption | with_reducible exact ix_ma _ _ _ | with_reducible exact ix_maa _ _ _ _ | with_reducible exact ix_a _ _ | with_reducible exact ix_mama _ _ _ _ _) (by omega) ?_
                refine wa_if_ne 48 dX6_copy_42 (by decide) (fun c42_4 => ?_) (fun c42_4 => ?_)
                · try simp (disch := omega) only [nI_toInt, Int32.toInt_toInt64, not_true_eq_false, s5_, t5_, s6_, t6_, s7_, t7_, z_add64, h_, h2_] at c42_4
                  try (exfalso; omega)
                  all_goals
                    skip
                    refine wa_aload_n dX6_copy_48 rfl ?_
                    refine wa_getR dX6_copy_49 fgX6_13 (by first | assumption | rfl) (by rfl) ?_
                    refine wa_iload_n dX6_copy_52 rfl ?_
                    refine wa_iald _ dX6_copy_53 (by first | assumption | rfl) (by first | with_reducible rfl | with_reducible assumption | with_reducible exact ix_ma _ _ _ | with_reducible exact ix_maa _ _ _ _ | with_reducible exact ix_a _ _ | with_reducible exact ix_mama _ _ _ _ _) (by omega) ?_
                    refine wa_aload_n dX6_copy_54 rfl ?_
                    refine wa_getR dX6_copy_55 fgX6_13 (by first | assumption | rfl) (by rfl) ?_
                    refine wa_iload_n dX6_copy_58 rfl ?_
                    refine wa_iald _ dX6_copy_59 (by first | assumption | rfl) (by first | with_reducible rfl | with_reducible assumption | with_reducible exact ix_ma _ _ _ | with_reducible exact ix_maa _ _ _ _ | with_reducible exact ix_a _ _ | with_reducible exact ix_mama _ _ _ _ _) (by omega) ?_
                    refine wa_ic_eq 66 dX6_copy_60 (by decide) (fun c60_5 => ?_) (fun c60_5 => ?_)
                    · try simp (disch := omega) only [nI_toInt, Int32.toInt_toInt64, not_true_eq_false, s5_, t5_, s6_, t6_, s7_, t7_, z_add64, h_, h2_] at c60_5
                      try (exfalso; omega)
                      all_goals
                        skip
                        refine wa_iload dX6_copy_66 rfl ?_
                        refine wa_if_ge 74 dX6_copy_68 (by decide) (fun c68_6 => ?_) (fun c68_6 => ?_)
                        · try simp (disch := omega) only [nI_toInt, Int32.toInt_toInt64, not_true_eq_false, s5_, t5_, s6_, t6_, s7_, t7_, z_add64, h_, h2_] at c68_6
                          try (exfalso; omega)
                          all_goals
                            skip
                            refine wa_iload_n dX6_copy_74 rfl ?_
                            refine wa_if_lt 118 dX6_copy_75 (by decide) (fun c75_7 => ?_) (fun c75_7 => ?_)
                            · try simp (disch := omega) only [nI_toInt, Int32.toInt_toInt64, not_true_eq_false, s5_, t5_, s6_, t6_, s7_, t7_, z_add64, h_, h2_] at c75_7
                              try (exfalso; omega)
                              all_goals
                                skip
                                refine wa_bipush (-13) dX6_copy_118 (by decide) ?_
                                refine wa_iret dX6_copy_120 rfl ?_
                                exact ⟨rfl, hrel.up⟩
                            · try simp (disch := omega) only [nI_toInt, Int32.toInt_toInt64, not_true_eq_false, s5_, t5_, s6_, t6_, s7_, t7_, z_add64, h_, h2_] at c75_7
                              try (exfalso; omega)
                              all_goals
                                skip
                                refine wa_iload dX6_copy_78 rfl ?_
                                refine wa_if_lt 118 dX6_copy_80 (by decide) (fun c80_8 => ?_) (fun c80_8 => ?_)
                                · try simp (disch := omega) only [nI_toInt, Int32.toInt_toInt64, not_true_eq_false, s5_, t5_, s6_, t6_, s7_, t7_, z_add64, h_, h2_] at c80_8
                                  try (exfalso; omega)
                                  all_goals
                                    skip
                                    refine wa_bipush (-13) dX6_copy_118 (by decide) ?_
                                    refine wa_iret dX6_copy_120 rfl ?_
                                    exact ⟨rfl, hrel.up⟩
                                · try simp (disch := omega) only [nI_toInt, Int32.toInt_toInt64, not_true_eq_false, s5_, t5_, s6_, t6_, s7_, t7_, z_add64, h_, h2_] at c80_8
                                  try (exfalso; omega)
                                  all_goals
                                    skip
                                    refine wa_iload_n dX6_copy_83 rfl ?_
                                    refine wa_i2l dX6_copy_84 ?_
                                    refine wa_iload dX6_copy_85 rfl ?_
                                    refine wa_i2l dX6_copy_87 ?_
                                    refine wa_ladd dX6_copy_88 ?_
                                    refine wa_aload_n dX6_copy_89 rfl ?_
                                    refine wa_getR dX6_copy_90 fgX6_17 (by first | assumption | rfl) (by rfl) ?_
                                    refine wa_iload_n dX6_copy_93 rfl ?_
                                    refine wa_iald _ dX6_copy_94 (by first | assumption | rfl) (by first | with_reducible rfl | with_reducible assumption | with_reducible exact ix_ma _ _ _ | with_reducible exact ix_maa _ _ _ _ | with_reducible exact ix_a _ _ | with_reducible exact ix_mama _ _ _ _ _) (by omega) ?_
                                    refine wa_i2l dX6_copy_95 ?_
                                    refine wa_lc_gt 118 dX6_copy_96 dX6_copy_97 (by decide) (fun c96_9 => ?_) (fun c96_9 => ?_)
                                    · try simp (disch := omega) only [nI_toInt, Int32.toInt_toInt64, not_true_eq_false, s5_, t5_, s6_, t6_, s7_, t7_, z_add64, h_, h2_] at c96_9
                                      try (exfalso; omega)
                                      all_goals
                                        skip
                                        refine wa_bipush (-13) dX6_copy_118 (by decide) ?_
                                        refine wa_iret dX6_copy_120 rfl ?_
                                        exact ⟨rfl, hrel.up⟩
                                    · try simp (disch := omega) only [nI_toInt, Int32.toInt_toInt64, not_true_eq_false, s5_, t5_, s6_, t6_, s7_, t7_, z_add64, h_, h2_] at c96_9
                                      try (exfalso; omega)
                                      all_goals
                                        skip
                                        refine wa_iload dX6_copy_100 rfl ?_
                                        refine wa_i2l dX6_copy_102 ?_
                                        refine wa_iload dX6_copy_103 rfl ?_
                                        refine wa_i2l dX6_copy_105 ?_
                                        refine wa_ladd dX6_copy_106 ?_
                                        refine wa_aload_n dX6_copy_107 rfl ?_
                                        refine wa_getR dX6_copy_108 fgX6_17 (by first | assumption | rfl) (by rfl) ?_
                                        refine wa_iload_n dX6_copy_111 rfl ?_
                                        refine wa_iald _ dX6_copy_112 (by first | assumption | rfl) (by first | with_reducible rfl | with_reducible assumption | with_reducible exact ix_ma _ _ _ | with_reducible exact ix_maa _ _ _ _ | with_reducible exact ix_a _ _ | with_reducible exact ix_mama _ _ _ _ _) (by omega) ?_
                                        refine wa_i2l dX6_copy_113 ?_
                                        refine wa_lc_le 121 dX6_copy_114 dX6_copy_115 (by decide) (fun c114_10 => ?_) (fun c114_10 => ?_)
                                        · try simp (disch := omega) only [nI_toInt, Int32.toInt_toInt64, not_true_eq_false, s5_, t5_, s6_, t6_, s7_, t7_, z_add64, h_, h2_] at c114_10
                                          try (exfalso; omega)
                                          all_goals
                                            skip
                                            skip
                                        · try simp (disch := omega) only [nI_toInt, Int32.toInt_toInt64, not_true_eq_false, s5_, t5_, s6_, t6_, s7_, t7_, z_add64, h_, h2_] at c114_10
                                          try (exfalso; omega)
                                          all_goals
                                            skip
                                            refine wa_bipush (-13) dX6_copy_118 (by decide) ?_
                                            refine wa_iret dX6_copy_120 rfl ?_
                                            exact ⟨rfl, hrel.up⟩
                        · try simp (disch := omega) only [nI_toInt, Int32.toInt_toInt64, not_true_eq_false, s5_, t5_, s6_, t6_, s7_, t7_, z_add64, h_, h2_] at c68_6
                          try (exfalso; omega)
                          all_goals
                            skip
                            refine wa_bipush (-12) dX6_copy_71 (by decide) ?_
                            refine wa_iret dX6_copy_73 rfl ?_
                            exact ⟨rfl, hrel.up⟩
                    · try simp (disch := omega) only [nI_toInt, Int32.toInt_toInt64, not_true_eq_false, s5_, t5_, s6_, t6_, s7_, t7_, z_add64, h_, h2_] at c60_5
                      try (exfalso; omega)
                      all_goals
                        skip
                        refine wa_bipush (-11) dX6_copy_63 (by decide) ?_
                        refine wa_iret dX6_copy_65 rfl ?_
                        exact ⟨rfl, hrel.up⟩
                · try simp (disch := omega) only [nI_toInt, Int32.toInt_toInt64, not_true_eq_false, s5_, t5_, s6_, t6_, s7_, t7_, z_add64, h_, h2_] at c42_4
                  try (exfalso; omega)
                  all_goals
                    skip
                    refine wa_bipush (-10) dX6_copy_45 (by decide) ?_
                    refine wa_iret dX6_copy_47 rfl ?_
                    exact ⟨rfl, hrel.up⟩
        · skip
          refine wa_if_neF 52 dX5_copy_46 (by decide) (by decide) ?_
          refine wa_bipush (-10) dX5_copy_49 (by decide) ?_
          refine wa_iret dX5_copy_51 rfl ?_
          skip
          rw [hk_, he_]
          refine MW_of (by decide) [some (.ref 73), some (.int (nI j_)), some (.int a), some (.int (nI u_)), some (.int b), some (.int n), none] rfl (Nat.le_of_ble_eq_true rfl) ?_
          refine wa_iload_n dX6_copy_0 rfl ?_
          refine wa_i2l dX6_copy_1 ?_
          refine wa_lconst (0) dX6_copy_2 (by decide) ?_
          refine wa_ldc2 (7) dX6_copy_3 lcX6_58 ?_
          refine wa_callS3 (k' := kX6_in) (d' := 0) dX6_copy_6 lmX6_60 ksX6_in (by decide) (by omega) (Nat.le_of_ble_eq_true rfl) ?_
          refine in8_1 hj_ ?_
          refine wa_if_eqF 24 dX6_copy_9 (by decide) (by decide) ?_
          refine wa_iload_n dX6_copy_12 rfl ?_
          refine wa_i2l dX6_copy_13 ?_
          refine wa_lconst (0) dX6_copy_14 (by decide) ?_
          refine wa_ldc2 (7) dX6_copy_15 lcX6_58 ?_
          refine wa_callS3 (k' := kX6_in) (d' := 0) dX6_copy_18 lmX6_60 ksX6_in (by decide) (by omega) (Nat.le_of_ble_eq_true rfl) ?_
          refine in8_1 hu_ ?_
          refine wa_if_neT 27 dX6_copy_21 (by decide) (by decide) ?_
          refine wa_aload_n dX6_copy_27 rfl ?_
          refine wa_getR dX6_copy_28 fgX6_7 (by first | assumption | rfl) (by rfl) ?_
          refine wa_iload_n dX6_copy_31 rfl ?_
          refine wa_zald _ dX6_copy_32 (by first | assumption | rfl) (by first | with_reducible rfl | with_reducible assumption | with_reducible exact ix_ma _ _ _ | with_reducible exact ix_maa _ _ _ _ | with_reducible exact ix_a _ _ | with_reducible exact ix_mama _ _ _ _ _) (by omega) ?_
          refine wa_if_eq 45 dX6_copy_33 (by decide) (fun c33_3 => ?_) (fun c33_3 => ?_)
          · try simp (disch := omega) only [nI_toInt, Int32.toInt_toInt64, not_true_eq_false, s5_, t5_, s6_, t6_, s7_, t7_, z_add64, h_, h2_] at c33_3
            try (exfalso; omega)
            all_goals
              skip
              refine wa_bipush (-10) dX6_copy_45 (by decide) ?_
              refine wa_iret dX6_copy_47 rfl ?_
              exact ⟨rfl, hrel.up⟩
          · try simp (disch := omega) only [nI_toInt, Int32.toInt_toInt64, not_true_eq_false, s5_, t5_, s6_, t6_, s7_, t7_, z_add64, h_, h2_] at c33_3
            try (exfalso; omega)
            all_goals
              skip
              refine wa_aload_n dX6_copy_36 rfl ?_
              refine wa_getR dX6_copy_37 fgX6_7 (by first | assumption | rfl) (by rfl) ?_
              refine wa_iload_n dX6_copy_40 rfl ?_
              refine wa_zald _ dX6_copy_41 (by first | assumption | rfl) (by first | with_reducible rfl | with_reducible assumption | with_reducible exact ix_ma _ _ _ | with_reducible exact ix_maa _ _ _ _ | with_reducible exact ix_a _ _ | with_reducible exact ix_mama _ _ _ _ _) (by omega) ?_
              refine wa_if_ne 48 dX6_copy_42 (by decide) (fun c42_4 => ?_) (fun c42_4 => ?_)
              · try simp (disch := omega) only [nI_toInt, Int32.toInt_toInt64, not_true_eq_false, s5_, t5_, s6_, t6_, s7_, t7_, z_add64, h_, h2_] at c42_4
                try (exfalso; omega)
                all_goals
                  skip
                  refine wa_aload_n dX6_copy_48 rfl ?_
                  refine wa_getR dX6_copy_49 fgX6_13 (by first | assumption | rfl) (by rfl) ?_
                  refine wa_iload_n dX6_copy_52 rfl ?_
                  refine wa_iald _ dX6_copy_53 (by first | assumption | rfl) (by first | with_reducible rfl | with_reducible assumption | with_reducible exact ix_ma _ _ _ | with_reducible exact ix_maa _ _ _ _ | with_reducible exact ix_a _ _ | with_reducible exact ix_mama _ _ _ _ _) (by omega) ?_
                  refine wa_aload_n dX6_copy_54 rfl ?_
                  refine wa_getR dX6_copy_55 fgX6_13 (by first | assumption | rfl) (by rfl) ?_
                  refine wa_iload_n dX6_copy_58 rfl ?_
                  refine wa_iald _ dX6_copy_59 (by first | assumption | rfl) (by first | with_reducible rfl | with_reducible assumption | with_reducible exact ix_ma _ _ _ | with_reducible exact ix_maa _ _ _ _ | with_reducible exact ix_a _ _ | with_reducible exact ix_mama _ _ _ _ _) (by omega) ?_
                  refine wa_ic_eq 66 dX6_copy_60 (by decide) (fun c60_5 => ?_) (fun c60_5 => ?_)
                  · try simp (disch := omega) only [nI_toInt, Int32.toInt_toInt64, not_true_eq_false, s5_, t5_, s6_, t6_, s7_, t7_, z_add64, h_, h2_] at c60_5
                    try (exfalso; omega)
                    all_goals
                      skip
                      refine wa_iload dX6_copy_66 rfl ?_
                      refine wa_if_ge 74 dX6_copy_68 (by decide) (fun c68_6 => ?_) (fun c68_6 => ?_)
                      · try simp (disch := omega) only [nI_toInt, Int32.toInt_toInt64, not_true_eq_false, s5_, t5_, s6_, t6_, s7_, t7_, z_add64, h_, h2_] at c68_6
                        try (exfalso; omega)
                        all_goals
                          skip
                          refine wa_iload_n dX6_copy_74 rfl ?_
                          refine wa_if_lt 118 dX6_copy_75 (by decide) (fun c75_7 => ?_) (fun c75_7 => ?_)
                          · try simp (disch := omega) only [nI_toInt, Int32.toInt_toInt64, not_true_eq_false, s5_, t5_, s6_, t6_, s7_, t7_, z_add64, h_, h2_] at c75_7
                            try (exfalso; omega)
                            all_goals
                              skip
                              refine wa_bipush (-13) dX6_copy_118 (by decide) ?_
                              refine wa_iret dX6_copy_120 rfl ?_
                              exact ⟨rfl, hrel.up⟩
                          · try simp (disch := omega) only [nI_toInt, Int32.toInt_toInt64, not_true_eq_false, s5_, t5_, s6_, t6_, s7_, t7_, z_add64, h_, h2_] at c75_7
                            try (exfalso; omega)
                            all_goals
                              skip
                              refine wa_iload dX6_copy_78 rfl ?_
                              refine wa_if_lt 118 dX6_copy_80 (by decide) (fun c80_8 => ?_) (fun c80_8 => ?_)
                              · try simp (disch := omega) only [nI_toInt, Int32.toInt_toInt64, not_true_eq_false, s5_, t5_, s6_, t6_, s7_, t7_, z_add64, h_, h2_] at c80_8
                                try (exfalso; omega)
                                all_goals
                                  skip
                                  refine wa_bipush (-13) dX6_copy_118 (by decide) ?_
                                  refine wa_iret dX6_copy_120 rfl ?_
                                  exact ⟨rfl, hrel.up⟩
                              · try simp (disch := omega) only [nI_toInt, Int32.toInt_toInt64, not_true_eq_false, s5_, t5_, s6_, t6_, s7_, t7_, z_add64, h_, h2_] at c80_8
                                try (exfalso; omega)
                                all_goals
                                  skip
                                  refine wa_iload_n dX6_copy_83 rfl ?_
                                  refine wa_i2l dX6_copy_84 ?_
                                  refine wa_iload dX6_copy_85 rfl ?_
                                  refine wa_i2l dX6_copy_87 ?_
                                  refine wa_ladd dX6_copy_88 ?_
                                  refine wa_aload_n dX6_copy_89 rfl ?_
                                  refine wa_getR dX6_copy_90 fgX6_17 (by first | assumption | rfl) (by rfl) ?_
                                  refine wa_iload_n dX6_copy_93 rfl ?_
                                  refine wa_iald _ dX6_copy_94 (by first | assumption | rfl) (by first | with_reducible rfl | with_reducible assumption | with_reducible exact ix_ma _ _ _ | with_reducible exact ix_maa _ _ _ _ | with_reducible exact ix_a _ _ | with_reducible exact ix_mama _ _ _ _ _) (by omega) ?_
                                  refine wa_i2l dX6_copy_95 ?_
                                  refine wa_lc_gt 118 dX6_copy_96 dX6_copy_97 (by decide) (fun c96_9 => ?_) (fun c96_9 => ?_)
                                  · try simp (disch := omega) only [nI_toInt, Int32.toInt_toInt64, not_true_eq_false, s5_, t5_, s6_, t6_, s7_, t7_, z_add64, h_, h2_] at c96_9
                                    try (exfalso; omega)
                                    all_goals
                                      skip
                                      refine wa_bipush (-13) dX6_copy_118 (by decide) ?_
                                      refine wa_iret dX6_copy_120 rfl ?_
                                      exact ⟨rfl, hrel.up⟩
                                  · try simp (disch := omega) only [nI_toInt, Int32.toInt_toInt64, not_true_eq_false, s5_, t5_, s6_, t6_, s7_, t7_, z_add64, h_, h2_] at c96_9
                                    try (exfalso; omega)
                                    all_goals
                                      skip
                                      refine wa_iload dX6_copy_100 rfl ?_
                                      refine wa_i2l dX6_copy_102 ?_
                                      refine wa_iload dX6_copy_103 rfl ?_
                                      refine wa_i2l dX6_copy_105 ?_
                                      refine wa_ladd dX6_copy_106 ?_
                                      refine wa_aload_n dX6_copy_107 rfl ?_
                                      refine wa_getR dX6_copy_108 fgX6_17 (by first | assumption | rfl) (by rfl) ?_
                                      refine wa_iload_n dX6_copy_111 rfl ?_
                                      refine wa_iald _ dX6_copy_112 (by first | assumption | rfl) (by first | with_reducible rfl | with_reducible assumption | with_reducible exact ix_ma _ _ _ | with_reducible exact ix_maa _ _ _ _ | with_reducible exact ix_a _ _ | with_reducible exact ix_mama _ _ _ _ _) (by omega) ?_
                                      refine wa_i2l dX6_copy_113 ?_
                                      refine wa_lc_le 121 dX6_copy_114 dX6_copy_115 (by decide) (fun c114_10 => ?_) (fun c114_10 => ?_)
                                      · try simp (disch := omega) only [nI_toInt, Int32.toInt_toInt64, not_true_eq_false, s5_, t5_, s6_, t6_, s7_, t7_, z_add64, h_, h2_] at c114_10
                                        try (exfalso; omega)
                                        all_goals
                                          skip
                                          skip
                                      · try simp (disch := omega) only [nI_toInt, Int32.toInt_toInt64, not_true_eq_false, s5_, t5_, s6_, t6_, s7_, t7_, z_add64, h_, h2_] at c114_10
                                        try (exfalso; omega)
                                        all_goals
                                          skip
                                          refine wa_bipush (-13) dX6_copy_118 (by decide) ?_
                                          refine wa_iret dX6_copy_120 rfl ?_
                                          exact ⟨rfl, hrel.up⟩
                      · try simp (disch := omega) only [nI_toInt, Int32.toInt_toInt64, not_true_eq_false, s5_, t5_, s6_, t6_, s7_, t7_, z_add64, h_, h2_] at c68_6
                        try (exfalso; omega)
                        all_goals
                          skip
                          refine wa_bipush (-12) dX6_copy_71 (by decide) ?_
                          refine wa_iret dX6_copy_73 rfl ?_
                          exact ⟨rfl, hrel.up⟩
                  · try simp (disch := omega) only [nI_toInt, Int32.toInt_toInt64, not_true_eq_false, s5_, t5_, s6_, t6_, s7_, t7_, z_add64, h_, h2_] at c60_5
                    try (exfalso; omega)
                    all_goals
                      skip
                      refine wa_bipush (-11) dX6_copy_63 (by decide) ?_
                      refine wa_iret dX6_copy_65 rfl ?_
                      exact ⟨rfl, hrel.up⟩
              · try simp (disch := omega) only [nI_toInt, Int32.toInt_toInt64, not_true_eq_false, s5_, t5_, s6_, t6_, s7_, t7_, z_add64, h_, h2_] at c42_4
                try (exfalso; omega)
                all_goals
                  skip
                  refine wa_bipush (-10) dX6_copy_45 (by decide) ?_
                  refine wa_iret dX6_copy_47 rfl ?_
                  exact ⟨rfl, hrel.up⟩
      · skip
        refine wa_if_eqT 49 dX5_copy_38 (by decide) (by decide) ?_
        refine wa_bipush (-10) dX5_copy_49 (by decide) ?_
        refine wa_iret dX5_copy_51 rfl ?_
        skip
        rw [hk_, he_]
        refine MW_of (by decide) [some (.ref 73), some (.int (nI j_)), some (.int a), some (.int (nI u_)), some (.int b), some (.int n), none] rfl (Nat.le_of_ble_eq_true rfl) ?_
        refine wa_iload_n dX6_copy_0 rfl ?_
        refine wa_i2l dX6_copy_1 ?_
        refine wa_lconst (0) dX6_copy_2 (by decide) ?_
        refine wa_ldc2 (7) dX6_copy_3 lcX6_58 ?_
        refine wa_callS3 (k' := kX6_in) (d' := 0) dX6_copy_6 lmX6_60 ksX6_in (by decide) (by omega) (Nat.le_of_ble_eq_true rfl) ?_
        refine in8_1 hj_ ?_
        refine wa_if_eqF 24 dX6_copy_9 (by decide) (by decide) ?_
        refine wa_iload_n dX6_copy_12 rfl ?_
        refine wa_i2l dX6_copy_13 ?_
        refine wa_lconst (0) dX6_copy_14 (by decide) ?_
        refine wa_ldc2 (7) dX6_copy_15 lcX6_58 ?_
        refine wa_callS3 (k' := kX6_in) (d' := 0) dX6_copy_18 lmX6_60 ksX6_in (by decide) (by omega) (Nat.le_of_ble_eq_true rfl) ?_
        refine in8_1 hu_ ?_
        refine wa_if_neT 27 dX6_copy_21 (by decide) (by decide) ?_
        refine wa_aload_n dX6_copy_27 rfl ?_
        refine wa_getR dX6_copy_28 fgX6_7 (by first | assumption | rfl) (by rfl) ?_
        refine wa_iload_n dX6_copy_31 rfl ?_
        refine wa_zald _ dX6_copy_32 (by first | assumption | rfl) (by first | with_reducible rfl | with_reducible assumption | with_reducible exact ix_ma _ _ _ | with_reducible exact ix_maa _ _ _ _ | with_reducible exact ix_a _ _ | with_reducible exact ix_mama _ _ _ _ _) (by omega) ?_
        refine wa_if_eq 45 dX6_copy_33 (by decide) (fun c33_3 => ?_) (fun c33_3 => ?_)
        · try simp (disch := omega) only [nI_toInt, Int32.toInt_toInt64, not_true_eq_false, s5_, t5_, s6_, t6_, s7_, t7_, z_add64, h_] at c33_3
          try (exfalso; omega)
          all_goals
            skip
            refine wa_bipush (-10) dX6_copy_45 (by decide) ?_
            refine wa_iret dX6_copy_47 rfl ?_
            exact ⟨rfl, hrel.up⟩
        · try simp (disch := omega) only [nI_toInt, Int32.toInt_toInt64, not_true_eq_false, s5_, t5_, s6_, t6_, s7_, t7_, z_add64, h_] at c33_3
          try (exfalso; omega)
          all_goals
            skip
            refine wa_aload_n dX6_copy_36 rfl ?_
            refine wa_getR dX6_copy_37 fgX6_7 (by first | assumption | rfl) (by rfl) ?_
            refine wa_iload_n dX6_copy_40 rfl ?_
            refine wa_zald _ dX6_copy_41 (by first | assumption | rfl) (by first | with_reducible rfl | with_reducible assumption | with_reducible exact ix_ma _ _ _ | with_reducible exact ix_maa _ _ _ _ | with_reducible exact ix_a _ _ | with_reducible exact ix_mama _ _ _ _ _) (by omega) ?_
            refine wa_if_ne 48 dX6_copy_42 (by decide) (fun c42_4 => ?_) (fun c42_4 => ?_)
            · try simp (disch := omega) only [nI_toInt, Int32.toInt_toInt64, not_true_eq_false, s5_, t5_, s6_, t6_, s7_, t7_, z_add64, h_] at c42_4
              try (exfalso; omega)
              all_goals
                skip
                refine wa_aload_n dX6_copy_48 rfl ?_
                refine wa_getR dX6_copy_49 fgX6_13 (by first | assumption | rfl) (by rfl) ?_
                refine wa_iload_n dX6_copy_52 rfl ?_
                refine wa_iald _ dX6_copy_53 (by first | assumption | rfl) (by first | with_reducible rfl | with_reducible assumption | with_reducible exact ix_ma _ _ _ | with_reducible exact ix_maa _ _ _ _ | with_reducible exact ix_a _ _ | with_reducible exact ix_mama _ _ _ _ _) (by omega) ?_
                refine wa_aload_n dX6_copy_54 rfl ?_
                refine wa_getR dX6_copy_55 fgX6_13 (by first | assumption | rfl) (by rfl) ?_
                refine wa_iload_n dX6_copy_58 rfl ?_
                refine wa_iald _ dX6_copy_59 (by first | assumption | rfl) (by first | with_reducible rfl | with_reducible assumption | with_reducible exact ix_ma _ _ _ | with_reducible exact ix_maa _ _ _ _ | with_reducible exact ix_a _ _ | with_reducible exact ix_mama _ _ _ _ _) (by omega) ?_
                refine wa_ic_eq 66 dX6_copy_60 (by decide) (fun c60_5 => ?_) (fun c60_5 => ?_)
                · try simp (disch := omega) only [nI_toInt, Int32.toInt_toInt64, not_true_eq_false, s5_, t5_, s6_, t6_, s7_, t7_, z_add64, h_] at c60_5
                  try (exfalso; omega)
                  all_goals
                    skip
                    refine wa_iload dX6_copy_66 rfl ?_
                    refine wa_if_ge 74 dX6_copy_68 (by decide) (fun c68_6 => ?_) (fun c68_6 => ?_)
                    · try simp (disch := omega) only [nI_toInt, Int32.toInt_toInt64, not_true_eq_false, s5_, t5_, s6_, t6_, s7_, t7_, z_add64, h_] at c68_6
                      try (exfalso; omega)
                      all_goals
                        skip
                        refine wa_iload_n dX6_copy_74 rfl ?_
                        refine wa_if_lt 118 dX6_copy_75 (by decide) (fun c75_7 => ?_) (fun c75_7 => ?_)
                        · try simp (disch := omega) only [nI_toInt, Int32.toInt_toInt64, not_true_eq_false, s5_, t5_, s6_, t6_, s7_, t7_, z_add64, h_] at c75_7
                          try (exfalso; omega)
                          all_goals
                            skip
                            refine wa_bipush (-13) dX6_copy_118 (by decide) ?_
                            refine wa_iret dX6_copy_120 rfl ?_
                            exact ⟨rfl, hrel.up⟩
                        · try simp (disch := omega) only [nI_toInt, Int32.toInt_toInt64, not_true_eq_false, s5_, t5_, s6_, t6_, s7_, t7_, z_add64, h_] at c75_7
                          try (exfalso; omega)
                          all_goals
                            skip
                            refine wa_iload dX6_copy_78 rfl ?_
                            refine wa_if_lt 118 dX6_copy_80 (by decide) (fun c80_8 => ?_) (fun c80_8 => ?_)
                            · try simp (disch := omega) only [nI_toInt, Int32.toInt_toInt64, not_true_eq_false, s5_, t5_, s6_, t6_, s7_, t7_, z_add64, h_] at c80_8
                              try (exfalso; omega)
                              all_goals
                                skip
                                refine wa_bipush (-13) dX6_copy_118 (by decide) ?_
                                refine wa_iret dX6_copy_120 rfl ?_
                                exact ⟨rfl, hrel.up⟩
                            · try simp (disch := omega) only [nI_toInt, Int32.toInt_toInt64, not_true_eq_false, s5_, t5_, s6_, t6_, s7_, t7_, z_add64, h_] at c80_8
                              try (exfalso; omega)
                              all_goals
                                skip
                                refine wa_iload_n dX6_copy_83 rfl ?_
                                refine wa_i2l dX6_copy_84 ?_
                                refine wa_iload dX6_copy_85 rfl ?_
                                refine wa_i2l dX6_copy_87 ?_
                                refine wa_ladd dX6_copy_88 ?_
                                refine wa_aload_n dX6_copy_89 rfl ?_
                                refine wa_getR dX6_copy_90 fgX6_17 (by first | assumption | rfl) (by rfl) ?_
                                refine wa_iload_n dX6_copy_93 rfl ?_
                                refine wa_iald _ dX6_copy_94 (by first | assumption | rfl) (by first | with_reducible rfl | with_reducible assumption | with_reducible exact ix_ma _ _ _ | with_reducible exact ix_maa _ _ _ _ | with_reducible exact ix_a _ _ | with_reducible exact ix_mama _ _ _ _ _) (by omega) ?_
                                refine wa_i2l dX6_copy_95 ?_
                                refine wa_lc_gt 118 dX6_copy_96 dX6_copy_97 (by decide) (fun c96_9 => ?_) (fun c96_9 => ?_)
                                · try simp (disch := omega) only [nI_toInt, Int32.toInt_toInt64, not_true_eq_false, s5_, t5_, s6_, t6_, s7_, t7_, z_add64, h_] at c96_9
                                  try (exfalso; omega)
                                  all_goals
                                    skip
                                    refine wa_bipush (-13) dX6_copy_118 (by decide) ?_
                                    refine wa_iret dX6_copy_120 rfl ?_
                                    exact ⟨rfl, hrel.up⟩
                                · try simp (disch := omega) only [nI_toInt, Int32.toInt_toInt64, not_true_eq_false, s5_, t5_, s6_, t6_, s7_, t7_, z_add64, h_] at c96_9
                                  try (exfalso; omega)
                                  all_goals
                                    skip
                                    refine wa_iload dX6_copy_100 rfl ?_
                                    refine wa_i2l dX6_copy_102 ?_
                                    refine wa_iload dX6_copy_103 rfl ?_
                                    refine wa_i2l dX6_copy_105 ?_
                                    refine wa_ladd dX6_copy_106 ?_
                                    refine wa_aload_n dX6_copy_107 rfl ?_
                                    refine wa_getR dX6_copy_108 fgX6_17 (by first | assumption | rfl) (by rfl) ?_
                                    refine wa_iload_n dX6_copy_111 rfl ?_
                                    refine wa_iald _ dX6_copy_112 (by first | assumption | rfl) (by first | with_reducible rfl | with_reducible assumption | with_reducible exact ix_ma _ _ _ | with_reducible exact ix_maa _ _ _ _ | with_reducible exact ix_a _ _ | with_reducible exact ix_mama _ _ _ _ _) (by omega) ?_
                                    refine wa_i2l dX6_copy_113 ?_
                                    refine wa_lc_le 121 dX6_copy_114 dX6_copy_115 (by decide) (fun c114_10 => ?_) (fun c114_10 => ?_)
                                    · try simp (disch := omega) only [nI_toInt, Int32.toInt_toInt64, not_true_eq_false, s5_, t5_, s6_, t6_, s7_, t7_, z_add64, h_] at c114_10
                                      try (exfalso; omega)
                                      all_goals
                                        skip
                                        skip
                                    · try simp (disch := omega) only [nI_toInt, Int32.toInt_toInt64, not_true_eq_false, s5_, t5_, s6_, t6_, s7_, t7_, z_add64, h_] at c114_10
                                      try (exfalso; omega)
                                      all_goals
                                        skip
                                        refine wa_bipush (-13) dX6_copy_118 (by decide) ?_
                                        refine wa_iret dX6_copy_120 rfl ?_
                                        exact ⟨rfl, hrel.up⟩
                    · try simp (disch := omega) only [nI_toInt, Int32.toInt_toInt64, not_true_eq_false, s5_, t5_, s6_, t6_, s7_, t7_, z_add64, h_] at c68_6
                      try (exfalso; omega)
                      all_goals
                        skip
                        refine wa_bipush (-12) dX6_copy_71 (by decide) ?_
                        refine wa_iret dX6_copy_73 rfl ?_
                        exact ⟨rfl, hrel.up⟩
                · try simp (disch := omega) only [nI_toInt, Int32.toInt_toInt64, not_true_eq_false, s5_, t5_, s6_, t6_, s7_, t7_, z_add64, h_] at c60_5
                  try (exfalso; omega)
                  all_goals
                    skip
                    refine wa_bipush (-11) dX6_copy_63 (by decide) ?_
                    refine wa_iret dX6_copy_65 rfl ?_
                    exact ⟨rfl, hrel.up⟩
            · try simp (disch := omega) only [nI_toInt, Int32.toInt_toInt64, not_true_eq_false, s5_, t5_, s6_, t6_, s7_, t7_, z_add64, h_] at c42_4
              try (exfalso; omega)
              all_goals
                skip
                refine wa_bipush (-10) dX6_copy_45 (by decide) ?_
                refine wa_iret dX6_copy_47 rfl ?_
                exact ⟨rfl, hrel.up⟩
    · skip
      refine wa_if_neF 17 dX5_copy_11 (by decide) (by decide) ?_
      refine wa_bipush (-2) dX5_copy_14 (by decide) ?_
      refine wa_iret dX5_copy_16 rfl ?_
      rw [hk_]
      refine MW_of (by decide) [some (.ref 73), some (.int (nI j_)), some (.int a), some (.int e), some (.int b), some (.int n), none] rfl (Nat.le_of_ble_eq_true rfl) ?_
      refine wa_iload_n dX6_copy_0 rfl ?_
      refine wa_i2l dX6_copy_1 ?_
      refine wa_lconst (0) dX6_copy_2 (by decide) ?_
      refine wa_ldc2 (7) dX6_copy_3 lcX6_58 ?_
      refine wa_callS3 (k' := kX6_in) (d' := 0) dX6_copy_6 lmX6_60 ksX6_in (by decide) (by omega) (Nat.le_of_ble_eq_true rfl) ?_
      refine in8_1 hj_ ?_
      refine wa_if_eqF 24 dX6_copy_9 (by decide) (by decide) ?_
      refine wa_iload_n dX6_copy_12 rfl ?_
      refine wa_i2l dX6_copy_13 ?_
      refine wa_lconst (0) dX6_copy_14 (by decide) ?_
      refine wa_ldc2 (7) dX6_copy_15 lcX6_58 ?_
      refine wa_callS3 (k' := kX6_in) (d' := 0) dX6_copy_18 lmX6_60 ksX6_in (by decide) (by omega) (Nat.le_of_ble_eq_true rfl) ?_
      refine in8_0 hoob ?_
      refine wa_if_neF 27 dX6_copy_21 (by decide) (by decide) ?_
      refine wa_bipush (-2) dX6_copy_24 (by decide) ?_
      refine wa_iret dX6_copy_26 rfl ?_
      exact ⟨rfl, hrel.up⟩
  · skip
    refine wa_if_eqT 14 dX5_copy_4 (by decide) (by decide) ?_
    refine wa_bipush (-2) dX5_copy_14 (by decide) ?_
    refine wa_iret dX5_copy_16 rfl ?_
    skip
    refine MW_of (by decide) [some (.ref 73), some (.int k), some (.int a), some (.int e), some (.int b), some (.int n), none] rfl (Nat.le_of_ble_eq_true rfl) ?_
    refine wa_iload_n dX6_copy_0 rfl ?_
    refine wa_i2l dX6_copy_1 ?_
    refine wa_lconst (0) dX6_copy_2 (by decide) ?_
    refine wa_ldc2 (7) dX6_copy_3 lcX6_58 ?_
    refine wa_callS3 (k' := kX6_in) (d' := 0) dX6_copy_6 lmX6_60 ksX6_in (by decide) (by omega) (Nat.le_of_ble_eq_true rfl) ?_
    refine in8_0 hoob ?_
    refine wa_if_eqT 24 dX6_copy_9 (by decide) (by decide) ?_
    refine wa_bipush (-2) dX6_copy_24 (by decide) ?_
    refine wa_iret dX6_copy_26 rfl ?_
    exact ⟨rfl, hrel.up⟩
