/-! THE MODEL: turn() itself -/
theorem k4e9n : (-4000000000 : Int64).toInt = -4000000000 := by decide
theorem wa_lo {k : MK} {d : Nat} {Q : QM} {pc : Nat} {lv lv' : List (Option Value)} {st : List Value} {μ : Mem} (h : lv = lv') (kk : WA k d Q pc lv' st μ) : WA k d Q pc lv st μ := by
  rw [h]
  exact kk
theorem z3i : (3 : Int64).toInt = 3 := by decide
theorem z_sh : (nI 32).toInt64 &&& 63 = 32 := by decide
theorem k1e6m : (-1000000 : Int64).toInt = -1000000 ∧ (1000000 : Int64).toInt = 1000000 := by decide
theorem frF_lt {g old : Nat → Int64} {n i : Nat} (h : i < n) : frF g old n i = g i := by
  rw [frF, if_pos h]
/-- row r's first i numbers are g's -/
def rwF (g old : Nat → Int64) (r i : Nat) : Nat → Int64 := fun q => if 64 * r ≤ q ∧ q < 64 * r + i then g (q - 64 * r) else old q
theorem rwF_0 (g old : Nat → Int64) (r : Nat) : rwF g old r 0 = old := by
  funext q
  simp only [rwF]
  rw [if_neg (by omega)]
theorem rwF_s (g old : Nat → Int64) (r i : Nat) : vp_updL (rwF g old r i) (64 * r + i) (g i) = rwF g old r (i + 1) := by
  funext q
  by_cases hq : q = 64 * r + i
  · subst hq
    simp only [vp_updL, rwF, if_true]
    rw [if_pos (by omega), show 64 * r + i - 64 * r = i by omega]
  · simp only [vp_updL, rwF, hq, if_false]
    congr 1
    exact propext ⟨fun q => by omega, fun q => by omega⟩
theorem wp_X6_turn {d r n w : Nat} {μ : Mem} {Q : QM} (hd : 2 ≤ d) (hr : r < 6) (hn : μ.1 79 r = nI n) (hn64 : n ≤ 64) (hw : w < 4) (hv : inB (mN μ r) n 4000000000000000)
    (hNO : tNO n w → Q (some (.int (-3))) μ) (hF : ¬ tNO n w → (w = 1 ∨ w = 2) → ¬ inB (mN μ r) n 4000000000 → Q (some (.int (-16))) μ)
    (hG : ¬ tNO n w → ((w = 1 ∨ w = 2) → inB (mN μ r) n 4000000000) → ¬ inB (gW (mN μ r) n w) n 4000000000000000 → ∀ F, Q (some (.int (-16))) (bL μ 81 F))
    (hH : ¬ tNO n w → ((w = 1 ∨ w = 2) → inB (mN μ r) n 4000000000) → inB (gW (mN μ r) n w) n 4000000000000000 → ∀ F, Q (some (.int (nI n))) (bL (bL μ 81 F) 80 (rwF (gW (mN μ r) n w) (μ.2 80) r n))) : MW kX6_turn d [.ref 73, .int (nI r), .int (nI w)] μ Q := by
  refine MW_of (by decide) [some (.ref 73), some (.int (nI r)), some (.int (nI w)), none, none, none, none, none, none, none, none, none, none, none] rfl (Nat.le_of_ble_eq_true rfl) ?_
  have ew : (nI w).toInt = w := nI_toInt (by omega)
  have ev : ∀ F i, (bL μ 81 F).2 80 (64 * r + i) = mN μ r i := fun F i => by rw [bL_off (by omega)]; rfl
  generalize hvv : mN μ r = v at *
  have last : ¬ tNO n w → ((w = 1 ∨ w = 2) → inB v n 4000000000) → inB (gW v n w) n 4000000000000000 → ∀ m i, i + m = n → ∀ z1 z2 z3 z4 z5 z6 z7 z8 z9, WA kX6_turn d Q 274 [some (.ref 73), some (.int (nI r)), some (.int (nI w)), some (.int (nI n)), some (.int (nI i)), z1, z2, z3, z4, z5, z6, z7, z8, z9] [] (bL (bL μ 81 (frF (gW v n w) (μ.2 81) n)) 80 (rwF (gW v n w) (μ.2 80) r i)) := by
    intro q1 q2 q3 m
    induction m with
    | zero =>
      intro i hi z1 z2 z3 z4 z5 z6 z7 z8 z9
      obtain rfl : i = n := by omega
      refine wa_iload dX6_turn_274 rfl ?_
      refine wa_iload_n dX6_turn_276 rfl ?_
      refine wa_ic_geT 305 dX6_turn_277 (by decide) (le_nI (by omega) (by omega)) ?_
      refine wa_iload_n dX6_turn_305 rfl ?_
      refine wa_iret dX6_turn_306 rfl ?_
      exact hH q1 q2 q3 _
    | succ m ih =>
      intro i hi z1 z2 z3 z4 z5 z6 z7 z8 z9
      have e_ := ih (i + 1) (by omega)
      refine wa_iload dX6_turn_274 rfl ?_
      refine wa_iload_n dX6_turn_276 rfl ?_
      refine wa_ic_geF 305 dX6_turn_277 (by decide) (nle_nI (by omega) (by omega)) ?_
      refine wa_aload_n dX6_turn_280 rfl ?_
      refine wa_getR dX6_turn_281 fgX6_29 (by first | assumption | rfl) (by rfl) ?_
      refine wa_bipush (nI 64) dX6_turn_284 (by decide) ?_
      refine wa_iload_n dX6_turn_286 rfl ?_
      refine wa_imul dX6_turn_287 ?_
      refine wa_iload dX6_turn_288 rfl ?_
      refine wa_iadd dX6_turn_290 ?_
      refine wa_aload_n dX6_turn_291 rfl ?_
      refine wa_getR dX6_turn_292 fgX6_33 (by first | assumption | rfl) (by rfl) ?_
      refine wa_iload dX6_turn_295 rfl ?_
      refine wa_lald _ dX6_turn_297 (by first | assumption | rfl) (by first | with_reducible rfl | with_reducible assumption | with_reducible exact ix_ma _ _ _ | with_reducible exact ix_maa _ _ _ _ | with_reducible exact ix_a _ _ | with_reducible exact ix_mama _ _ _ _ _) (by omega) ?_
      refine wa_last _ dX6_turn_298 (by first | assumption | rfl) (by first | with_reducible rfl | with_reducible assumption | with_reducible exact ix_ma _ _ _ | with_reducible exact ix_maa _ _ _ _ | with_reducible exact ix_a _ _ | with_reducible exact ix_mama _ _ _ _ _) (by omega) ?_
      refine wa_iinc (nI 1) dX6_turn_299 rfl (by decide) (by decide) ?_
      refine wa_goto 274 dX6_turn_302 (by decide) ?_
      rw [sLb, bL_off (by omega), rb2e, frF_lt (by omega), rwF_s]
      simp only [nI_add]
      exact e_ z1 z2 z3 z4 z5 z6 z7 z8 z9
  have inner : ¬ tNO n w → ((w = 1 ∨ w = 2) → inB v n 4000000000) → ∀ i, i < n → (inB (gW v n w) (i + 1) 4000000000000000 → WA kX6_turn d Q 114 [some (.ref 73), some (.int (nI r)), some (.int (nI w)), some (.int (nI n)), some (.int (nI (i + 1))), none, none, none, none, none, none, none, none, none] [] (bL μ 81 (frF (gW v n w) (μ.2 81) (i + 1)))) → inB (gW v n w) i 4000000000000000 → ∀ m k, k + m = n → ∀ z1 z2, WA kX6_turn d Q 129 [some (.ref 73), some (.int (nI r)), some (.int (nI w)), some (.int (nI n)), some (.int (nI i)), some (.long (suZ (fcZ w n i) v k)), none, some (.long (slZ (fcZ w n i) v k)), none, some (.int (nI k)), z1, none, z2, none] [] (bL μ 81 (frF (gW v n w) (μ.2 81) i)) := by
    intro q1 q2 i hi K hbi m
    induction m with
    | zero =>
      intro k hk z1 z2
      obtain rfl : k = n := by omega
      obtain ⟨U, L, t1, t2, t3, t4, t5⟩ := two_z (fcZ w k i) v hn64 (fun q hq => fcZ_le hn64 hw hi hq) hv
      have t6 := gW_in v hn64 hw hi hv q2
      have t7 : (gW v k w i).toInt = U * 4294967296 + L := by
        rw [z_gW v hn64 hw hi, zin t6.1 t6.2, t2]
      rw [← z_gW v hn64 hw hi] at t5
      refine wa_iload dX6_turn_129 rfl ?_
      refine wa_iload_n dX6_turn_131 rfl ?_
      refine wa_ic_geT 193 dX6_turn_132 (by decide) (le_nI (by omega) (by omega)) ?_
      refine wa_lload dX6_turn_193 rfl ?_
      refine wa_lload dX6_turn_195 rfl ?_
      refine wa_bipush (nI 32) dX6_turn_197 (by decide) ?_
      refine wa_lshr dX6_turn_199 ?_
      refine wa_ladd dX6_turn_200 ?_
      refine wa_lstore dX6_turn_201 (by decide) ?_
      refine wa_lload dX6_turn_203 rfl ?_
      refine wa_ldc2 (4294967295) dX6_turn_205 lcX6_121 ?_
      refine wa_land dX6_turn_208 ?_
      refine wa_lstore dX6_turn_209 (by decide) ?_
      refine wa_lload dX6_turn_211 rfl ?_
      refine wa_ldc2 (-1000000) dX6_turn_213 lcX6_123 ?_
      refine wa_ldc2 (1000000) dX6_turn_216 lcX6_125 ?_
      refine wa_callS3 (k' := kX6_in) (d' := 0) dX6_turn_219 lmX6_60 ksX6_in (by decide) (by omega) (Nat.le_of_ble_eq_true rfl) ?_
      refine wp_X6_in (fun hu_ => ?_) (fun hu_ => ?_)
      · skip
        rw [k1e6m.1, k1e6m.2, z_sh, t1] at hu_
        refine wa_if_neT 228 dX6_turn_222 (by decide) (by decide) ?_
        refine wa_aload_n dX6_turn_228 rfl ?_
        refine wa_getR dX6_turn_229 fgX6_33 (by first | assumption | rfl) (by rfl) ?_
        refine wa_iload dX6_turn_232 rfl ?_
        refine wa_lload dX6_turn_234 rfl ?_
        refine wa_bipush (nI 32) dX6_turn_236 (by decide) ?_
        refine wa_lshl dX6_turn_238 ?_
        refine wa_lload dX6_turn_239 rfl ?_
        refine wa_ladd dX6_turn_241 ?_
        refine wa_last _ dX6_turn_242 (by first | assumption | rfl) (by first | with_reducible rfl | with_reducible assumption | with_reducible exact ix_ma _ _ _ | with_reducible exact ix_maa _ _ _ _ | with_reducible exact ix_a _ _ | with_reducible exact ix_mama _ _ _ _ _) (by omega) ?_
        refine wa_aload_n dX6_turn_243 rfl ?_
        refine wa_getR dX6_turn_244 fgX6_33 (by first | assumption | rfl) (by rfl) ?_
        refine wa_iload dX6_turn_247 rfl ?_
        refine wa_lald _ dX6_turn_249 (by first | assumption | rfl) (by first | with_reducible rfl | with_reducible assumption | with_reducible exact ix_ma _ _ _ | with_reducible exact ix_maa _ _ _ _ | with_reducible exact ix_a _ _ | with_reducible exact ix_mama _ _ _ _ _) (by omega) ?_
        refine wa_ldc2 (-4000000000000000) dX6_turn_250 lcX6_127 ?_
        refine wa_ldc2 (4000000000000000) dX6_turn_253 lcX6_129 ?_
        refine wa_callS3 (k' := kX6_in) (d' := 0) dX6_turn_256 lmX6_60 ksX6_in (by decide) (by omega) (Nat.le_of_ble_eq_true rfl) ?_
        refine wp_X6_in (fun hw_ => ?_) (fun hw_ => ?_)
        · skip
          rw [k4e15.1, k4e15.2, r2e, z_sh, t5] at hw_
          refine wa_if_neT 265 dX6_turn_259 (by decide) (by decide) ?_
          refine wa_iinc (nI 1) dX6_turn_265 rfl (by decide) (by decide) ?_
          refine wa_goto 114 dX6_turn_268 (by decide) ?_
          rw [z_sh, t5, sLb, frF_s]
          simp only [nI_add]
          refine WA.frg [true, true, true, true, true, false, false, false, false, false, false, false, false, false] ?_
          refine K (fun q hq => ?_)
          by_cases hqi : q = i
          · rw [hqi]; exact hw_
          · exact hbi q (by omega)
        · skip
          rw [k4e15.1, k4e15.2, r2e, z_sh, t5] at hw_
          refine wa_if_neF 265 dX6_turn_259 (by decide) (by decide) ?_
          refine wa_bipush (-16) dX6_turn_262 (by decide) ?_
          refine wa_iret dX6_turn_264 rfl ?_
          rw [sLb]; exact hG q1 q2 (fun q => by have := q i hi; omega) _
      · skip
        rw [k1e6m.1, k1e6m.2, z_sh, t1] at hu_
        refine wa_if_neF 228 dX6_turn_222 (by decide) (by decide) ?_
        refine wa_bipush (-16) dX6_turn_225 (by decide) ?_
        refine wa_iret dX6_turn_227 rfl ?_
        exact hG q1 q2 (fun q => by have := q i hi; omega) _
    | succ m ih =>
      intro k hk z1 z2
      have e_ := ih (k + 1) (by omega)
      have h3 : w = 3 → P2 n := fun q => Classical.byContradiction (fun q' => q1 (Or.inr ⟨q, q'⟩))
      refine wa_iload dX6_turn_129 rfl ?_
      refine wa_iload_n dX6_turn_131 rfl ?_
      refine wa_ic_geF 193 dX6_turn_132 (by decide) (nle_nI (by omega) (by omega)) ?_
      refine wa_aload_n dX6_turn_135 rfl ?_
      refine wa_getR dX6_turn_136 fgX6_29 (by first | assumption | rfl) (by rfl) ?_
      refine wa_bipush (nI 64) dX6_turn_139 (by decide) ?_
      refine wa_iload_n dX6_turn_141 rfl ?_
      refine wa_imul dX6_turn_142 ?_
      refine wa_iload dX6_turn_143 rfl ?_
      refine wa_iadd dX6_turn_145 ?_
      refine wa_lald _ dX6_turn_146 (by first | assumption | rfl) (by first | with_reducible rfl | with_reducible assumption | with_reducible exact ix_ma _ _ _ | with_reducible exact ix_maa _ _ _ _ | with_reducible exact ix_a _ _ | with_reducible exact ix_mama _ _ _ _ _) (by omega) ?_
      rw [ev]
      refine wa_lstore dX6_turn_147 (by decide) ?_
      refine wa_iload_n dX6_turn_149 rfl ?_
      refine wa_iload_n dX6_turn_150 rfl ?_
      refine wa_iload dX6_turn_151 rfl ?_
      refine wa_iload dX6_turn_153 rfl ?_
      refine wa_callS4 (k' := kX6_factor) (d' := 0) dX6_turn_155 lmX6_117 ksX6_factor (by decide) (by omega) (Nat.le_of_ble_eq_true rfl) ?_
      refine wp_X6_factor hn64 hw hi (by omega) (by assumption) ?_
      refine wa_lstore dX6_turn_158 (by decide) ?_
      refine wa_lo (lv' := [some (.ref 73), some (.int (nI r)), some (.int (nI w)), some (.int (nI n)), some (.int (nI i)), some (.long (suZ (fcZ w n i) v k)), none, some (.long (slZ (fcZ w n i) v k)), none, some (.int (nI k)), some (.long (v k)), none, some (.long (Int64.ofInt (fcZ w n i k))), none]) rfl ?_
      refine wa_lload dX6_turn_160 rfl ?_
      refine wa_lload dX6_turn_162 rfl ?_
      refine wa_lload dX6_turn_164 rfl ?_
      refine wa_bipush (nI 32) dX6_turn_166 (by decide) ?_
      refine wa_lshr dX6_turn_168 ?_
      refine wa_lmul dX6_turn_169 ?_
      refine wa_ladd dX6_turn_170 ?_
      refine wa_lstore dX6_turn_171 (by decide) ?_
      refine wa_lload dX6_turn_173 rfl ?_
      refine wa_lload dX6_turn_175 rfl ?_
      refine wa_lload dX6_turn_177 rfl ?_
      refine wa_ldc2 (4294967295) dX6_turn_179 lcX6_121 ?_
      refine wa_land dX6_turn_182 ?_
      refine wa_lmul dX6_turn_183 ?_
      refine wa_ladd dX6_turn_184 ?_
      refine wa_lstore dX6_turn_185 (by decide) ?_
      refine wa_lo (lv' := [some (.ref 73), some (.int (nI r)), some (.int (nI w)), some (.int (nI n)), some (.int (nI i)), some (.long (suZ (fcZ w n i) v (k + 1))), none, some (.long (slZ (fcZ w n i) v (k + 1))), none, some (.int (nI k)), some (.long (v k)), none, some (.long (Int64.ofInt (fcZ w n i k))), none]) (by rw [z_sh, suZ_s, slZ_s]; rfl) ?_
      refine wa_iinc (nI 1) dX6_turn_187 rfl (by decide) (by decide) ?_
      refine wa_goto 129 dX6_turn_190 (by decide) ?_
      skip
      simp only [nI_add]
      exact e_ (some (.long (v k))) (some (.long (Int64.ofInt (fcZ w n i k))))
  have outer : ¬ tNO n w → ((w = 1 ∨ w = 2) → inB v n 4000000000) → ∀ m i, i + m = n → inB (gW v n w) i 4000000000000000 → WA kX6_turn d Q 114 [some (.ref 73), some (.int (nI r)), some (.int (nI w)), some (.int (nI n)), some (.int (nI i)), none, none, none, none, none, none, none, none, none] [] (bL μ 81 (frF (gW v n w) (μ.2 81) i)) := by
    intro q1 q2 m
    induction m with
    | zero =>
      intro i hi hb
      obtain rfl : i = n := by omega
      have e_ := last q1 q2 hb i 0 (by omega) none none none none none none none none none
      rw [rwF_0] at e_
      have e1 : bL (bL μ 81 (frF (gW v i w) (μ.2 81) i)) 80 (μ.2 80) = bL μ 81 (frF (gW v i w) (μ.2 81) i) := by
        have := bL_self (bL μ 81 (frF (gW v i w) (μ.2 81) i)) 80
        rw [bL_off (by omega)] at this
        exact this
      rw [e1] at e_
      refine wa_iload dX6_turn_114 rfl ?_
      refine wa_iload_n dX6_turn_116 rfl ?_
      refine wa_ic_geT 271 dX6_turn_117 (by decide) (le_nI (by omega) (by omega)) ?_
      refine wa_iconst (nI 0) dX6_turn_271 (by decide) ?_
      refine wa_istore dX6_turn_272 (by decide) ?_
      exact e_
    | succ m ih =>
      intro i hi hb
      have e_ := inner q1 q2 i (by omega) (fun q => ih (i + 1) (by omega) q) hb n 0 (by omega) none none
      refine wa_iload dX6_turn_114 rfl ?_
      refine wa_iload_n dX6_turn_116 rfl ?_
      refine wa_ic_geF 271 dX6_turn_117 (by decide) (nle_nI (by omega) (by omega)) ?_
      refine wa_lconst (0) dX6_turn_120 (by decide) ?_
      refine wa_lstore dX6_turn_121 (by decide) ?_
      refine wa_lconst (0) dX6_turn_123 (by decide) ?_
      refine wa_lstore dX6_turn_124 (by decide) ?_
      refine wa_iconst (nI 0) dX6_turn_126 (by decide) ?_
      refine wa_istore dX6_turn_127 (by decide) ?_
      exact e_
  have K : ¬ tNO n w → ((w = 1 ∨ w = 2) → inB v n 4000000000) → ∀ z, WA kX6_turn d Q 111 [some (.ref 73), some (.int (nI r)), some (.int (nI w)), some (.int (nI n)), z, none, none, none, none, none, none, none, none, none] [] μ := by
    intro q1 q2 z
    have e_ := outer q1 q2 n 0 (by omega) (fun q hq => by omega)
    rw [frF_0, bL_self] at e_
    refine wa_iconst (nI 0) dX6_turn_111 (by decide) ?_
    refine wa_istore dX6_turn_112 (by decide) ?_
    exact e_
  have sums : ¬ tNO n w → (w = 1 ∨ w = 2) → ∀ m i, i + m = n → inB v i 4000000000 → WA kX6_turn d Q 62 [some (.ref 73), some (.int (nI r)), some (.int (nI w)), some (.int (nI n)), some (.int (nI i)), none, none, none, none, none, none, none, none, none] [] μ := by
    intro q1 q2 m
    have ev0 : ∀ i, μ.2 80 (64 * r + i) = v i := fun i => by rw [← hvv]; rfl
    induction m with
    | zero =>
      intro i hi hb
      obtain rfl : i = n := by omega
      refine wa_iload dX6_turn_62 rfl ?_
      refine wa_iload_n dX6_turn_64 rfl ?_
      refine wa_ic_geT 111 dX6_turn_65 (by decide) (le_nI (by omega) (by omega)) ?_
      exact K q1 (fun _ => hb) _
    | succ m ih =>
      intro i hi hb
      refine wa_iload dX6_turn_62 rfl ?_
      refine wa_iload_n dX6_turn_64 rfl ?_
      refine wa_ic_geF 111 dX6_turn_65 (by decide) (nle_nI (by omega) (by omega)) ?_
      refine wa_iload_n dX6_turn_68 rfl ?_
      refine wa_iconst (nI 1) dX6_turn_69 (by decide) ?_
      refine wa_ic_eq 78 dX6_turn_70 (by decide) (fun c70_1 => ?_) (fun c70_1 => ?_)
      · try simp (disch := omega) only [nI_toInt, Int32.toInt_toInt64] at c70_1
        refine wa_aload_n dX6_turn_78 rfl ?_
        refine wa_getR dX6_turn_79 fgX6_29 (by first | assumption | rfl) (by rfl) ?_
        refine wa_bipush (nI 64) dX6_turn_82 (by decide) ?_
        refine wa_iload_n dX6_turn_84 rfl ?_
        refine wa_imul dX6_turn_85 ?_
        refine wa_iload dX6_turn_86 rfl ?_
        refine wa_iadd dX6_turn_88 ?_
        refine wa_lald _ dX6_turn_89 (by first | assumption | rfl) (by first | with_reducible rfl | with_reducible assumption | with_reducible exact ix_ma _ _ _ | with_reducible exact ix_maa _ _ _ _ | with_reducible exact ix_a _ _ | with_reducible exact ix_mama _ _ _ _ _) (by omega) ?_
        refine wa_ldc2 (-4000000000) dX6_turn_90 lcX6_113 ?_
        refine wa_ldc2 (4000000000) dX6_turn_93 lcX6_115 ?_
        refine wa_callS3 (k' := kX6_in) (d' := 0) dX6_turn_96 lmX6_60 ksX6_in (by decide) (by omega) (Nat.le_of_ble_eq_true rfl) ?_
        refine wp_X6_in (fun hw_ => ?_) (fun hw_ => ?_)
        · skip
          rw [ev0 i, k4e9n, k4e9.1] at hw_
          refine wa_if_neT 105 dX6_turn_99 (by decide) (by decide) ?_
          refine wa_iinc (nI 1) dX6_turn_105 rfl (by decide) (by decide) ?_
          refine wa_goto 62 dX6_turn_108 (by decide) ?_
          simp only [nI_add]
          refine ih (i + 1) (by omega) (fun q hq => ?_)
          by_cases hqi : q = i
          · rw [hqi]; exact hw_
          · exact hb q (by omega)
        · skip
          rw [ev0 i, k4e9n, k4e9.1] at hw_
          refine wa_if_neF 105 dX6_turn_99 (by decide) (by decide) ?_
          refine wa_bipush (-16) dX6_turn_102 (by decide) ?_
          refine wa_iret dX6_turn_104 rfl ?_
          exact hF q1 q2 (fun q => by have := q i (by omega); omega)
      · try simp (disch := omega) only [nI_toInt, Int32.toInt_toInt64] at c70_1
        refine wa_iload_n dX6_turn_73 rfl ?_
        refine wa_iconst (nI 2) dX6_turn_74 (by decide) ?_
        refine wa_ic_ne 111 dX6_turn_75 (by decide) (fun c75_3 => ?_) (fun c75_3 => ?_)
        · try simp (disch := omega) only [nI_toInt, Int32.toInt_toInt64] at c75_3
          exact absurd q2 (by omega)
        · try simp (disch := omega) only [nI_toInt, Int32.toInt_toInt64] at c75_3
          refine wa_aload_n dX6_turn_78 rfl ?_
          refine wa_getR dX6_turn_79 fgX6_29 (by first | assumption | rfl) (by rfl) ?_
          refine wa_bipush (nI 64) dX6_turn_82 (by decide) ?_
          refine wa_iload_n dX6_turn_84 rfl ?_
          refine wa_imul dX6_turn_85 ?_
          refine wa_iload dX6_turn_86 rfl ?_
          refine wa_iadd dX6_turn_88 ?_
          refine wa_lald _ dX6_turn_89 (by first | assumption | rfl) (by first | with_reducible rfl | with_reducible assumption | with_reducible exact ix_ma _ _ _ | with_reducible exact ix_maa _ _ _ _ | with_reducible exact ix_a _ _ | with_reducible exact ix_mama _ _ _ _ _) (by omega) ?_
          refine wa_ldc2 (-4000000000) dX6_turn_90 lcX6_113 ?_
          refine wa_ldc2 (4000000000) dX6_turn_93 lcX6_115 ?_
          refine wa_callS3 (k' := kX6_in) (d' := 0) dX6_turn_96 lmX6_60 ksX6_in (by decide) (by omega) (Nat.le_of_ble_eq_true rfl) ?_
          refine wp_X6_in (fun hw_ => ?_) (fun hw_ => ?_)
          · skip
            rw [ev0 i, k4e9n, k4e9.1] at hw_
            refine wa_if_neT 105 dX6_turn_99 (by decide) (by decide) ?_
            refine wa_iinc (nI 1) dX6_turn_105 rfl (by decide) (by decide) ?_
            refine wa_goto 62 dX6_turn_108 (by decide) ?_
            simp only [nI_add]
            refine ih (i + 1) (by omega) (fun q hq => ?_)
            by_cases hqi : q = i
            · rw [hqi]; exact hw_
            · exact hb q (by omega)
          · skip
            rw [ev0 i, k4e9n, k4e9.1] at hw_
            refine wa_if_neF 105 dX6_turn_99 (by decide) (by decide) ?_
            refine wa_bipush (-16) dX6_turn_102 (by decide) ?_
            refine wa_iret dX6_turn_104 rfl ?_
            exact hF q1 q2 (fun q => by have := q i (by omega); omega)
  have K59 : ¬ tNO n w → WA kX6_turn d Q 59 [some (.ref 73), some (.int (nI r)), some (.int (nI w)), some (.int (nI n)), none, none, none, none, none, none, none, none, none, none] [] μ := by
    intro q1
    by_cases q2 : w = 1 ∨ w = 2
    · refine wa_iconst (nI 0) dX6_turn_59 (by decide) ?_
      refine wa_istore dX6_turn_60 (by decide) ?_
      exact sums q1 q2 n 0 (by omega) (fun q hq => by omega)
    · have K' := K q1 (fun q => absurd q q2)
      have er : (nI r).toInt = r := nI_toInt (by omega)
      have f1 : ¬ (nI w).toInt = (nI 1).toInt := by rw [ew, nI_1z]; omega
      have f2 : ¬ (nI w).toInt = (nI 2).toInt := by rw [ew, nI_2z]; omega
      refine wa_iconst (nI 0) dX6_turn_59 (by decide) ?_
      refine wa_istore dX6_turn_60 (by decide) ?_
      refine wa_iload dX6_turn_62 rfl ?_
      refine wa_iload_n dX6_turn_64 rfl ?_
      refine wa_ic_ge 111 dX6_turn_65 (by decide) (fun c65_1 => ?_) (fun c65_1 => ?_)
      · try simp (disch := omega) only [nI_toInt, Int32.toInt_toInt64] at c65_1
        exact K' _
      · try simp (disch := omega) only [nI_toInt, Int32.toInt_toInt64] at c65_1
        refine wa_iload_n dX6_turn_68 rfl ?_
        refine wa_iconst (nI 1) dX6_turn_69 (by decide) ?_
        refine wa_ic_eqF 78 dX6_turn_70 (by decide) (f1) ?_
        refine wa_iload_n dX6_turn_73 rfl ?_
        refine wa_iconst (nI 2) dX6_turn_74 (by decide) ?_
        refine wa_ic_neT 111 dX6_turn_75 (by decide) (f2) ?_
        exact K' _
  have er : (nI r).toInt = r := nI_toInt (by omega)
  refine wa_iload_n dX6_turn_0 rfl ?_
  refine wa_callS1 (k' := kX6_isRow) (d' := 1) dX6_turn_1 lmX6_100 ksX6_isRow (by decide) (by omega) (Nat.le_of_ble_eq_true rfl) ?_
  refine wp_X6_isRow (by omega) (fun _ _ _ => ?_) (fun hoob_ => absurd hoob_ (by unfold oob; omega))
  refine wa_if_eqF 19 dX6_turn_4 (by decide) (by decide) ?_
  refine wa_iload_n dX6_turn_7 rfl ?_
  refine wa_i2l dX6_turn_8 ?_
  refine wa_lconst (0) dX6_turn_9 (by decide) ?_
  refine wa_ldc2 (3) dX6_turn_10 lcX6_106 ?_
  refine wa_callS3 (k' := kX6_in) (d' := 0) dX6_turn_13 lmX6_60 ksX6_in (by decide) (by omega) (Nat.le_of_ble_eq_true rfl) ?_
  refine wp_X6_in (fun hi_ => ?_) (fun hi_ => ?_)
  · skip
    simp only [Int32.toInt_toInt64, z64, z3i] at hi_
    try (exfalso; omega)
    all_goals
      skip
      refine wa_if_neT 22 dX6_turn_16 (by decide) (by decide) ?_
      refine wa_aload_n dX6_turn_22 rfl ?_
      refine wa_getR dX6_turn_23 fgX6_26 (by first | assumption | rfl) (by rfl) ?_
      refine wa_iload_n dX6_turn_26 rfl ?_
      refine wa_iald _ dX6_turn_27 (by first | assumption | rfl) (by first | with_reducible rfl | with_reducible assumption | with_reducible exact ix_ma _ _ _ | with_reducible exact ix_maa _ _ _ _ | with_reducible exact ix_a _ _ | with_reducible exact ix_mama _ _ _ _ _) (by omega) ?_
      rw [hn]
      refine wa_istore_n dX6_turn_28 (by decide) ?_
      refine wa_iload_n dX6_turn_29 rfl ?_
      refine wa_iconst (nI 1) dX6_turn_30 (by decide) ?_
      refine wa_ic_eq 39 dX6_turn_31 (by decide) (fun c31_3 => ?_) (fun c31_3 => ?_)
      · try simp (disch := omega) only [nI_toInt, Int32.toInt_toInt64] at c31_3
        try (exfalso; omega)
        all_goals
          skip
          refine wa_iload_n dX6_turn_39 rfl ?_
          refine wa_iconst (nI 2) dX6_turn_40 (by decide) ?_
          refine wa_ic_lt 56 dX6_turn_41 (by decide) (fun c41_4 => ?_) (fun c41_4 => ?_)
          · try simp (disch := omega) only [nI_toInt, Int32.toInt_toInt64] at c41_4
            try (exfalso; omega)
            all_goals
              skip
              refine wa_bipush (-3) dX6_turn_56 (by decide) ?_
              refine wa_iret dX6_turn_58 rfl ?_
              first | exact hNO (Or.inl ⟨by omega, by omega⟩) | exact hNO (Or.inr ⟨by omega, hp_⟩)
          · try simp (disch := omega) only [nI_toInt, Int32.toInt_toInt64] at c41_4
            try (exfalso; omega)
            all_goals
              skip
              refine wa_iload_n dX6_turn_44 rfl ?_
              refine wa_iconst (nI 3) dX6_turn_45 (by decide) ?_
              refine wa_ic_ne 59 dX6_turn_46 (by decide) (fun c46_5 => ?_) (fun c46_5 => ?_)
              · try simp (disch := omega) only [nI_toInt, Int32.toInt_toInt64] at c46_5
                try (exfalso; omega)
                all_goals
                  skip
                  refine K59 (fun q => ?_)
                  rcases q with ⟨a_, b_⟩ | ⟨a_, b_⟩
                  · omega
                  · first | exact b_ hp_ | omega
              · try simp (disch := omega) only [nI_toInt, Int32.toInt_toInt64] at c46_5
                try (exfalso; omega)
                all_goals
                  skip
                  refine wa_iload_n dX6_turn_49 rfl ?_
                  refine wa_callS1 (k' := kX6_isPower) (d' := 0) dX6_turn_50 lmX6_110 ksX6_isPower (by decide) (by omega) (Nat.le_of_ble_eq_true rfl) ?_
                  refine wp_X6_isPower hn64 (fun hp_ => ?_) (fun hp_ => ?_)
                  · skip
                    try (exfalso; omega)
                    all_goals
                      skip
                      refine wa_if_neT 59 dX6_turn_53 (by decide) (by decide) ?_
                      refine K59 (fun q => ?_)
                      rcases q with ⟨a_, b_⟩ | ⟨a_, b_⟩
                      · omega
                      · first | exact b_ hp_ | omega
                  · skip
                    try (exfalso; omega)
                    all_goals
                      skip
                      refine wa_if_neF 59 dX6_turn_53 (by decide) (by decide) ?_
                      refine wa_bipush (-3) dX6_turn_56 (by decide) ?_
                      refine wa_iret dX6_turn_58 rfl ?_
                      first | exact hNO (Or.inl ⟨by omega, by omega⟩) | exact hNO (Or.inr ⟨by omega, hp_⟩)
      · try simp (disch := omega) only [nI_toInt, Int32.toInt_toInt64] at c31_3
        try (exfalso; omega)
        all_goals
          skip
          refine wa_iload_n dX6_turn_34 rfl ?_
          refine wa_iconst (nI 2) dX6_turn_35 (by decide) ?_
          refine wa_ic_ne 44 dX6_turn_36 (by decide) (fun c36_7 => ?_) (fun c36_7 => ?_)
          · try simp (disch := omega) only [nI_toInt, Int32.toInt_toInt64] at c36_7
            try (exfalso; omega)
            all_goals
              skip
              refine wa_iload_n dX6_turn_44 rfl ?_
              refine wa_iconst (nI 3) dX6_turn_45 (by decide) ?_
              refine wa_ic_ne 59 dX6_turn_46 (by decide) (fun c46_8 => ?_) (fun c46_8 => ?_)
              · try simp (disch := omega) only [nI_toInt, Int32.toInt_toInt64] at c46_8
                try (exfalso; omega)
                all_goals
                  skip
                  refine K59 (fun q => ?_)
                  rcases q with ⟨a_, b_⟩ | ⟨a_, b_⟩
                  · omega
                  · first | exact b_ hp_ | omega
              · try simp (disch := omega) only [nI_toInt, Int32.toInt_toInt64] at c46_8
                try (exfalso; omega)
                all_goals
                  skip
                  refine wa_iload_n dX6_turn_49 rfl ?_
                  refine wa_callS1 (k' := kX6_isPower) (d' := 0) dX6_turn_50 lmX6_110 ksX6_isPower (by decide) (by omega) (Nat.le_of_ble_eq_true rfl) ?_
                  refine wp_X6_isPower hn64 (fun hp_ => ?_) (fun hp_ => ?_)
                  · skip
                    try (exfalso; omega)
                    all_goals
                      skip
                      refine wa_if_neT 59 dX6_turn_53 (by decide) (by decide) ?_
                      refine K59 (fun q => ?_)
                      rcases q with ⟨a_, b_⟩ | ⟨a_, b_⟩
                      · omega
                      · first | exact b_ hp_ | omega
                  · skip
                    try (exfalso; omega)
                    all_goals
                      skip
                      refine wa_if_neF 59 dX6_turn_53 (by decide) (by decide) ?_
                      refine wa_bipush (-3) dX6_turn_56 (by decide) ?_
                      refine wa_iret dX6_turn_58 rfl ?_
                      first | exact hNO (Or.inl ⟨by omega, by omega⟩) | exact hNO (Or.inr ⟨by omega, hp_⟩)
          · try simp (disch := omega) only [nI_toInt, Int32.toInt_toInt64] at c36_7
            try (exfalso; omega)
            all_goals
              skip
              refine wa_iload_n dX6_turn_39 rfl ?_
              refine wa_iconst (nI 2) dX6_turn_40 (by decide) ?_
              refine wa_ic_lt 56 dX6_turn_41 (by decide) (fun c41_10 => ?_) (fun c41_10 => ?_)
              · try simp (disch := omega) only [nI_toInt, Int32.toInt_toInt64] at c41_10
                try (exfalso; omega)
                all_goals
                  skip
                  refine wa_bipush (-3) dX6_turn_56 (by decide) ?_
                  refine wa_iret dX6_turn_58 rfl ?_
                  first | exact hNO (Or.inl ⟨by omega, by omega⟩) | exact hNO (Or.inr ⟨by omega, hp_⟩)
              · try simp (disch := omega) only [nI_toInt, Int32.toInt_toInt64] at c41_10
                try (exfalso; omega)
                all_goals
                  skip
                  refine wa_iload_n dX6_turn_44 rfl ?_
                  refine wa_iconst (nI 3) dX6_turn_45 (by decide) ?_
                  refine wa_ic_ne 59 dX6_turn_46 (by decide) (fun c46_11 => ?_) (fun c46_11 => ?_)
                  · try simp (disch := omega) only [nI_toInt, Int32.toInt_toInt64] at c46_11
                    try (exfalso; omega)
                    all_goals
                      skip
                      refine K59 (fun q => ?_)
                      rcases q with ⟨a_, b_⟩ | ⟨a_, b_⟩
                      · omega
                      · first | exact b_ hp_ | omega
                  · try simp (disch := omega) only [nI_toInt, Int32.toInt_toInt64] at c46_11
                    try (exfalso; omega)
                    all_goals
                      skip
                      refine wa_iload_n dX6_turn_49 rfl ?_
                      refine wa_callS1 (k' := kX6_isPower) (d' := 0) dX6_turn_50 lmX6_110 ksX6_isPower (by decide) (by omega) (Nat.le_of_ble_eq_true rfl) ?_
                      refine wp_X6_isPower hn64 (fun hp_ => ?_) (fun hp_ => ?_)
                      · skip
                        try (exfalso; omega)
                        all_goals
                          skip
                          refine wa_if_neT 59 dX6_turn_53 (by decide) (by decide) ?_
                          refine K59 (fun q => ?_)
                          rcases q with ⟨a_, b_⟩ | ⟨a_, b_⟩
                          · omega
                          · first | exact b_ hp_ | omega
                      · skip
                        try (exfalso; omega)
                        all_goals
                          skip
                          refine wa_if_neF 59 dX6_turn_53 (by decide) (by decide) ?_
                          refine wa_bipush (-3) dX6_turn_56 (by decide) ?_
                          refine wa_iret dX6_turn_58 rfl ?_
                          first | exact hNO (Or.inl ⟨by omega, by omega⟩) | exact hNO (Or.inr ⟨by omega, hp_⟩)
  · skip
    simp only [Int32.toInt_toInt64, z64, z3i] at hi_
    try (exfalso; omega)
    all_goals
      skip
      refine wa_if_neF 22 dX6_turn_16 (by decide) (by decide) ?_
      refine wa_bipush (-2) dX6_turn_19 (by decide) ?_
      refine wa_iret dX6_turn_21 rfl ?_
      exact hQ
