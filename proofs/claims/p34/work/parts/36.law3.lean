/-! THE LAW: what is held against what, from the three rows on -/
theorem nI_subZ (a b : Nat) : nI a - nI b = Int32.ofInt ((a : Int) - (b : Int)) := by rw [z_n, z_n, ← Int32.ofInt_sub]
section LAW3
variable {p : Program} {l : Launch} {e : Env} {s : State} {m : MethodId} {below : List Frame} {meth : Method} {c : Code} {b L : Nat} {xs : Nat → Int32} {G : WG}
theorem wl_283 (C : LK p s m meth c b L xs G) {n q : Nat} {a1 a2 fv : Int} {V U : Nat → Int} {μ : Mem} (hn : n ≤ 64) (hq : q < 7) (hnq : n = 2 ^ q) (ha1 : -4 ≤ a1 ∧ a1 ≤ 4) (ha2 : -4 ≤ a2 ∧ a2 ≤ 4) (hV : bnd V n 1000) (h0 : RowIs μ 0 n (tonZ V q)) (h1 : RowIs μ 1 n (tonZ U q)) (h2 : RowIs μ 2 n (fun i => a1 * tonZ V q i + a2 * tonZ U q i)) (hA : ArrIs μ 73 n V) (hf : sumZ (fun i => tonZ V q i * tonZ V q i) n = (n : Int) * fv) : WL p l e s m below meth c b G 283 [some (.ref 75), some (.ref 0), some (.int (nI n)), some (.ref 73), some (.ref 74), none, none, some (.long (Int64.ofInt fv)), none, none, none, some (.int (Int32.ofInt a1)), some (.int (Int32.ofInt a2)), none, none, none, none, none, none] [] μ := by
  have hn0 : 0 < n := by have := Nat.two_pow_pos q; omega
  have hT : bnd (tonZ V q) n 100000000 := ton_b hq hnq hV (by omega)
  refine wl_aload_n C dL_law_283 rfl ?_
  refine wl_sipush C (nI 142) dL_law_284 (by decide) ?_
  refine wl_cell C _ dL_law_287 (by first | with_reducible rfl | with_reducible exact ix_a _ _) (by omega) (Nat.le_of_ble_eq_true rfl) (fun v_287 => ?_)
  refine wl_iload_n C dL_law_290 rfl ?_
  refine wl_up C dL_law_291 (by omega) (by omega) (Nat.le_of_ble_eq_true rfl) (fun r_291 hr_291 => ?_)
  refine wl_istore C dL_law_294 (by decide) ?_
  refine wl_aload_n C dL_law_296 rfl ?_
  refine wl_iconst C (nI 0) dL_law_297 (by decide) ?_
  refine wl_iconst C (nI 0) dL_law_298 (by decide) ?_
  refine wl_iload C dL_law_299 rfl ?_
  refine wl_callV3 C (k' := kX5_force) dL_law_301 lmL_36 kvX5_force (by first | assumption | rfl) (by rfl) (by decide) (Nat.le_of_ble_eq_true rfl) ?_
  refine wp_force (n := n) (a := 0) (b := r_291) (by omega) (by omega) hn (by omega) (by omega) (by omega) h0 hT ?_
  refine wl_iload C dL_law_304 rfl ?_
  refine wl_iconst C (nI 1) dL_law_306 (by decide) ?_
  refine wl_iadd C dL_law_307 ?_
  refine wl_iload_n C dL_law_308 rfl ?_
  rw [nI_add]
  refine wl_ic_ge C 325 dL_law_309 (by decide) (fun c309_2 => ?_) (fun c309_2 => ?_)
  · try simp (disch := omega) only [nI_toInt, Int32.toInt_toInt64] at c309_2
    refine wl_lconst C (0) dL_law_325 (by decide) ?_
    refine wl_ladd C dL_law_326 ?_
    rw [show (0 : Int64) = Int64.ofInt 0 from rfl, ← Int64.ofInt_add, Int.add_zero, fr_one (tonZ V q) (by omega)]
    refine wl_lstore C dL_law_327 (by decide) ?_
    refine wl_lload C dL_law_329 rfl ?_
    refine wl_iload_n C dL_law_331 rfl ?_
    refine wl_i2l C dL_law_332 ?_
    refine wl_lload C dL_law_333 rfl ?_
    refine wl_lmul C dL_law_335 ?_
    rw [z_nI (by omega), ← Int64.ofInt_mul, hf]
    refine wl_lc_eqT C 342 dL_law_336 dL_law_337 (by decide) (rfl) ?_
    refine wl_iconst C (-1) dL_law_342 (by decide) ?_
    refine wl_istore C dL_law_343 (by decide) ?_
    refine wl_iconst C (nI 0) dL_law_345 (by decide) ?_
    refine wl_istore C dL_law_346 (by decide) ?_
    refine wl_frg [true, true, true, true, true, false, false, false, false, false, false, true, true, false, false, false, false, true, false] ?_
    exact wl_348 C hn hq hnq ha1 ha2 hV h0 h1 h2 hA n 0 (by omega)
  · try simp (disch := omega) only [nI_toInt, Int32.toInt_toInt64] at c309_2
    refine wl_aload_n C dL_law_312 rfl ?_
    refine wl_iconst C (nI 0) dL_law_313 (by decide) ?_
    refine wl_iload C dL_law_314 rfl ?_
    refine wl_iconst C (nI 1) dL_law_316 (by decide) ?_
    refine wl_iadd C dL_law_317 ?_
    rw [nI_add]
    refine wl_iload_n C dL_law_318 rfl ?_
    refine wl_callV3 C (k' := kX5_force) dL_law_319 lmL_36 kvX5_force (by first | assumption | rfl) (by rfl) (by decide) (Nat.le_of_ble_eq_true rfl) ?_
    refine wp_force (n := n) (a := r_291 + 1) (b := n) (by omega) (by omega) hn (by omega) (by omega) (by omega) h0 hT ?_
    refine wl_goto C 326 dL_law_322 (by decide) ?_
    refine wl_ladd C dL_law_326 ?_
    rw [← Int64.ofInt_add, fr_two]
    refine wl_lstore C dL_law_327 (by decide) ?_
    refine wl_lload C dL_law_329 rfl ?_
    refine wl_iload_n C dL_law_331 rfl ?_
    refine wl_i2l C dL_law_332 ?_
    refine wl_lload C dL_law_333 rfl ?_
    refine wl_lmul C dL_law_335 ?_
    rw [z_nI (by omega), ← Int64.ofInt_mul, hf]
    refine wl_lc_eqT C 342 dL_law_336 dL_law_337 (by decide) (rfl) ?_
    refine wl_iconst C (-1) dL_law_342 (by decide) ?_
    refine wl_istore C dL_law_343 (by decide) ?_
    refine wl_iconst C (nI 0) dL_law_345 (by decide) ?_
    refine wl_istore C dL_law_346 (by decide) ?_
    refine wl_frg [true, true, true, true, true, false, false, false, false, false, false, true, true, false, false, false, false, true, false] ?_
    exact wl_348 C hn hq hnq ha1 ha2 hV h0 h1 h2 hA n 0 (by omega)
theorem wl_238 (C : LK p s m meth c b L xs G) {n q : Nat} {a1 a2 fv cv : Int} {V U : Nat → Int} {μ : Mem} (hn : n ≤ 64) (hq : q < 7) (hnq : n = 2 ^ q) (ha1 : -4 ≤ a1 ∧ a1 ≤ 4) (ha2 : -4 ≤ a2 ∧ a2 ≤ 4) (hV : bnd V n 1000) (hU : bnd U n 1000) (h0 : RowIs μ 0 n (tonZ V q)) (h1 : RowIs μ 1 n (tonZ U q)) (h2 : RowIs μ 2 n (fun i => a1 * tonZ V q i + a2 * tonZ U q i)) (hA : ArrIs μ 73 n V) (hf : sumZ (fun i => tonZ V q i * tonZ V q i) n = (n : Int) * fv) (hc : sumZ (fun i => tonZ V q i * tonZ U q i) n = (n : Int) * cv) : WL p l e s m below meth c b G 238 [some (.ref 75), some (.ref 0), some (.int (nI n)), some (.ref 73), some (.ref 74), some (.long (Int64.ofInt (sumZ V n))), none, some (.long (Int64.ofInt fv)), none, some (.long (Int64.ofInt cv)), none, some (.int (Int32.ofInt a1)), some (.int (Int32.ofInt a2)), none, none, none, none, none, none] [] μ := by
  have hn0 : 0 < n := by have := Nat.two_pow_pos q; omega
  have hT : bnd (tonZ V q) n 100000000 := ton_b hq hnq hV (by omega)
  have hR : bnd (tonZ U q) n 100000000 := ton_b hq hnq hU (by omega)
  have hz : tonZ V q 0 = sumZ V n := by rw [ton_0 hq, hnq]
  refine wl_aload_n C dL_law_238 rfl ?_
  refine wl_iconst C (nI 0) dL_law_239 (by decide) ?_
  refine wl_iconst C (nI 0) dL_law_240 (by decide) ?_
  refine wl_iload_n C dL_law_241 rfl ?_
  refine wl_callV3 C (k' := kX5_force) dL_law_242 lmL_36 kvX5_force (by first | assumption | rfl) (by rfl) (by decide) (Nat.le_of_ble_eq_true rfl) ?_
  refine wp_force (n := n) (a := 0) (b := n) (by omega) (by omega) hn (by omega) (by omega) (by omega) h0 hT ?_
  refine wl_iload_n C dL_law_245 rfl ?_
  refine wl_i2l C dL_law_246 ?_
  refine wl_lload C dL_law_247 rfl ?_
  refine wl_lmul C dL_law_249 ?_
  rw [z_nI (by omega), ← Int64.ofInt_mul, fr_all (Int.le_refl _), hf]
  refine wl_lc_neF C 281 dL_law_250 dL_law_251 (by decide) (fun q_ => q_ rfl) ?_
  refine wl_aload_n C dL_law_254 rfl ?_
  refine wl_iconst C (nI 0) dL_law_255 (by decide) ?_
  refine wl_iconst C (nI 1) dL_law_256 (by decide) ?_
  refine wl_callV2 C (k' := kX5_cross) dL_law_257 lmL_40 kvX5_cross (by first | assumption | rfl) (by rfl) (by decide) (Nat.le_of_ble_eq_true rfl) ?_
  refine wp_cross (n := n) (by omega) (by omega) (by omega) hn h0 h1 hT hR ?_
  refine wl_iload_n C dL_law_260 rfl ?_
  refine wl_i2l C dL_law_261 ?_
  refine wl_lload C dL_law_262 rfl ?_
  refine wl_lmul C dL_law_264 ?_
  rw [z_nI (by omega), ← Int64.ofInt_mul, hc]
  refine wl_lc_neF C 281 dL_law_265 dL_law_266 (by decide) (fun q_ => q_ rfl) ?_
  refine wl_aload_n C dL_law_269 rfl ?_
  refine wl_iconst C (nI 0) dL_law_270 (by decide) ?_
  refine wl_iconst C (nI 0) dL_law_271 (by decide) ?_
  refine wl_callV2 C (k' := kX5_number) dL_law_272 lmL_51 kvX5_number (by first | assumption | rfl) (by rfl) (by decide) (Nat.le_of_ble_eq_true rfl) ?_
  refine wp_number (n := n) (i := 0) (by omega) (by omega) hn (by omega) h0 ?_
  refine wl_lload C dL_law_275 rfl ?_
  rw [hz]
  refine wl_lc_eqT C 283 dL_law_277 dL_law_278 (by decide) (rfl) ?_
  refine wl_frg [true, true, true, true, true, false, false, true, false, false, false, true, true, false, false, false, false, false, false] ?_
  exact wl_283 C hn hq hnq ha1 ha2 hV h0 h1 h2 hA hf
theorem wl_192 (C : LK p s m meth c b L xs G) {n q : Nat} {a1 a2 : Int} {V U : Nat → Int} {μ : Mem} (hn : n ≤ 64) (hq : q < 7) (hnq : n = 2 ^ q) (ha1 : -4 ≤ a1 ∧ a1 ≤ 4) (ha2 : -4 ≤ a2 ∧ a2 ≤ 4) (hV : bnd V n 1000) (hU : bnd U n 1000) (h0 : RowIs μ 0 n V) (h1 : RowIs μ 1 n U) (h2 : RowIs μ 2 n V) (hA : ArrIs μ 73 n V) : WL p l e s m below meth c b G 192 [some (.ref 75), some (.ref 0), some (.int (nI n)), some (.ref 73), some (.ref 74), some (.long (Int64.ofInt (sumZ V n))), none, some (.long (Int64.ofInt (sumZ (fun i => V i * V i) n))), none, some (.long (Int64.ofInt (sumZ (fun i => V i * U i) n))), none, some (.int (Int32.ofInt a1)), some (.int (Int32.ofInt a2)), none, none, none, none, none, none] [] μ := by
  have hV6 : bnd V n 1000000 := fun i hi => by have := hV i hi; omega
  have hU6 : bnd U n 1000000 := fun i hi => by have := hU i hi; omega
  have hM : bnd (fun i => a1 * V i + a2 * U i) n 1000000 := fun i hi => by
    have h3 := zmul_le ha1.1 ha1.2 (hV i hi).1 (hV i hi).2
    have h4 := zmul_le ha2.1 ha2.2 (hU i hi).1 (hU i hi).2
    show -1000000 ≤ a1 * V i + a2 * U i ∧ a1 * V i + a2 * U i ≤ 1000000
    omega
  refine wl_aload_n C dL_law_192 rfl ?_
  refine wl_iconst C (nI 2) dL_law_193 (by decide) ?_
  refine wl_iload C dL_law_194 rfl ?_
  refine wl_iconst C (nI 1) dL_law_196 (by decide) ?_
  refine wl_iload C dL_law_197 rfl ?_
  refine wl_callV4 C (k' := kX5_mix) dL_law_199 lmL_44 kvX5_mix (by first | assumption | rfl) (by rfl) (by decide) (Nat.le_of_ble_eq_true rfl) ?_
  refine wp_mix (by omega) (by omega) (by omega) hn (by omega) (by omega) h2 h1 hV6 hU6 (fun ν1 g2_ k1_ => ?_)
  refine wl_iload_n C dL_law_202 rfl ?_
  refine wl_ic_neF C 236 dL_law_203 (by decide) (fun q_ => q_ rfl) ?_
  have b0_ := h0.fr (k1_ (43 + 5 * 0) (by omega)).1 (k1_ (43 + 5 * 0 + 1) (by omega)).2; have b1_ := h1.fr (k1_ (43 + 5 * 1) (by omega)).1 (k1_ (43 + 5 * 1 + 1) (by omega)).2; have bA_ := hA.fr (k1_ 73 (by omega)).2
  refine wl_aload_n C dL_law_206 rfl ?_
  refine wl_iconst C (nI 0) dL_law_207 (by decide) ?_
  refine wl_iconst C (nI 3) dL_law_208 (by decide) ?_
  refine wl_callV2 C (k' := kX5_turn) dL_law_209 lmL_48 kvX5_turn (by first | assumption | rfl) (by rfl) (by decide) (Nat.le_of_ble_eq_true rfl) ?_
  refine wp_tones (p := q) (by omega) (by omega) hq hnq hn b0_ hV6 (fun ν2 t0_ k2_ => ?_)
  refine wl_iload_n C dL_law_212 rfl ?_
  refine wl_ic_neF C 236 dL_law_213 (by decide) (fun q_ => q_ rfl) ?_
  have c1_ := b1_.fr (k2_ (43 + 5 * 1) (by omega)).1 (k2_ (43 + 5 * 1 + 1) (by omega)).2; have c2_ := g2_.fr (k2_ (43 + 5 * 2) (by omega)).1 (k2_ (43 + 5 * 2 + 1) (by omega)).2; have cA_ := bA_.fr (k2_ 73 (by omega)).2
  refine wl_aload_n C dL_law_216 rfl ?_
  refine wl_iconst C (nI 1) dL_law_217 (by decide) ?_
  refine wl_iconst C (nI 3) dL_law_218 (by decide) ?_
  refine wl_callV2 C (k' := kX5_turn) dL_law_219 lmL_48 kvX5_turn (by first | assumption | rfl) (by rfl) (by decide) (Nat.le_of_ble_eq_true rfl) ?_
  refine wp_tones (p := q) (by omega) (by omega) hq hnq hn c1_ hU6 (fun ν3 t1_ k3_ => ?_)
  refine wl_iload_n C dL_law_222 rfl ?_
  refine wl_ic_neF C 236 dL_law_223 (by decide) (fun q_ => q_ rfl) ?_
  have d0_ := t0_.fr (k3_ (43 + 5 * 0) (by omega)).1 (k3_ (43 + 5 * 0 + 1) (by omega)).2; have d2_ := c2_.fr (k3_ (43 + 5 * 2) (by omega)).1 (k3_ (43 + 5 * 2 + 1) (by omega)).2; have dA_ := cA_.fr (k3_ 73 (by omega)).2
  refine wl_aload_n C dL_law_226 rfl ?_
  refine wl_iconst C (nI 2) dL_law_227 (by decide) ?_
  refine wl_iconst C (nI 3) dL_law_228 (by decide) ?_
  refine wl_callV2 C (k' := kX5_turn) dL_law_229 lmL_48 kvX5_turn (by first | assumption | rfl) (by rfl) (by decide) (Nat.le_of_ble_eq_true rfl) ?_
  refine wp_tones (p := q) (by omega) (by omega) hq hnq hn d2_ hM (fun ν4 t2_ k4_ => ?_)
  refine wl_iload_n C dL_law_232 rfl ?_
  refine wl_ic_eqT C 238 dL_law_233 (by decide) (rfl) ?_
  have e0_ := d0_.fr (k4_ (43 + 5 * 0) (by omega)).1 (k4_ (43 + 5 * 0 + 1) (by omega)).2
  have e1_ := t1_.fr (k4_ (43 + 5 * 1) (by omega)).1 (k4_ (43 + 5 * 1 + 1) (by omega)).2
  have eA_ := dA_.fr (k4_ 73 (by omega)).2
  exact wl_238 C hn hq hnq ha1 ha2 hV hU e0_ e1_ (t2_.co (fun i _ => ton_lin V U a1 a2 q i)) eA_ (by rw [hnq]; exact ton_par hq V V) (by rw [hnq]; exact ton_par hq V U)
theorem wl_107 (C : LK p s m meth c b L xs G) {n q : Nat} {V U : Nat → Int} {μ : Mem} (hn : n ≤ 64) (hq : q < 7) (hnq : n = 2 ^ q) (hV : bnd V n 1000) (hU : bnd U n 1000) (hA : ArrIs μ 73 n V) (hB : ArrIs μ 74 n U) : WL p l e s m below meth c b G 107 [some (.ref 75), some (.ref 0), some (.int (nI n)), some (.ref 73), some (.ref 74), some (.long (Int64.ofInt (sumZ V n))), none, none, none, none, none, none, none, none, none, none, none, none, none] [] μ := by
  have hV8 : bnd V n 100000000 := fun i hi => by have := hV i hi; omega
  have hU8 : bnd U n 100000000 := fun i hi => by have := hU i hi; omega
  have hV9 : bnd V n 2000000000 := fun i hi => by have := hV i hi; omega
  have hU9 : bnd U n 2000000000 := fun i hi => by have := hU i hi; omega
  refine wl_aload_n C dL_law_107 rfl ?_
  refine wl_iconst C (nI 0) dL_law_108 (by decide) ?_
  refine wl_iconst C (nI 0) dL_law_109 (by decide) ?_
  refine wl_aload_n C dL_law_110 rfl ?_
  refine wl_iload_n C dL_law_111 rfl ?_
  refine wl_callS5 C (k' := kL_raised) dL_law_112 lmL_32 ksL_raised (by decide) (Nat.le_of_ble_eq_true rfl) ?_
  refine wp_raised (by omega) (by omega) (by omega) hn sh73 (by omega) hA hV9 (fun ν1 h0_ k1_ => ?_)
  refine wl_if_eqF C 141 dL_law_115 (by decide) (by decide) ?_
  have bA_ := hA.fr (k1_ 73 (by omega) (by omega)).2; have bB_ := hB.fr (k1_ 74 (by omega) (by omega)).2
  refine wl_aload_n C dL_law_118 rfl ?_
  refine wl_iconst C (nI 1) dL_law_119 (by decide) ?_
  refine wl_iconst C (nI 1) dL_law_120 (by decide) ?_
  refine wl_aload C dL_law_121 rfl ?_
  refine wl_iload_n C dL_law_123 rfl ?_
  refine wl_callS5 C (k' := kL_raised) dL_law_124 lmL_32 ksL_raised (by decide) (Nat.le_of_ble_eq_true rfl) ?_
  refine wp_raised (by omega) (by omega) (by omega) hn sh74 (by omega) bB_ hU9 (fun ν2 h1_ k2_ => ?_)
  refine wl_if_eqF C 141 dL_law_127 (by decide) (by decide) ?_
  have cA_ := bA_.fr (k2_ 73 (by omega) (by omega)).2; have c0_ := h0_.fr (k2_ (43 + 5 * 0) (by omega) (by omega)).1 (k2_ (43 + 5 * 0 + 1) (by omega) (by omega)).2
  refine wl_aload_n C dL_law_130 rfl ?_
  refine wl_iconst C (nI 2) dL_law_131 (by decide) ?_
  refine wl_iconst C (nI 2) dL_law_132 (by decide) ?_
  refine wl_aload_n C dL_law_133 rfl ?_
  refine wl_iload_n C dL_law_134 rfl ?_
  refine wl_callS5 C (k' := kL_raised) dL_law_135 lmL_32 ksL_raised (by decide) (Nat.le_of_ble_eq_true rfl) ?_
  refine wp_raised (by omega) (by omega) (by omega) hn sh73 (by omega) cA_ hV9 (fun ν3 h2_ k3_ => ?_)
  refine wl_if_neT C 143 dL_law_138 (by decide) (by decide) ?_
  have dA_ := cA_.fr (k3_ 73 (by omega) (by omega)).2; have d0_ := c0_.fr (k3_ (43 + 5 * 0) (by omega) (by omega)).1 (k3_ (43 + 5 * 0 + 1) (by omega) (by omega)).2; have d1_ := h1_.fr (k3_ (43 + 5 * 1) (by omega) (by omega)).1 (k3_ (43 + 5 * 1 + 1) (by omega) (by omega)).2
  refine wl_aload_n C dL_law_143 rfl ?_
  refine wl_iconst C (nI 0) dL_law_144 (by decide) ?_
  refine wl_iconst C (nI 0) dL_law_145 (by decide) ?_
  refine wl_iload_n C dL_law_146 rfl ?_
  refine wl_callV3 C (k' := kX5_force) dL_law_147 lmL_36 kvX5_force (by first | assumption | rfl) (by rfl) (by decide) (Nat.le_of_ble_eq_true rfl) ?_
  refine wp_force (n := n) (a := 0) (b := n) (by omega) (by omega) hn (by omega) (by omega) (by omega) d0_ hV8 ?_
  rw [fr_all (Int.le_refl _)]
  refine wl_lstore C dL_law_150 (by decide) ?_
  refine wl_aload_n C dL_law_152 rfl ?_
  refine wl_iconst C (nI 0) dL_law_153 (by decide) ?_
  refine wl_iconst C (nI 1) dL_law_154 (by decide) ?_
  refine wl_callV2 C (k' := kX5_cross) dL_law_155 lmL_40 kvX5_cross (by first | assumption | rfl) (by rfl) (by decide) (Nat.le_of_ble_eq_true rfl) ?_
  refine wp_cross (n := n) (by omega) (by omega) (by omega) hn d0_ d1_ hV8 hU8 ?_
  refine wl_lstore C dL_law_158 (by decide) ?_
  refine wl_aload_n C dL_law_160 rfl ?_
  refine wl_sipush C (nI 140) dL_law_161 (by decide) ?_
  refine wl_cell C _ dL_law_164 (by first | with_reducible rfl | with_reducible exact ix_a _ _) (by omega) (Nat.le_of_ble_eq_true rfl) (fun v_164 => ?_)
  refine wl_bipush C (nI 9) dL_law_167 (by decide) ?_
  refine wl_up C dL_law_169 (by omega) (by omega) (Nat.le_of_ble_eq_true rfl) (fun r_169 hr_169 => ?_)
  refine wl_iconst C (nI 4) dL_law_172 (by decide) ?_
  refine wl_isub C dL_law_173 ?_
  rw [nI_subZ]
  refine wl_istore C dL_law_174 (by decide) ?_
  refine wl_lo (lv' := [some (.ref 75), some (.ref 0), some (.int (nI n)), some (.ref 73), some (.ref 74), some (.long (Int64.ofInt (sumZ V n))), none, some (.long (Int64.ofInt (sumZ (fun i => V i * V i) n))), none, some (.long (Int64.ofInt (sumZ (fun i => V i * U i) n))), none, some (.int (Int32.ofInt ((r_169 : Int) - ((4 : Nat) : Int)))), none, none, none, none, none, none, none]) rfl ?_
  refine wl_aload_n C dL_law_176 rfl ?_
  refine wl_sipush C (nI 141) dL_law_177 (by decide) ?_
  refine wl_cell C _ dL_law_180 (by first | with_reducible rfl | with_reducible exact ix_a _ _) (by omega) (Nat.le_of_ble_eq_true rfl) (fun v_180 => ?_)
  refine wl_bipush C (nI 9) dL_law_183 (by decide) ?_
  refine wl_up C dL_law_185 (by omega) (by omega) (Nat.le_of_ble_eq_true rfl) (fun r_185 hr_185 => ?_)
  refine wl_iconst C (nI 4) dL_law_188 (by decide) ?_
  refine wl_isub C dL_law_189 ?_
  rw [nI_subZ]
  refine wl_istore C dL_law_190 (by decide) ?_
  exact wl_192 C hn hq hnq (by omega) (by omega) hV hU d0_ d1_ h2_ dA_
end LAW3
