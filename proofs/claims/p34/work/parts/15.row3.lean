/-! ROWS of the class: bounds, sums, what turn() does -/
def excB (v : Nat → Int64) (a n : Nat) (b B : Int) : Prop := ∀ j, a ≤ j → j < n → (j : Int) ≤ b → -B ≤ (v j).toInt ∧ (v j).toInt ≤ B
theorem wp_X2_exceeds {d t a n : Nat} {ms : Int64} {to : Int32} {B : Int} {μ : Mem} {Q : QM} (ht : isR t) (hd : 1 ≤ d) (hn : μ.1 t 0 = nI n) (hn64 : n ≤ 64) (hB : ms.toInt = B ∧ (-ms).toInt = -B) (ha : a < 2 ^ 31) (h1 : ¬ excB (μ.2 (t + 1)) a n to.toInt B → Q (some (.int (nI 1))) μ) (h0 : excB (μ.2 (t + 1)) a n to.toInt B → Q (some (.int (nI 0))) μ) : MW kX2_exceeds d [.ref t, .long ms, .int (nI a), .int to] μ Q := by
  obtain ⟨hr0t, hr1t, hr2t, hr3t, hr4t⟩ := isR_sh ht
  have hmt := isR_mod ht
  refine MW_of (by decide) [some (.ref t), some (.long ms), none, some (.int (nI a)), some (.int to), none] rfl (Nat.le_of_ble_eq_true rfl) ?_
  have loop : ∀ m i, n ≤ i + m → a ≤ i → i < 2 ^ 31 → excB (μ.2 (t + 1)) a i to.toInt B → WA kX2_exceeds d Q 3 [some (.ref t), some (.long ms), none, some (.int (nI a)), some (.int to), some (.int (nI i))] [] μ := by
    intro m
    induction m with
    | zero =>
      intro i hi hai h31 hb
      refine wa_iload dX2_exceeds_3 rfl ?_
      refine wa_aload_n dX2_exceeds_5 rfl ?_
      refine wa_getI dX2_exceeds_6 fgX2_25 (by first | assumption | rfl) (by rfl) ?_
      refine wa_ic_geT 41 dX2_exceeds_9 (by decide) (by rw [hn]; exact le_nI (by omega) (by omega)) ?_
      refine wa_iconst (nI 0) dX2_exceeds_41 (by decide) ?_
      refine wa_zret dX2_exceeds_42 rfl (by decide) ?_
      exact h0 (fun j h1 h2 h3 => hb j h1 (by omega) h3)
    | succ m ih =>
      intro i hi hai h31 hb
      by_cases hin : i < n
      · refine wa_iload dX2_exceeds_3 rfl ?_
        refine wa_aload_n dX2_exceeds_5 rfl ?_
        refine wa_getI dX2_exceeds_6 fgX2_25 (by first | assumption | rfl) (by rfl) ?_
        refine wa_ic_geF 41 dX2_exceeds_9 (by decide) (by rw [hn]; exact nle_nI (by omega) (by omega)) ?_
        refine wa_iload dX2_exceeds_12 rfl ?_
        refine wa_iload dX2_exceeds_14 rfl ?_
        refine wa_ic_gt 41 dX2_exceeds_16 (by decide) (fun c16_1 => ?_) (fun c16_1 => ?_)
        · try simp (disch := omega) only [nI_toInt] at c16_1
          refine wa_iconst (nI 0) dX2_exceeds_41 (by decide) ?_
          refine wa_zret dX2_exceeds_42 rfl (by decide) ?_
          exact h0 (fun j q1 q2 q3 => hb j q1 (by omega) q3)
        · try simp (disch := omega) only [nI_toInt] at c16_1
          refine wa_aload_n dX2_exceeds_19 rfl ?_
          refine wa_getR dX2_exceeds_20 fgX2_9 (by first | assumption | rfl) (by rfl) ?_
          refine wa_iload dX2_exceeds_23 rfl ?_
          refine wa_lald _ dX2_exceeds_25 (by first | assumption | rfl) (by first | with_reducible rfl | with_reducible assumption | with_reducible exact ix_ma _ _ _ | with_reducible exact ix_maa _ _ _ _ | with_reducible exact ix_a _ _ | with_reducible exact ix_mama _ _ _ _ _) (by omega) ?_
          refine wa_lload_n dX2_exceeds_26 rfl ?_
          refine wa_callN2 (k' := kX5_isWithin) (d' := 0) rfl dX2_exceeds_27 rfl ksX5_isWithin (by decide) (by omega) (Nat.le_of_ble_eq_true rfl) ?_
          refine wp_X5_isWithin (fun hw => ?_) (fun hw => ?_)
          · skip
            refine wa_if_neT 35 dX2_exceeds_30 (by decide) (by decide) ?_
            refine wa_iinc (nI 1) dX2_exceeds_35 rfl (by decide) (by decide) ?_
            refine wa_goto 3 dX2_exceeds_38 (by decide) ?_
            rw [hB.1, hB.2] at hw
            simp only [nI_add]
            refine ih (i + 1) (by omega) (by omega) (by omega) (fun j q1 q2 q3 => ?_)
            by_cases hji : j = i
            · rw [hji]; exact hw
            · exact hb j q1 (by omega) q3
          · skip
            refine wa_if_neF 35 dX2_exceeds_30 (by decide) (by decide) ?_
            refine wa_iconst (nI 1) dX2_exceeds_33 (by decide) ?_
            refine wa_zret dX2_exceeds_34 rfl (by decide) ?_
            rw [hB.1, hB.2] at hw; exact h1 (fun q => hw (q i hai hin (by omega)))
      · refine wa_iload dX2_exceeds_3 rfl ?_
        refine wa_aload_n dX2_exceeds_5 rfl ?_
        refine wa_getI dX2_exceeds_6 fgX2_25 (by first | assumption | rfl) (by rfl) ?_
        refine wa_ic_geT 41 dX2_exceeds_9 (by decide) (by rw [hn]; exact le_nI (by omega) (by omega)) ?_
        refine wa_iconst (nI 0) dX2_exceeds_41 (by decide) ?_
        refine wa_zret dX2_exceeds_42 rfl (by decide) ?_
        exact h0 (fun j q1 q2 q3 => hb j q1 (by omega) q3)
  refine wa_iload_n dX2_exceeds_0 rfl ?_
  refine wa_istore dX2_exceeds_1 (by decide) ?_
  exact loop 64 a (by omega) (by omega) ha (fun j h1 h2 _ => by omega)
theorem excB_all {v : Nat → Int64} {n : Nat} {b B : Int} (hb : (n : Int) ≤ b) : excB v 0 n b B ↔ inB v n B :=
  ⟨fun h i hi => h i (by omega) hi (by omega), fun h j _ h2 _ => h j h2⟩
theorem wp_X2_anyExceeds {d t n : Nat} {ms : Int64} {B : Int} {μ : Mem} {Q : QM} (ht : isR t) (hd : 2 ≤ d) (hn : μ.1 t 0 = nI n) (hn64 : n ≤ 64) (hB : ms.toInt = B ∧ (-ms).toInt = -B) (h1 : ¬ inB (μ.2 (t + 1)) n B → Q (some (.int (nI 1))) μ) (h0 : inB (μ.2 (t + 1)) n B → Q (some (.int (nI 0))) μ) : MW kX2_anyExceeds d [.ref t, .long ms] μ Q := by
  obtain ⟨hr0t, hr1t, hr2t, hr3t, hr4t⟩ := isR_sh ht
  have hmt := isR_mod ht
  refine MW_of (by decide) [some (.ref t), some (.long ms), none] rfl (Nat.le_of_ble_eq_true rfl) ?_
  have hz : (nI 64).toInt = 64 := by decide
  refine wa_aload_n dX2_anyExceeds_0 rfl ?_
  refine wa_lload_n dX2_anyExceeds_1 rfl ?_
  refine wa_iconst (nI 0) dX2_anyExceeds_2 (by decide) ?_
  refine wa_bipush (nI 64) dX2_anyExceeds_3 (by decide) ?_
  refine wa_callV3 (k' := kX2_exceeds) (d' := 1) dX2_anyExceeds_5 lmX2_89 kvX2_exceeds (by first | assumption | rfl) (by rfl) (by decide) (by omega) (Nat.le_of_ble_eq_true rfl) ?_
  refine wp_X2_exceeds (n := n) (a := 0) (by assumption) (by omega) (by assumption) (by assumption) hB (by omega) (fun hx => ?_) (fun hx => ?_)
  · skip
    refine wa_zret dX2_anyExceeds_8 rfl (by decide) ?_
    rw [hz, excB_all (by omega)] at hx; exact h1 hx
  · skip
    refine wa_zret dX2_anyExceeds_8 rfl (by decide) ?_
    rw [hz, excB_all (by omega)] at hx; exact h0 hx
theorem k4e9 : (4000000000 : Int64).toInt = 4000000000 ∧ (-(4000000000 : Int64)).toInt = -4000000000 := by decide
theorem k2e8 : (200000000 : Int64).toInt = 200000000 ∧ (-(200000000 : Int64)).toInt = -200000000 := by decide
theorem k1e3 : (1000 : Int64).toInt = 1000 ∧ (-(1000 : Int64)).toInt = -1000 := by decide
def sqF (v : Nat → Int64) (b : Int) (n : Nat) : Nat → Nat → Int64 → Int64
  | 0, _, acc => acc
  | m + 1, i, acc => if i < n ∧ (i : Int) ≤ b then sqF v b n m (i + 1) (acc + v i * v i) else acc
theorem wp_X2_squares {d t a n : Nat} {to : Int32} {μ : Mem} {Q : QM} (ht : isR t) (hn : μ.1 t 0 = nI n) (hn64 : n ≤ 64) (ha : a < 2 ^ 31) (hQ : Q (some (.long (sqF (μ.2 (t + 1)) to.toInt n 64 a 0))) μ) : MW kX2_squares d [.ref t, .int (nI a), .int to] μ Q := by
  obtain ⟨hr0t, hr1t, hr2t, hr3t, hr4t⟩ := isR_sh ht
  have hmt := isR_mod ht
  refine MW_of (by decide) [some (.ref t), some (.int (nI a)), some (.int to), none, none, none] rfl (Nat.le_of_ble_eq_true rfl) ?_
  have loop : ∀ m i acc, n ≤ i + m → i < 2 ^ 31 → Q (some (.long (sqF (μ.2 (t + 1)) to.toInt n m i acc))) μ → WA kX2_squares d Q 5 [some (.ref t), some (.int (nI a)), some (.int to), some (.long acc), none, some (.int (nI i))] [] μ := by
    intro m
    induction m with
    | zero =>
      intro i acc hi h31 hQ
      refine wa_iload dX2_squares_5 rfl ?_
      refine wa_aload_n dX2_squares_7 rfl ?_
      refine wa_getI dX2_squares_8 fgX2_25 (by first | assumption | rfl) (by rfl) ?_
      refine wa_ic_geT 44 dX2_squares_11 (by decide) (by rw [hn]; exact le_nI (by omega) (by omega)) ?_
      refine wa_lload_n dX2_squares_44 rfl ?_
      refine wa_lret dX2_squares_45 rfl ?_
      exact hQ
    | succ m ih =>
      intro i acc hi h31 hQ
      by_cases hin : i < n
      · refine wa_iload dX2_squares_5 rfl ?_
        refine wa_aload_n dX2_squares_7 rfl ?_
        refine wa_getI dX2_squares_8 fgX2_25 (by first | assumption | rfl) (by rfl) ?_
        refine wa_ic_geF 44 dX2_squares_11 (by decide) (by rw [hn]; exact nle_nI (by omega) (by omega)) ?_
        refine wa_iload dX2_squares_14 rfl ?_
        refine wa_iload_n dX2_squares_16 rfl ?_
        refine wa_ic_gt 44 dX2_squares_17 (by decide) (fun c17_1 => ?_) (fun c17_1 => ?_)
        · try simp (disch := omega) only [nI_toInt] at c17_1
          refine wa_lload_n dX2_squares_44 rfl ?_
          refine wa_lret dX2_squares_45 rfl ?_
          rw [sqF, if_neg (by omega)] at hQ; exact hQ
        · try simp (disch := omega) only [nI_toInt] at c17_1
          refine wa_lload_n dX2_squares_20 rfl ?_
          refine wa_aload_n dX2_squares_21 rfl ?_
          refine wa_getR dX2_squares_22 fgX2_9 (by first | assumption | rfl) (by rfl) ?_
          refine wa_iload dX2_squares_25 rfl ?_
          refine wa_lald _ dX2_squares_27 (by first | assumption | rfl) (by first | with_reducible rfl | with_reducible assumption | with_reducible exact ix_ma _ _ _ | with_reducible exact ix_maa _ _ _ _ | with_reducible exact ix_a _ _ | with_reducible exact ix_mama _ _ _ _ _) (by omega) ?_
          refine wa_aload_n dX2_squares_28 rfl ?_
          refine wa_getR dX2_squares_29 fgX2_9 (by first | assumption | rfl) (by rfl) ?_
          refine wa_iload dX2_squares_32 rfl ?_
          refine wa_lald _ dX2_squares_34 (by first | assumption | rfl) (by first | with_reducible rfl | with_reducible assumption | with_reducible exact ix_ma _ _ _ | with_reducible exact ix_maa _ _ _ _ | with_reducible exact ix_a _ _ | with_reducible exact ix_mama _ _ _ _ _) (by omega) ?_
          refine wa_lmul dX2_squares_35 ?_
          refine wa_ladd dX2_squares_36 ?_
          refine wa_lstore_n dX2_squares_37 (by decide) ?_
          refine wa_iinc (nI 1) dX2_squares_38 rfl (by decide) (by decide) ?_
          refine wa_goto 5 dX2_squares_41 (by decide) ?_
          rw [sqF, if_pos (by omega)] at hQ
          simp only [nI_add]
          exact ih (i + 1) _ (by omega) (by omega) hQ
      · refine wa_iload dX2_squares_5 rfl ?_
        refine wa_aload_n dX2_squares_7 rfl ?_
        refine wa_getI dX2_squares_8 fgX2_25 (by first | assumption | rfl) (by rfl) ?_
        refine wa_ic_geT 44 dX2_squares_11 (by decide) (by rw [hn]; exact le_nI (by omega) (by omega)) ?_
        refine wa_lload_n dX2_squares_44 rfl ?_
        refine wa_lret dX2_squares_45 rfl ?_
        rw [sqF, if_neg (by omega)] at hQ; exact hQ
  refine wa_lconst (0) dX2_squares_0 (by decide) ?_
  refine wa_lstore_n dX2_squares_1 (by decide) ?_
  refine wa_iload_n dX2_squares_2 rfl ?_
  refine wa_istore dX2_squares_3 (by decide) ?_
  exact loop 64 a 0 (by omega) ha hQ
def prS (v w : Nat → Int64) : Nat → Int64
  | 0 => 0
  | n + 1 => prS v w n + v n * w n
theorem wp_X2_products {d t u n : Nat} {μ : Mem} {Q : QM} (ht : isR t) (hu : isR u) (hn : μ.1 t 0 = nI n) (hn64 : n ≤ 64) (hQ : Q (some (.long (prS (μ.2 (t + 1)) (μ.2 (u + 1)) n))) μ) : MW kX2_products d [.ref t, .ref u] μ Q := by
  obtain ⟨hr0t, hr1t, hr2t, hr3t, hr4t⟩ := isR_sh ht
  have hmt := isR_mod ht
  obtain ⟨hr0u, hr1u, hr2u, hr3u, hr4u⟩ := isR_sh hu
  have hmu := isR_mod hu
  refine MW_of (by decide) [some (.ref t), some (.ref u), none, none, none] rfl (Nat.le_of_ble_eq_true rfl) ?_
  have loop : ∀ m i, i + m = n → WA kX2_products d Q 5 [some (.ref t), some (.ref u), some (.long (prS (μ.2 (t + 1)) (μ.2 (u + 1)) i)), none, some (.int (nI i))] [] μ := by
    intro m
    induction m with
    | zero =>
      intro i hi
      obtain rfl : i = n := by omega
      refine wa_iload dX2_products_5 rfl ?_
      refine wa_aload_n dX2_products_7 rfl ?_
      refine wa_getI dX2_products_8 fgX2_25 (by first | assumption | rfl) (by rfl) ?_
      refine wa_ic_geT 38 dX2_products_11 (by decide) (by rw [hn]; exact le_nI (by omega) (by omega)) ?_
      refine wa_lload_n dX2_products_38 rfl ?_
      refine wa_lret dX2_products_39 rfl ?_
      exact hQ
    | succ m ih =>
      intro i hi
      have e := ih (i + 1) (by omega)
      refine wa_iload dX2_products_5 rfl ?_
      refine wa_aload_n dX2_products_7 rfl ?_
      refine wa_getI dX2_products_8 fgX2_25 (by first | assumption | rfl) (by rfl) ?_
      refine wa_ic_geF 38 dX2_products_11 (by decide) (by rw [hn]; exact nle_nI (by omega) (by omega)) ?_
      refine wa_lload_n dX2_products_14 rfl ?_
      refine wa_aload_n dX2_products_15 rfl ?_
      refine wa_getR dX2_products_16 fgX2_9 (by first | assumption | rfl) (by rfl) ?_
      refine wa_iload dX2_products_19 rfl ?_
      refine wa_lald _ dX2_products_21 (by first | assumption | rfl) (by first | with_reducible rfl | with_reducible assumption | with_reducible exact ix_ma _ _ _ | with_reducible exact ix_maa _ _ _ _ | with_reducible exact ix_a _ _ | with_reducible exact ix_mama _ _ _ _ _) (by omega) ?_
      refine wa_aload_n dX2_products_22 rfl ?_
      refine wa_getR dX2_products_23 fgX2_9 (by first | assumption | rfl) (by rfl) ?_
      refine wa_iload dX2_products_26 rfl ?_
      refine wa_lald _ dX2_products_28 (by first | assumption | rfl) (by first | with_reducible rfl | with_reducible assumption | with_reducible exact ix_ma _ _ _ | with_reducible exact ix_maa _ _ _ _ | with_reducible exact ix_a _ _ | with_reducible exact ix_mama _ _ _ _ _) (by omega) ?_
      refine wa_lmul dX2_products_29 ?_
      refine wa_ladd dX2_products_30 ?_
      refine wa_lstore_n dX2_products_31 (by decide) ?_
      refine wa_iinc (nI 1) dX2_products_32 rfl (by decide) (by decide) ?_
      refine wa_goto 5 dX2_products_35 (by decide) ?_
      simp only [nI_add]; exact e
  refine wa_lconst (0) dX2_products_0 (by decide) ?_
  refine wa_lstore_n dX2_products_1 (by decide) ?_
  refine wa_iconst (nI 0) dX2_products_2 (by decide) ?_
  refine wa_istore dX2_products_3 (by decide) ?_
  exact loop n 0 (by omega)
def digR (h : Int64) (v : Nat → Int64) : Nat → Int64
  | 0 => h
  | i + 1 => 31 * digR h v i + v i
def kOut (a b : Int) (i : Nat) : Bool := decide ((i : Int) < a ∨ b < (i : Int))
def kpF (a b : Int) (v : Nat → Int64) (m : Nat) : Nat → Int64 := fun i => if i < m ∧ kOut a b i = true then 0 else v i
def kpN (a b : Int) (v : Nat → Int64) : Nat → Nat
  | 0 => 0
  | n + 1 => kpN a b v n + (if kOut a b n = true ∧ ¬ (v n).toInt = 0 then 1 else 0)
theorem kpF_0 (a b : Int) (v : Nat → Int64) : kpF a b v 0 = v := by
  funext i
  simp [kpF]
theorem kpF_y {a b : Int} {v : Nat → Int64} {m : Nat} (h : kOut a b m = true) : vp_updL (kpF a b v m) m 0 = kpF a b v (m + 1) := by
  funext i
  by_cases hi : i = m
  · subst hi
    simp [vp_updL, kpF, h]
  · simp only [vp_updL, kpF, hi, if_false]
    congr 1
    exact propext ⟨fun q => ⟨by omega, q.2⟩, fun q => ⟨by omega, q.2⟩⟩
theorem kpF_n {a b : Int} {v : Nat → Int64} {m : Nat} (h : ¬ kOut a b m = true) : kpF a b v m = kpF a b v (m + 1) := by
  funext i
  simp only [kpF]
  congr 1
  refine propext ⟨fun q => ⟨by omega, q.2⟩, fun q => ⟨?_, q.2⟩⟩
  by_cases hb : i = m
  · subst hb
    exact absurd q.2 h
  · omega
def gMix (v w : Nat → Int64) (p q : Int32) (i : Nat) : Int64 := p.toInt64 * v i + q.toInt64 * w i
theorem inB_frF {g old : Nat → Int64} {n : Nat} {B : Int} : inB (frF g old n) n B ↔ inB g n B := by
  unfold inB frF
  refine ⟨fun h i hi => ?_, fun h i hi => ?_⟩
  · have := h i hi
    rw [if_pos hi] at this
    exact this
  · rw [if_pos hi]
    exact h i hi
theorem wp_X2_blend {d t u n : Nat} {p q : Int32} {μ : Mem} {Q : QM} (ht : isR t) (hu : isR u) (hd : 2 ≤ d) (hn : μ.1 t 0 = nI n) (hn64 : n ≤ 64) (h0 : ¬ inB (gMix (μ.2 (t + 1)) (μ.2 (u + 1)) p q) n 4000000000000000 → Q (some (.int (-16))) (bL μ (t + 2) (frF (gMix (μ.2 (t + 1)) (μ.2 (u + 1)) p q) (μ.2 (t + 2)) n)))
    (h1 : inB (gMix (μ.2 (t + 1)) (μ.2 (u + 1)) p q) n 4000000000000000 → Q (some (.int (nI n))) (bL (bL μ (t + 2) (frF (gMix (μ.2 (t + 1)) (μ.2 (u + 1)) p q) (μ.2 (t + 2)) n)) (t + 1) (va_cpy (frF (gMix (μ.2 (t + 1)) (μ.2 (u + 1)) p q) (μ.2 (t + 2)) n) (μ.2 (t + 1)) 0 0 n))) : MW kX2_blend d [.ref t, .int p, .ref u, .int q] μ Q := by
  obtain ⟨hr0t, hr1t, hr2t, hr3t, hr4t⟩ := isR_sh ht
  have hmt := isR_mod ht
  obtain ⟨hr0u, hr1u, hr2u, hr3u, hr4u⟩ := isR_sh hu
  have hmu := isR_mod hu
  refine MW_of (by decide) [some (.ref t), some (.int p), some (.ref u), some (.int q), none] rfl (Nat.le_of_ble_eq_true rfl) ?_
  have loop : ∀ m i, i + m = n → WA kX2_blend d Q 3 [some (.ref t), some (.int p), some (.ref u), some (.int q), some (.int (nI i))] [] (bL μ (t + 2) (frF (gMix (μ.2 (t + 1)) (μ.2 (u + 1)) p q) (μ.2 (t + 2)) i)) := by
    intro m
    induction m with
    | zero =>
      intro i hi
      obtain rfl : i = n := by omega
      refine wa_iload dX2_blend_3 rfl ?_
      refine wa_aload_n dX2_blend_5 rfl ?_
      refine wa_getI dX2_blend_6 fgX2_25 (by first | assumption | rfl) (by rfl) ?_
      refine wa_ic_geT 46 dX2_blend_9 (by decide) (by rw [rb2l, hn]; exact le_nI (by omega) (by omega)) ?_
      refine wa_aload_n dX2_blend_46 rfl ?_
      refine wa_callV0 (k' := kX2_becomeFresh) (d' := 1) dX2_blend_47 lmX2_60 kvX2_becomeFresh (by first | assumption | rfl) (by rfl) (by decide) (by omega) (Nat.le_of_ble_eq_true rfl) ?_
      refine wp_X2_becomeFresh (n := i) (by assumption) (by omega) (by rw [rb2l]; exact hn) (by assumption) (fun hb => ?_) (fun hb => ?_)
      · skip
        refine wa_iret dX2_blend_50 rfl ?_
        rw [rb2e, inB_frF] at hb; exact h0 hb
      · skip
        refine wa_iret dX2_blend_50 rfl ?_
        rw [rb2e, inB_frF] at hb; have e := h1 hb; rw [rb2e, bL_off (by omega)]; exact e
    | succ m ih =>
      intro i hi
      have e := ih (i + 1) (by omega)
      refine wa_iload dX2_blend_3 rfl ?_
      refine wa_aload_n dX2_blend_5 rfl ?_
      refine wa_getI dX2_blend_6 fgX2_25 (by first | assumption | rfl) (by rfl) ?_
      refine wa_ic_geF 46 dX2_blend_9 (by decide) (by rw [rb2l, hn]; exact nle_nI (by omega) (by omega)) ?_
      refine wa_aload_n dX2_blend_12 rfl ?_
      refine wa_getR dX2_blend_13 fgX2_15 (by first | assumption | rfl) (by rfl) ?_
      refine wa_iload dX2_blend_16 rfl ?_
      refine wa_iload_n dX2_blend_18 rfl ?_
      refine wa_i2l dX2_blend_19 ?_
      refine wa_aload_n dX2_blend_20 rfl ?_
      refine wa_getR dX2_blend_21 fgX2_9 (by first | assumption | rfl) (by rfl) ?_
      refine wa_iload dX2_blend_24 rfl ?_
      refine wa_lald _ dX2_blend_26 (by first | assumption | rfl) (by first | with_reducible rfl | with_reducible assumption | with_reducible exact ix_ma _ _ _ | with_reducible exact ix_maa _ _ _ _ | with_reducible exact ix_a _ _ | with_reducible exact ix_mama _ _ _ _ _) (by omega) ?_
      refine wa_lmul dX2_blend_27 ?_
      refine wa_iload_n dX2_blend_28 rfl ?_
      refine wa_i2l dX2_blend_29 ?_
      refine wa_aload_n dX2_blend_30 rfl ?_
      refine wa_getR dX2_blend_31 fgX2_9 (by first | assumption | rfl) (by rfl) ?_
      refine wa_iload dX2_blend_34 rfl ?_
      refine wa_lald _ dX2_blend_36 (by first | assumption | rfl) (by first | with_reducible rfl | with_reducible assumption | with_reducible exact ix_ma _ _ _ | with_reducible exact ix_maa _ _ _ _ | with_reducible exact ix_a _ _ | with_reducible exact ix_mama _ _ _ _ _) (by omega) ?_
      refine wa_lmul dX2_blend_37 ?_
      refine wa_ladd dX2_blend_38 ?_
      refine wa_last _ dX2_blend_39 (by first | assumption | rfl) (by first | with_reducible rfl | with_reducible assumption | with_reducible exact ix_ma _ _ _ | with_reducible exact ix_maa _ _ _ _ | with_reducible exact ix_a _ _ | with_reducible exact ix_mama _ _ _ _ _) (by omega) ?_
      refine wa_iinc (nI 1) dX2_blend_40 rfl (by decide) (by decide) ?_
      refine wa_goto 3 dX2_blend_43 (by decide) ?_
      have a1 := frF_s (gMix (μ.2 (t + 1)) (μ.2 (u + 1)) p q) (μ.2 (t + 2)) i
      rw [sLb, bL_off (by omega), bL_off (by omega)]
      unfold gMix at a1
      unfold gMix
      rw [a1]
      simp only [nI_add]
      exact e
  refine wa_iconst (nI 0) dX2_blend_0 (by decide) ?_
  refine wa_istore dX2_blend_1 (by decide) ?_
  have e0 := loop n 0 (by omega)
  rw [frF_0, bL_self] at e0
  exact e0
/-! turn() -/
def tNO (n w : Nat) : Prop := ((w = 1 ∨ w = 2) ∧ n < 2) ∨ (w = 3 ∧ ¬ P2 n)
def gW (v : Nat → Int64) (n w : Nat) : Nat → Int64 := match w with
  | 0 => gLev v n
  | 1 => gFlat v n
  | 2 => gTwi v n
  | _ => gTon v n (Nat.log2 n)
theorem wp_X2_change {d t n w : Nat} {μ : Mem} {Q : QM} (ht : isR t) (hd : 3 ≤ d) (hn : μ.1 t 0 = nI n) (hn64 : n ≤ 64) (hw : w < 4)
    (hNO : tNO n w → Q (some (.int (-3))) μ) (hF : ¬ tNO n w → (w = 1 ∨ w = 2) → ¬ inB (μ.2 (t + 1)) n 4000000000 → Q (some (.int (-16))) μ)
    (hG : ¬ tNO n w → ((w = 1 ∨ w = 2) → inB (μ.2 (t + 1)) n 4000000000) → ¬ inB (gW (μ.2 (t + 1)) n w) n 4000000000000000 → Q (some (.int (-16))) (bL μ (t + 2) (frF (gW (μ.2 (t + 1)) n w) (μ.2 (t + 2)) n)))
    (hH : ¬ tNO n w → ((w = 1 ∨ w = 2) → inB (μ.2 (t + 1)) n 4000000000) → inB (gW (μ.2 (t + 1)) n w) n 4000000000000000 → Q (some (.int (nI n))) (bL (bL μ (t + 2) (frF (gW (μ.2 (t + 1)) n w) (μ.2 (t + 2)) n)) (t + 1) (va_cpy (frF (gW (μ.2 (t + 1)) n w) (μ.2 (t + 2)) n) (μ.2 (t + 1)) 0 0 n))) : MW kX2_change d [.ref t, .int (nI w)] μ Q := by
  obtain ⟨hr0t, hr1t, hr2t, hr3t, hr4t⟩ := isR_sh ht
  have hmt := isR_mod ht
  refine MW_of (by decide) [some (.ref t), some (.int (nI w)), none] rfl (Nat.le_of_ble_eq_true rfl) ?_
  have K : ¬ tNO n w → ((w = 1 ∨ w = 2) → inB (μ.2 (t + 1)) n 4000000000) → ∀ z, WA kX2_change d Q 113 [some (.ref t), some (.int (nI w)), some (.int z)] [] (bL μ (t + 2) (frF (gW (μ.2 (t + 1)) n w) (μ.2 (t + 2)) n)) := by
    intro k1 k2 z
    refine wa_aload_n dX2_change_113 rfl ?_
    refine wa_callV0 (k' := kX2_becomeFresh) (d' := 1) dX2_change_114 lmX2_60 kvX2_becomeFresh (by first | assumption | rfl) (by rfl) (by decide) (by omega) (Nat.le_of_ble_eq_true rfl) ?_
    refine wp_X2_becomeFresh (n := n) (by assumption) (by omega) (by rw [rb2l]; exact hn) (by assumption) (fun hb => ?_) (fun hb => ?_)
    · skip
      refine wa_iret dX2_change_117 rfl ?_
      rw [rb2e, inB_frF] at hb; exact hG k1 k2 hb
    · skip
      refine wa_iret dX2_change_117 rfl ?_
      rw [rb2e, inB_frF] at hb; have e := hH k1 k2 hb; rw [rb2e, bL_off (by omega)]; exact e
  have : w = 0 ∨ w = 1 ∨ w = 2 ∨ w = 3 := by omega
  rcases this with rfl | rfl | rfl | rfl
  · refine wa_iload_n dX2_change_0 rfl ?_
    refine wa_iconst (nI 1) dX2_change_1 (by decide) ?_
    refine wa_ic_eqF 10 dX2_change_2 (by decide) (by decide) ?_
    refine wa_iload_n dX2_change_5 rfl ?_
    refine wa_iconst (nI 2) dX2_change_6 (by decide) ?_
    refine wa_ic_neT 14 dX2_change_7 (by decide) (by decide) ?_
    refine wa_iconst (nI 0) dX2_change_14 (by decide) ?_
    refine wa_istore_n dX2_change_15 (by decide) ?_
    refine wa_iload_n dX2_change_16 rfl ?_
    refine wa_if_eqT 28 dX2_change_17 (by decide) (by decide) ?_
    refine wa_iload_n dX2_change_28 rfl ?_
    refine wa_iconst (nI 3) dX2_change_29 (by decide) ?_
    refine wa_ic_neT 43 dX2_change_30 (by decide) (by decide) ?_
    refine wa_iload_n dX2_change_43 rfl ?_
    refine wa_if_eqT 60 dX2_change_44 (by decide) (by decide) ?_
    refine wa_iload_n dX2_change_60 rfl ?_
    refine wa_tsI 88 0 dX2_change_61 (by decide) (by decide) (by decide) rfl (by decide) ?_
    refine wa_aload_n dX2_change_88 rfl ?_
    refine wa_callV0 (k' := kX2_makeLevel) (d' := 1) dX2_change_89 lmX2_48 kvX2_makeLevel (by first | assumption | rfl) (by rfl) (by decide) (by omega) (Nat.le_of_ble_eq_true rfl) ?_
    refine wp_X2_makeLevel (n := n) (by assumption) (by omega) (by assumption) (by assumption) ?_
    refine wa_goto 113 dX2_change_92 (by decide) ?_
    exact K (by unfold tNO; omega) (by omega) _
  · refine wa_iload_n dX2_change_0 rfl ?_
    refine wa_iconst (nI 1) dX2_change_1 (by decide) ?_
    refine wa_ic_eqT 10 dX2_change_2 (by decide) (by decide) ?_
    refine wa_iconst (nI 1) dX2_change_10 (by decide) ?_
    refine wa_goto 15 dX2_change_11 (by decide) ?_
    refine wa_istore_n dX2_change_15 (by decide) ?_
    refine wa_iload_n dX2_change_16 rfl ?_
    refine wa_if_eqF 28 dX2_change_17 (by decide) (by decide) ?_
    refine wa_aload_n dX2_change_20 rfl ?_
    refine wa_getI dX2_change_21 fgX2_25 (by first | assumption | rfl) (by rfl) ?_
    refine wa_iconst (nI 2) dX2_change_24 (by decide) ?_
    refine wa_ic_lt 40 dX2_change_25 (by decide) (fun c25_1 => ?_) (fun c25_1 => ?_)
    · try simp (disch := omega) only [nI_toInt, hn] at c25_1
      refine wa_bipush (-3) dX2_change_40 (by decide) ?_
      refine wa_iret dX2_change_42 rfl ?_
      exact hNO (Or.inl ⟨by omega, by omega⟩)
    · try simp (disch := omega) only [nI_toInt, hn] at c25_1
      refine wa_iload_n dX2_change_28 rfl ?_
      refine wa_iconst (nI 3) dX2_change_29 (by decide) ?_
      refine wa_ic_neT 43 dX2_change_30 (by decide) (by decide) ?_
      refine wa_iload_n dX2_change_43 rfl ?_
      refine wa_if_eqF 60 dX2_change_44 (by decide) (by decide) ?_
      refine wa_aload_n dX2_change_47 rfl ?_
      refine wa_ldc2 (4000000000) dX2_change_48 lcX2_42 ?_
      refine wa_callV1 (k' := kX2_anyExceeds) (d' := 2) dX2_change_51 lmX2_44 kvX2_anyExceeds (by first | assumption | rfl) (by rfl) (by decide) (by omega) (Nat.le_of_ble_eq_true rfl) ?_
      refine wp_X2_anyExceeds (B := 4000000000) (by assumption) (by omega) (by assumption) (by assumption) k4e9 (fun hx => ?_) (fun hx => ?_)
      · skip
        refine wa_if_eqF 60 dX2_change_54 (by decide) (by decide) ?_
        refine wa_bipush (-16) dX2_change_57 (by decide) ?_
        refine wa_iret dX2_change_59 rfl ?_
        exact hF (by unfold tNO; omega) (by omega) hx
      · skip
        refine wa_if_eqT 60 dX2_change_54 (by decide) (by decide) ?_
        refine wa_iload_n dX2_change_60 rfl ?_
        refine wa_tsI 95 1 dX2_change_61 (by decide) (by decide) (by decide) rfl (by decide) ?_
        refine wa_aload_n dX2_change_95 rfl ?_
        refine wa_callV0 (k' := kX2_makeFlat) (d' := 1) dX2_change_96 lmX2_51 kvX2_makeFlat (by first | assumption | rfl) (by rfl) (by decide) (by omega) (Nat.le_of_ble_eq_true rfl) ?_
        refine wp_X2_makeFlat (n := n) (by assumption) (by omega) (by assumption) (by assumption) ?_
        refine wa_goto 113 dX2_change_99 (by decide) ?_
        exact K (by unfold tNO; omega) (fun _ => hx) _
  · refine wa_iload_n dX2_change_0 rfl ?_
    refine wa_iconst (nI 1) dX2_change_1 (by decide) ?_
    refine wa_ic_eqF 10 dX2_change_2 (by decide) (by decide) ?_
    refine wa_iload_n dX2_change_5 rfl ?_
    refine wa_iconst (nI 2) dX2_change_6 (by decide) ?_
    refine wa_ic_neF 14 dX2_change_7 (by decide) (by decide) ?_
    refine wa_iconst (nI 1) dX2_change_10 (by decide) ?_
    refine wa_goto 15 dX2_change_11 (by decide) ?_
    refine wa_istore_n dX2_change_15 (by decide) ?_
    refine wa_iload_n dX2_change_16 rfl ?_
    refine wa_if_eqF 28 dX2_change_17 (by decide) (by decide) ?_
    refine wa_aload_n dX2_change_20 rfl ?_
    refine wa_getI dX2_change_21 fgX2_25 (by first | assumption | rfl) (by rfl) ?_
    refine wa_iconst (nI 2) dX2_change_24 (by decide) ?_
    refine wa_ic_lt 40 dX2_change_25 (by decide) (fun c25_1 => ?_) (fun c25_1 => ?_)
    · try simp (disch := omega) only [nI_toInt, hn] at c25_1
      refine wa_bipush (-3) dX2_change_40 (by decide) ?_
      refine wa_iret dX2_change_42 rfl ?_
      exact hNO (Or.inl ⟨by omega, by omega⟩)
    · try simp (disch := omega) only [nI_toInt, hn] at c25_1
      refine wa_iload_n dX2_change_28 rfl ?_
      refine wa_iconst (nI 3) dX2_change_29 (by decide) ?_
      refine wa_ic_neT 43 dX2_change_30 (by decide) (by decide) ?_
      refine wa_iload_n dX2_change_43 rfl ?_
      refine wa_if_eqF 60 dX2_change_44 (by decide) (by decide) ?_
      refine wa_aload_n dX2_change_47 rfl ?_
      refine wa_ldc2 (4000000000) dX2_change_48 lcX2_42 ?_
      refine wa_callV1 (k' := kX2_anyExceeds) (d' := 2) dX2_change_51 lmX2_44 kvX2_anyExceeds (by first | assumption | rfl) (by rfl) (by decide) (by omega) (Nat.le_of_ble_eq_true rfl) ?_
      refine wp_X2_anyExceeds (B := 4000000000) (by assumption) (by omega) (by assumption) (by assumption) k4e9 (fun hx => ?_) (fun hx => ?_)
      · skip
        refine wa_if_eqF 60 dX2_change_54 (by decide) (by decide) ?_
        refine wa_bipush (-16) dX2_change_57 (by decide) ?_
        refine wa_iret dX2_change_59 rfl ?_
        exact hF (by unfold tNO; omega) (by omega) hx
      · skip
        refine wa_if_eqT 60 dX2_change_54 (by decide) (by decide) ?_
        refine wa_iload_n dX2_change_60 rfl ?_
        refine wa_tsI 102 2 dX2_change_61 (by decide) (by decide) (by decide) rfl (by decide) ?_
        refine wa_aload_n dX2_change_102 rfl ?_
        refine wa_callV0 (k' := kX2_makeTwice) (d' := 0) dX2_change_103 lmX2_54 kvX2_makeTwice (by first | assumption | rfl) (by rfl) (by decide) (by omega) (Nat.le_of_ble_eq_true rfl) ?_
        refine wp_X2_makeTwice (n := n) (by assumption) (by assumption) (by assumption) (by omega) ?_
        refine wa_goto 113 dX2_change_106 (by decide) ?_
        exact K (by unfold tNO; omega) (fun _ => hx) _
  · have K3 : P2 n → WA kX2_change d Q 109 [some (.ref t), some (.int (nI 3)), some (.int (nI 0))] [] μ := by
      intro hp2
      obtain ⟨p, hp, hnp⟩ := hp2
      have K' := K (fun q => by
        rcases q with ⟨q, _⟩ | ⟨_, q⟩
        · omega
        · exact q ⟨p, hp, hnp⟩) (by omega) (nI 0)
      have hl : Nat.log2 n = p := by rw [hnp]; exact Nat.log2_two_pow
      simp only [gW, hl] at K'
      refine wa_aload_n dX2_change_109 rfl ?_
      refine wa_callV0 (k' := kX2_makeTones) (d' := 1) dX2_change_110 lmX2_57 kvX2_makeTones (by first | assumption | rfl) (by rfl) (by decide) (by omega) (Nat.le_of_ble_eq_true rfl) ?_
      refine wp_X2_makeTones (n := n) (p := p) (by assumption) (by omega) (by assumption) hnp hp (by assumption) ?_
      exact K'
    refine wa_iload_n dX2_change_0 rfl ?_
    refine wa_iconst (nI 1) dX2_change_1 (by decide) ?_
    refine wa_ic_eqF 10 dX2_change_2 (by decide) (by decide) ?_
    refine wa_iload_n dX2_change_5 rfl ?_
    refine wa_iconst (nI 2) dX2_change_6 (by decide) ?_
    refine wa_ic_neT 14 dX2_change_7 (by decide) (by decide) ?_
    refine wa_iconst (nI 0) dX2_change_14 (by decide) ?_
    refine wa_istore_n dX2_change_15 (by decide) ?_
    refine wa_iload_n dX2_change_16 rfl ?_
    refine wa_if_eqT 28 dX2_change_17 (by decide) (by decide) ?_
    refine wa_iload_n dX2_change_28 rfl ?_
    refine wa_iconst (nI 3) dX2_change_29 (by decide) ?_
    refine wa_ic_neF 43 dX2_change_30 (by decide) (by decide) ?_
    refine wa_aload_n dX2_change_33 rfl ?_
    refine wa_callV0 (k' := kX2_isPowerOfTwo) (d' := 0) dX2_change_34 lmX2_38 kvX2_isPowerOfTwo (by first | assumption | rfl) (by rfl) (by decide) (by omega) (Nat.le_of_ble_eq_true rfl) ?_
    refine wp_X2_isPowerOfTwo (by assumption) (by assumption) (by assumption) (fun hp2 => ?_) (fun hp2 => ?_)
    · skip
      refine wa_if_neT 43 dX2_change_37 (by decide) (by decide) ?_
      refine wa_iload_n dX2_change_43 rfl ?_
      refine wa_if_eqT 60 dX2_change_44 (by decide) (by decide) ?_
      refine wa_iload_n dX2_change_60 rfl ?_
      refine wa_tsO 109 dX2_change_61 (by decide) (by decide) ?_
      exact K3 hp2
    · skip
      refine wa_if_neF 43 dX2_change_37 (by decide) (by decide) ?_
      refine wa_bipush (-3) dX2_change_40 (by decide) ?_
      refine wa_iret dX2_change_42 rfl ?_
      exact hNO (Or.inr ⟨rfl, hp2⟩)
