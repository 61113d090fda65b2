/-! ROWS of the class: THIRD and rows of WAVES -/
def srtA (hs : Nat → Int64) (H : Nat → Int64) : Nat → (Nat → Int64)
  | 0 => H
  | w + 1 => insA (srtA hs H w) w (hs w)
theorem wp_X2_highestTogether {d t f k : Nat} {U : Nat → Nat} {μ : Mem} {Q : QM} (ht : isR t) (hd : 2 ≤ d) (hf : f < 63) (hk : k ≤ 64) (hU : ∀ w, w ≤ f → μ.1 (t + 3) w = nI (U w)) (hI : ∀ w, w < f → U w < U (w + 1)) (hB : ∀ w, w ≤ f → U w < 64) (hQ : Q (some (.long (sumL (srtA (fun w => wfL (μ.2 (t + 1)) (U w) (U (w + 1)) 4) (μ.2 (t + 4)) f) k))) (bL μ (t + 4) (srtA (fun w => wfL (μ.2 (t + 1)) (U w) (U (w + 1)) 4) (μ.2 (t + 4)) f))) : MW kX2_highestTogether d [.ref t, .int (nI f), .int (nI k)] μ Q := by
  obtain ⟨hr0t, hr1t, hr2t, hr3t, hr4t⟩ := isR_sh ht
  have hmt := isR_mod ht
  refine MW_of (by decide) [some (.ref t), some (.int (nI f)), some (.int (nI k)), none, none, none] rfl (Nat.le_of_ble_eq_true rfl) ?_
  generalize hhs : (fun w => wfL (μ.2 (t + 1)) (U w) (U (w + 1)) 4) = hs at hQ
  have ehs : ∀ w, hs w = wfL (μ.2 (t + 1)) (U w) (U (w + 1)) 4 := fun w => by rw [← hhs]
  have loop2 : ∀ m i, i + m = k → WA kX2_highestTogether d Q 29 [some (.ref t), some (.int (nI f)), some (.int (nI k)), some (.long (sumL (srtA hs (μ.2 (t + 4)) f) i)), none, some (.int (nI i))] [] (bL μ (t + 4) (srtA hs (μ.2 (t + 4)) f)) := by
    intro m
    induction m with
    | zero =>
      intro i hi
      obtain rfl : i = k := by omega
      refine wa_iload dX2_highestTogether_29 rfl ?_
      refine wa_iload_n dX2_highestTogether_31 rfl ?_
      refine wa_ic_geT 51 dX2_highestTogether_32 (by decide) (le_nI (by omega) (by omega)) ?_
      refine wa_lload_n dX2_highestTogether_51 rfl ?_
      refine wa_lret dX2_highestTogether_52 rfl ?_
      exact hQ
    | succ m ih =>
      intro i hi
      have e := ih (i + 1) (by omega)
      refine wa_iload dX2_highestTogether_29 rfl ?_
      refine wa_iload_n dX2_highestTogether_31 rfl ?_
      refine wa_ic_geF 51 dX2_highestTogether_32 (by decide) (nle_nI (by omega) (by omega)) ?_
      refine wa_lload_n dX2_highestTogether_35 rfl ?_
      refine wa_aload_n dX2_highestTogether_36 rfl ?_
      refine wa_getR dX2_highestTogether_37 fgX2_22 (by first | assumption | rfl) (by rfl) ?_
      refine wa_iload dX2_highestTogether_40 rfl ?_
      refine wa_lald _ dX2_highestTogether_42 (by first | assumption | rfl) (by first | with_reducible rfl | with_reducible assumption | with_reducible exact ix_ma _ _ _ | with_reducible exact ix_maa _ _ _ _ | with_reducible exact ix_a _ _ | with_reducible exact ix_mama _ _ _ _ _) (by omega) ?_
      refine wa_ladd dX2_highestTogether_43 ?_
      refine wa_lstore_n dX2_highestTogether_44 (by decide) ?_
      refine wa_iinc (nI 1) dX2_highestTogether_45 rfl (by decide) (by decide) ?_
      refine wa_goto 29 dX2_highestTogether_48 (by decide) ?_
      rw [rb2e]; simp only [nI_add]; exact e
  have loop1 : ∀ m w, w + m = f → WA kX2_highestTogether d Q 2 [some (.ref t), some (.int (nI f)), some (.int (nI k)), some (.int (nI w)), none, none] [] (bL μ (t + 4) (srtA hs (μ.2 (t + 4)) w)) := by
    intro m
    induction m with
    | zero =>
      intro w hw
      obtain rfl : w = f := by omega
      refine wa_iload_n dX2_highestTogether_2 rfl ?_
      refine wa_iload_n dX2_highestTogether_3 rfl ?_
      refine wa_ic_geT 24 dX2_highestTogether_4 (by decide) (le_nI (by omega) (by omega)) ?_
      refine wa_lconst (0) dX2_highestTogether_24 (by decide) ?_
      refine wa_lstore_n dX2_highestTogether_25 (by decide) ?_
      refine wa_iconst (nI 0) dX2_highestTogether_26 (by decide) ?_
      refine wa_istore dX2_highestTogether_27 (by decide) ?_
      exact loop2 k 0 (by omega)
    | succ m ih =>
      intro w hw
      have e := ih (w + 1) (by omega)
      refine wa_iload_n dX2_highestTogether_2 rfl ?_
      refine wa_iload_n dX2_highestTogether_3 rfl ?_
      refine wa_ic_geF 24 dX2_highestTogether_4 (by decide) (nle_nI (by omega) (by omega)) ?_
      refine wa_aload_n dX2_highestTogether_7 rfl ?_
      refine wa_aload_n dX2_highestTogether_8 rfl ?_
      refine wa_iload_n dX2_highestTogether_9 rfl ?_
      refine wa_iconst (nI 4) dX2_highestTogether_10 (by decide) ?_
      refine wa_callV2 (k' := kX2_waveFact) (d' := 1) dX2_highestTogether_11 lmX2_105 kvX2_waveFact (by first | assumption | rfl) (by rfl) (by decide) (by omega) (Nat.le_of_ble_eq_true rfl) ?_
      refine wp_X2_waveFact (a := U w) (b := U (w + 1)) (by assumption) (by omega) (by omega) (by rw [rb2l]; exact hU w (by omega)) (by rw [rb2l]; exact hU (w + 1) (by omega)) (hI w (by omega)) (hB (w + 1) (by omega)) (by omega) ?_
      refine wa_iload_n dX2_highestTogether_14 rfl ?_
      refine wa_callV2 (k' := kX2_sortIn) (d' := 0) dX2_highestTogether_15 lmX2_109 kvX2_sortIn (by first | assumption | rfl) (by rfl) (by decide) (by omega) (Nat.le_of_ble_eq_true rfl) ?_
      refine wp_X2_sortIn (by assumption) (by omega) ?_
      refine wa_iinc (nI 1) dX2_highestTogether_18 rfl (by decide) (by decide) ?_
      refine wa_goto 2 dX2_highestTogether_21 (by decide) ?_
      rw [rb2e, bL_bL, bL_off (by omega), ← ehs w]
      rw [srtA] at e
      simp only [nI_add]
      exact e
  refine wa_iconst (nI 0) dX2_highestTogether_0 (by decide) ?_
  refine wa_istore_n dX2_highestTogether_1 (by decide) ?_
  have e0 := loop1 f 0 (by omega)
  rw [srtA, bL_self] at e0
  exact e0
/-- the WAVES' HEIGHTS -/
def hWv (v : Nat → Int64) (n w : Nat) : Int64 := wfL v (posU v n w) (posU v n (w + 1)) 4
def runH (hs : Nat → Int64) (b : Int) : Nat → Nat
  | 0 => 0
  | w + 1 => if b < (hs w).toInt then runH hs b w + 1 else 0
def rowsN (hs : Nat → Int64) (b : Int) : Nat → Nat
  | 0 => 0
  | w + 1 => rowsN hs b w + (if runH hs b (w + 1) = 2 then 1 else 0)
def mosH (hs : Nat → Int64) (b : Int) : Nat → Nat
  | 0 => 0
  | w + 1 => max (mosH hs b w) (runH hs b (w + 1))
theorem runH_le (hs : Nat → Int64) (b : Int) : ∀ w, runH hs b w ≤ w
  | 0 => Nat.le_refl 0
  | w + 1 => by
    have := runH_le hs b w
    rw [runH]
    split <;> omega
theorem mosH_le (hs : Nat → Int64) (b : Int) : ∀ w, mosH hs b w ≤ w
  | 0 => Nat.le_refl 0
  | w + 1 => by
    have h1 := mosH_le hs b w
    have h2 := runH_le hs b (w + 1)
    rw [mosH]
    omega
theorem wvN_lt {v : Nat → Int64} {n w : Nat} (h : w < wvN v n) : w + 1 < upN v n := by
  unfold wvN at h
  omega
theorem wp_X2_wavesInRows {d t n : Nat} {b : Int64} {μ : Mem} {Q : QM} (ht : isR t) (hd : 2 ≤ d) (hn : μ.1 t 0 = nI n) (hn64 : n ≤ 64) (hQ : Q (some (.int (nI (rowsN (hWv (μ.2 (t + 1)) n) b.toInt (wvN (μ.2 (t + 1)) n))))) (bI μ (t + 3) (upsF (μ.2 (t + 1)) (μ.1 (t + 3)) n))) : MW kX2_wavesInRows d [.ref t, .long b] μ Q := by
  obtain ⟨hr0t, hr1t, hr2t, hr3t, hr4t⟩ := isR_sh ht
  have hmt := isR_mod ht
  refine MW_of (by decide) [some (.ref t), some (.long b), none, none, none, none, none] rfl (Nat.le_of_ble_eq_true rfl) ?_
  generalize hv : μ.2 (t + 1) = v at hQ
  generalize hf : wvN v n = f at hQ
  have hun := upN_le v n
  have hf2 : f = upN v n - 1 := by rw [← hf]; rfl
  have loop : ∀ m w, w + m = f → WA kX2_wavesInRows d Q 14 [some (.ref t), some (.long b), none, some (.int (nI f)), some (.int (nI (rowsN (hWv v n) b.toInt w))), some (.int (nI (runH (hWv v n) b.toInt w))), some (.int (nI w))] [] (bI μ (t + 3) (upsF v (μ.1 (t + 3)) n)) := by
    intro m
    induction m with
    | zero =>
      intro w hw
      obtain rfl : w = f := by omega
      refine wa_iload dX2_wavesInRows_14 rfl ?_
      refine wa_iload_n dX2_wavesInRows_16 rfl ?_
      refine wa_ic_geT 57 dX2_wavesInRows_17 (by decide) (le_nI (by omega) (by omega)) ?_
      refine wa_iload dX2_wavesInRows_57 rfl ?_
      refine wa_iret dX2_wavesInRows_59 rfl ?_
      exact hQ
    | succ m ih =>
      intro w hw
      have e := ih (w + 1) (by omega)
      have hh : wfL ((bI μ (t + 3) (upsF v (μ.1 (t + 3)) n)).2 (t + 1)) (posU v n w) (posU v n (w + 1)) 4 = hWv v n w := by rw [rb1l, hv]; rfl
      have hrl := runH_le (hWv v n) b.toInt w
      refine wa_iload dX2_wavesInRows_14 rfl ?_
      refine wa_iload_n dX2_wavesInRows_16 rfl ?_
      refine wa_ic_geF 57 dX2_wavesInRows_17 (by decide) (nle_nI (by omega) (by omega)) ?_
      refine wa_aload_n dX2_wavesInRows_20 rfl ?_
      refine wa_iload dX2_wavesInRows_21 rfl ?_
      refine wa_iconst (nI 4) dX2_wavesInRows_23 (by decide) ?_
      refine wa_callV2 (k' := kX2_waveFact) (d' := 1) dX2_wavesInRows_24 lmX2_105 kvX2_waveFact (by first | assumption | rfl) (by rfl) (by decide) (by omega) (Nat.le_of_ble_eq_true rfl) ?_
      refine wp_X2_waveFact (a := posU v n w) (b := posU v n (w + 1)) (by assumption) (by omega) (by omega) (by rw [rb1e]; exact upsF_at v _ n w (by omega)) (by rw [rb1e]; exact upsF_at v _ n (w + 1) (by omega)) (posU_inc v n w (by omega)) (by have := posU_lt v n (w + 1) (by omega); omega) (by omega) ?_
      refine wa_lload_n dX2_wavesInRows_27 rfl ?_
      refine wa_lc_le 39 dX2_wavesInRows_28 dX2_wavesInRows_29 (by decide) (fun c28_2 => ?_) (fun c28_2 => ?_)
      · try simp (disch := omega) only [nI_toInt, hh, nI_add] at c28_2
        refine wa_iconst (nI 0) dX2_wavesInRows_39 (by decide) ?_
        refine wa_istore dX2_wavesInRows_40 (by decide) ?_
        refine wa_iload dX2_wavesInRows_42 rfl ?_
        refine wa_iconst (nI 2) dX2_wavesInRows_44 (by decide) ?_
        refine wa_ic_neT 51 dX2_wavesInRows_45 (by decide) (by decide) ?_
        refine wa_iinc (nI 1) dX2_wavesInRows_51 rfl (by decide) (by decide) ?_
        refine wa_goto 14 dX2_wavesInRows_54 (by decide) ?_
        have e1 : runH (hWv v n) b.toInt (w + 1) = 0 := by rw [runH, if_neg (by omega)]
        rw [rowsN, e1, if_neg (by omega)] at e; simp only [nI_add]; exact e
      · try simp (disch := omega) only [nI_toInt, hh, nI_add] at c28_2
        refine wa_iload dX2_wavesInRows_32 rfl ?_
        refine wa_iconst (nI 1) dX2_wavesInRows_34 (by decide) ?_
        refine wa_iadd dX2_wavesInRows_35 ?_
        refine wa_goto 40 dX2_wavesInRows_36 (by decide) ?_
        refine wa_istore dX2_wavesInRows_40 (by decide) ?_
        refine wa_iload dX2_wavesInRows_42 rfl ?_
        refine wa_iconst (nI 2) dX2_wavesInRows_44 (by decide) ?_
        refine wa_ic_ne 51 dX2_wavesInRows_45 (by decide) (fun c45_3 => ?_) (fun c45_3 => ?_)
        · try simp (disch := omega) only [nI_toInt, hh, nI_add] at c45_3
          refine wa_iinc (nI 1) dX2_wavesInRows_51 rfl (by decide) (by decide) ?_
          refine wa_goto 14 dX2_wavesInRows_54 (by decide) ?_
          have e1 : runH (hWv v n) b.toInt (w + 1) = runH (hWv v n) b.toInt w + 1 := by rw [runH, if_pos (by omega)]
          rw [rowsN, e1, if_neg (by omega)] at e; simp only [nI_add]; exact e
        · try simp (disch := omega) only [nI_toInt, hh, nI_add] at c45_3
          refine wa_iinc (nI 1) dX2_wavesInRows_48 rfl (by decide) (by decide) ?_
          refine wa_iinc (nI 1) dX2_wavesInRows_51 rfl (by decide) (by decide) ?_
          refine wa_goto 14 dX2_wavesInRows_54 (by decide) ?_
          have e1 : runH (hWv v n) b.toInt (w + 1) = runH (hWv v n) b.toInt w + 1 := by rw [runH, if_pos (by omega)]
          rw [rowsN, e1, if_pos (by omega)] at e; simp only [nI_add]; exact e
  refine wa_aload_n dX2_wavesInRows_0 rfl ?_
  refine wa_callV0 (k' := kX2_findWaves) (d' := 1) dX2_wavesInRows_1 lmX2_113 kvX2_findWaves (by first | assumption | rfl) (by rfl) (by decide) (by omega) (Nat.le_of_ble_eq_true rfl) ?_
  refine wp_X2_findWaves (by assumption) (by omega) (by assumption) (by assumption) ?_
  refine wa_istore_n dX2_wavesInRows_4 (by decide) ?_
  refine wa_iconst (nI 0) dX2_wavesInRows_5 (by decide) ?_
  refine wa_istore dX2_wavesInRows_6 (by decide) ?_
  refine wa_iconst (nI 0) dX2_wavesInRows_8 (by decide) ?_
  refine wa_istore dX2_wavesInRows_9 (by decide) ?_
  refine wa_iconst (nI 0) dX2_wavesInRows_11 (by decide) ?_
  refine wa_istore dX2_wavesInRows_12 (by decide) ?_
  rw [hv, hf]; exact loop f 0 (by omega)
theorem wp_X2_longestRowOfWaves {d t n : Nat} {b : Int64} {μ : Mem} {Q : QM} (ht : isR t) (hd : 2 ≤ d) (hn : μ.1 t 0 = nI n) (hn64 : n ≤ 64) (hQ : Q (some (.int (nI (mosH (hWv (μ.2 (t + 1)) n) b.toInt (wvN (μ.2 (t + 1)) n))))) (bI μ (t + 3) (upsF (μ.2 (t + 1)) (μ.1 (t + 3)) n))) : MW kX2_longestRowOfWaves d [.ref t, .long b] μ Q := by
  obtain ⟨hr0t, hr1t, hr2t, hr3t, hr4t⟩ := isR_sh ht
  have hmt := isR_mod ht
  refine MW_of (by decide) [some (.ref t), some (.long b), none, none, none, none, none] rfl (Nat.le_of_ble_eq_true rfl) ?_
  generalize hv : μ.2 (t + 1) = v at hQ
  generalize hf : wvN v n = f at hQ
  have hun := upN_le v n
  have hf2 : f = upN v n - 1 := by rw [← hf]; rfl
  have loop : ∀ m w, w + m = f → WA kX2_longestRowOfWaves d Q 14 [some (.ref t), some (.long b), none, some (.int (nI f)), some (.int (nI (mosH (hWv v n) b.toInt w))), some (.int (nI (runH (hWv v n) b.toInt w))), some (.int (nI w))] [] (bI μ (t + 3) (upsF v (μ.1 (t + 3)) n)) := by
    intro m
    induction m with
    | zero =>
      intro w hw
      obtain rfl : w = f := by omega
      refine wa_iload dX2_longestRowOfWaves_14 rfl ?_
      refine wa_iload_n dX2_longestRowOfWaves_16 rfl ?_
      refine wa_ic_geT 57 dX2_longestRowOfWaves_17 (by decide) (le_nI (by omega) (by omega)) ?_
      refine wa_iload dX2_longestRowOfWaves_57 rfl ?_
      refine wa_iret dX2_longestRowOfWaves_59 rfl ?_
      exact hQ
    | succ m ih =>
      intro w hw
      have e := ih (w + 1) (by omega)
      have hh : wfL ((bI μ (t + 3) (upsF v (μ.1 (t + 3)) n)).2 (t + 1)) (posU v n w) (posU v n (w + 1)) 4 = hWv v n w := by rw [rb1l, hv]; rfl
      have hrl := runH_le (hWv v n) b.toInt w
      have hml := mosH_le (hWv v n) b.toInt w
      refine wa_iload dX2_longestRowOfWaves_14 rfl ?_
      refine wa_iload_n dX2_longestRowOfWaves_16 rfl ?_
      refine wa_ic_geF 57 dX2_longestRowOfWaves_17 (by decide) (nle_nI (by omega) (by omega)) ?_
      refine wa_aload_n dX2_longestRowOfWaves_20 rfl ?_
      refine wa_iload dX2_longestRowOfWaves_21 rfl ?_
      refine wa_iconst (nI 4) dX2_longestRowOfWaves_23 (by decide) ?_
      refine wa_callV2 (k' := kX2_waveFact) (d' := 1) dX2_longestRowOfWaves_24 lmX2_105 kvX2_waveFact (by first | assumption | rfl) (by rfl) (by decide) (by omega) (Nat.le_of_ble_eq_true rfl) ?_
      refine wp_X2_waveFact (a := posU v n w) (b := posU v n (w + 1)) (by assumption) (by omega) (by omega) (by rw [rb1e]; exact upsF_at v _ n w (by omega)) (by rw [rb1e]; exact upsF_at v _ n (w + 1) (by omega)) (posU_inc v n w (by omega)) (by have := posU_lt v n (w + 1) (by omega); omega) (by omega) ?_
      refine wa_lload_n dX2_longestRowOfWaves_27 rfl ?_
      refine wa_lc_le 39 dX2_longestRowOfWaves_28 dX2_longestRowOfWaves_29 (by decide) (fun c28_2 => ?_) (fun c28_2 => ?_)
      · try simp (disch := omega) only [nI_toInt, hh, nI_add] at c28_2
        refine wa_iconst (nI 0) dX2_longestRowOfWaves_39 (by decide) ?_
        refine wa_istore dX2_longestRowOfWaves_40 (by decide) ?_
        refine wa_iload dX2_longestRowOfWaves_42 rfl ?_
        refine wa_iload dX2_longestRowOfWaves_44 rfl ?_
        refine wa_mmaxI dX2_longestRowOfWaves_46 lmX2_93 (by omega) (Nat.le_of_ble_eq_true rfl) ?_
        refine wa_istore dX2_longestRowOfWaves_49 (by decide) ?_
        refine wa_iinc (nI 1) dX2_longestRowOfWaves_51 rfl (by decide) (by decide) ?_
        refine wa_goto 14 dX2_longestRowOfWaves_54 (by decide) ?_
        rw [mosH, runH, if_neg (by omega)] at e; simp only [nI_add]; rw [mxI_nI (by omega) (by omega)]; exact e
      · try simp (disch := omega) only [nI_toInt, hh, nI_add] at c28_2
        refine wa_iload dX2_longestRowOfWaves_32 rfl ?_
        refine wa_iconst (nI 1) dX2_longestRowOfWaves_34 (by decide) ?_
        refine wa_iadd dX2_longestRowOfWaves_35 ?_
        refine wa_goto 40 dX2_longestRowOfWaves_36 (by decide) ?_
        refine wa_istore dX2_longestRowOfWaves_40 (by decide) ?_
        refine wa_iload dX2_longestRowOfWaves_42 rfl ?_
        refine wa_iload dX2_longestRowOfWaves_44 rfl ?_
        refine wa_mmaxI dX2_longestRowOfWaves_46 lmX2_93 (by omega) (Nat.le_of_ble_eq_true rfl) ?_
        refine wa_istore dX2_longestRowOfWaves_49 (by decide) ?_
        refine wa_iinc (nI 1) dX2_longestRowOfWaves_51 rfl (by decide) (by decide) ?_
        refine wa_goto 14 dX2_longestRowOfWaves_54 (by decide) ?_
        rw [mosH, runH, if_pos (by omega)] at e; simp only [nI_add]; rw [mxI_nI (by omega) (by omega)]; exact e
  refine wa_aload_n dX2_longestRowOfWaves_0 rfl ?_
  refine wa_callV0 (k' := kX2_findWaves) (d' := 1) dX2_longestRowOfWaves_1 lmX2_113 kvX2_findWaves (by first | assumption | rfl) (by rfl) (by decide) (by omega) (Nat.le_of_ble_eq_true rfl) ?_
  refine wp_X2_findWaves (by assumption) (by omega) (by assumption) (by assumption) ?_
  refine wa_istore_n dX2_longestRowOfWaves_4 (by decide) ?_
  refine wa_iconst (nI 0) dX2_longestRowOfWaves_5 (by decide) ?_
  refine wa_istore dX2_longestRowOfWaves_6 (by decide) ?_
  refine wa_iconst (nI 0) dX2_longestRowOfWaves_8 (by decide) ?_
  refine wa_istore dX2_longestRowOfWaves_9 (by decide) ?_
  refine wa_iconst (nI 0) dX2_longestRowOfWaves_11 (by decide) ?_
  refine wa_istore dX2_longestRowOfWaves_12 (by decide) ?_
  rw [hv, hf]; exact loop f 0 (by omega)
