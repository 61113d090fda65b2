/-! ROWS of the class: WAVES -/
def sideV (v : Nat → Int64) : Nat → Int32
  | 0 => nI 0
  | i + 1 => if (v i).toInt = 0 then sideV v i else if 0 < (v i).toInt then nI 1 else (-1)
def upB (v : Nat → Int64) (i : Nat) : Bool := decide ((sideV v (i + 1)).toInt = 1 ∧ (sideV v i).toInt = -1)
def upN (v : Nat → Int64) : Nat → Nat
  | 0 => 0
  | i + 1 => if upB v i = true then upN v i + 1 else upN v i
def upsF (v : Nat → Int64) (old : Nat → Int32) : Nat → (Nat → Int32)
  | 0 => old
  | i + 1 => if upB v i = true then upd (upsF v old i) (upN v i) (nI i) else upsF v old i
def posU (v : Nat → Int64) : Nat → (Nat → Nat)
  | 0 => fun _ => 0
  | i + 1 => if upB v i = true then (fun w => if w = upN v i then i else posU v i w) else posU v i
theorem upN_le (v : Nat → Int64) : ∀ n, upN v n ≤ n
  | 0 => Nat.le_refl 0
  | n + 1 => by
    have := upN_le v n
    rw [upN]
    split <;> omega
theorem posU_lt (v : Nat → Int64) : ∀ n w, w < upN v n → posU v n w < n
  | 0, w, h => by simp [upN] at h
  | n + 1, w, h => by
    have ih := posU_lt v n
    rw [upN] at h
    rw [posU]
    split at h
    · rename_i hu
      rw [if_pos hu]
      show (if w = upN v n then n else posU v n w) < n + 1
      split
      · omega
      · have := ih w (by omega)
        omega
    · rename_i hu
      rw [if_neg hu]
      have := ih w h
      omega
theorem posU_inc (v : Nat → Int64) : ∀ n w, w + 1 < upN v n → posU v n w < posU v n (w + 1)
  | 0, w, h => by simp [upN] at h
  | n + 1, w, h => by
    have ih := posU_inc v n
    have hl := posU_lt v n
    rw [upN] at h
    rw [posU]
    split at h
    · rename_i hu
      rw [if_pos hu]
      show (if w = upN v n then n else posU v n w) < (if w + 1 = upN v n then n else posU v n (w + 1))
      by_cases h1 : w + 1 = upN v n
      · rw [if_pos h1, if_neg (by omega)]
        exact hl w (by omega)
      · rw [if_neg h1, if_neg (by omega)]
        exact ih w (by omega)
    · rename_i hu
      rw [if_neg hu]
      exact ih w h
theorem upsF_at (v : Nat → Int64) (old : Nat → Int32) : ∀ n w, w < upN v n → upsF v old n w = nI (posU v n w)
  | 0, w, h => by simp [upN] at h
  | n + 1, w, h => by
    have ih := upsF_at v old n
    rw [upN] at h
    rw [posU, upsF]
    split at h
    · rename_i hu
      rw [if_pos hu, if_pos hu]
      by_cases h1 : w = upN v n
      · subst h1
        simp [upd]
      · simp only [upd, if_neg h1]
        exact ih w (by omega)
    · rename_i hu
      rw [if_neg hu, if_neg hu]
      exact ih w h
def wvN (v : Nat → Int64) (n : Nat) : Nat := upN v n - 1
theorem mx_pred (f : Nat) (h : f < 2 ^ 31) : mxI (nI f - nI 1) (nI 0) = nI (f - 1) := by
  by_cases h0 : f = 0
  · subst h0
    decide
  · rw [pk_sub (by omega), mxI_nI (by omega) (by omega), show max (f - 1) 0 = f - 1 by omega]
theorem m1z : (-1 : Int32).toInt = -1 := by decide
theorem wp_X2_findWaves {d t n : Nat} {μ : Mem} {Q : QM} (ht : isR t) (hd : 1 ≤ d) (hn : μ.1 t 0 = nI n) (hn64 : n ≤ 64) (hQ : Q (some (.int (nI (wvN (μ.2 (t + 1)) n)))) (bI μ (t + 3) (upsF (μ.2 (t + 1)) (μ.1 (t + 3)) n))) : MW kX2_findWaves d [.ref t] μ Q := by
  obtain ⟨hr0t, hr1t, hr2t, hr3t, hr4t⟩ := isR_sh ht
  have hmt := isR_mod ht
  refine MW_of (by decide) [some (.ref t), none, none, none, none] rfl (Nat.le_of_ble_eq_true rfl) ?_
  generalize hv : μ.2 (t + 1) = v at hQ
  generalize ho : μ.1 (t + 3) = old at hQ
  have loop : ∀ m i, i + m = n → ∀ z, WA kX2_findWaves d Q 6 [some (.ref t), some (.int (nI (upN v i))), some (.int (sideV v i)), some (.int (nI i)), z] [] (bI μ (t + 3) (upsF v old i)) := by
    intro m
    induction m with
    | zero =>
      intro i hi z
      obtain rfl : i = n := by omega
      have := upN_le v i
      refine wa_iload_n dX2_findWaves_6 rfl ?_
      refine wa_aload_n dX2_findWaves_7 rfl ?_
      refine wa_getI dX2_findWaves_8 fgX2_25 (by first | assumption | rfl) (by rfl) ?_
      refine wa_ic_geT 72 dX2_findWaves_11 (by decide) (by rw [bI_off (by omega), hn]; exact le_nI (by omega) (by omega)) ?_
      refine wa_iload_n dX2_findWaves_72 rfl ?_
      refine wa_iconst (nI 1) dX2_findWaves_73 (by decide) ?_
      refine wa_isub dX2_findWaves_74 ?_
      refine wa_iconst (nI 0) dX2_findWaves_75 (by decide) ?_
      refine wa_mmaxI dX2_findWaves_76 lmX2_93 (by omega) (Nat.le_of_ble_eq_true rfl) ?_
      refine wa_iret dX2_findWaves_79 rfl ?_
      rw [mx_pred _ (by omega)]; exact hQ
    | succ m ih =>
      intro i hi z
      have e := ih (i + 1) (by omega) (some (.int (sideV v i)))
      have hle := upN_le v i
      have ev : (bI μ (t + 3) (upsF v old i)).2 (t + 1) i = v i := by rw [rb1l, hv]
      have K0 : upB v i = false → sideV v (i + 1) = sideV v (i + 1) → WA kX2_findWaves d Q 66 [some (.ref t), some (.int (nI (upN v i))), some (.int (sideV v (i + 1))), some (.int (nI i)), some (.int (sideV v i))] [] (bI μ (t + 3) (upsF v old i)) := by
        intro hu _
        rw [upN, upsF, hu] at e
        simp only [Bool.false_eq_true, if_false] at e
        refine wa_iinc (nI 1) dX2_findWaves_66 rfl (by decide) (by decide) ?_
        refine wa_goto 6 dX2_findWaves_69 (by decide) ?_
        simp only [nI_add]; exact e
      have K1 : upB v i = true → WA kX2_findWaves d Q 56 [some (.ref t), some (.int (nI (upN v i))), some (.int (sideV v (i + 1))), some (.int (nI i)), some (.int (sideV v i))] [] (bI μ (t + 3) (upsF v old i)) := by
        intro hu
        rw [upN, upsF, if_pos hu, if_pos hu] at e
        refine wa_aload_n dX2_findWaves_56 rfl ?_
        refine wa_getR dX2_findWaves_57 fgX2_18 (by first | assumption | rfl) (by rfl) ?_
        refine wa_iload_n dX2_findWaves_60 rfl ?_
        refine wa_iload_n dX2_findWaves_61 rfl ?_
        refine wa_iast _ dX2_findWaves_62 (by first | assumption | rfl) (by first | with_reducible rfl | with_reducible assumption | with_reducible exact ix_ma _ _ _ | with_reducible exact ix_maa _ _ _ _ | with_reducible exact ix_a _ _ | with_reducible exact ix_mama _ _ _ _ _) (by omega) ?_
        refine wa_iinc (nI 1) dX2_findWaves_63 rfl (by decide) (by decide) ?_
        refine wa_iinc (nI 1) dX2_findWaves_66 rfl (by decide) (by decide) ?_
        refine wa_goto 6 dX2_findWaves_69 (by decide) ?_
        rw [sIb]; simp only [nI_add]; exact e
      have K : WA kX2_findWaves d Q 45 [some (.ref t), some (.int (nI (upN v i))), some (.int (sideV v (i + 1))), some (.int (nI i)), some (.int (sideV v i))] [] (bI μ (t + 3) (upsF v old i)) := by
        refine wa_iload_n dX2_findWaves_45 rfl ?_
        refine wa_iconst (nI 1) dX2_findWaves_46 (by decide) ?_
        refine wa_ic_ne 66 dX2_findWaves_47 (by decide) (fun c47_1 => ?_) (fun c47_1 => ?_)
        · try simp (disch := omega) only [nI_toInt, m1z] at c47_1
          exact K0 (decide_eq_false (fun q => by omega)) rfl
        · try simp (disch := omega) only [nI_toInt, m1z] at c47_1
          refine wa_iload dX2_findWaves_50 rfl ?_
          refine wa_iconst (-1) dX2_findWaves_52 (by decide) ?_
          refine wa_ic_ne 66 dX2_findWaves_53 (by decide) (fun c53_2 => ?_) (fun c53_2 => ?_)
          · try simp (disch := omega) only [nI_toInt, m1z] at c53_2
            exact K0 (decide_eq_false (fun q => by omega)) rfl
          · try simp (disch := omega) only [nI_toInt, m1z] at c53_2
            exact K1 (decide_eq_true ⟨by omega, by omega⟩)
      refine wa_iload_n dX2_findWaves_6 rfl ?_
      refine wa_aload_n dX2_findWaves_7 rfl ?_
      refine wa_getI dX2_findWaves_8 fgX2_25 (by first | assumption | rfl) (by rfl) ?_
      refine wa_ic_geF 72 dX2_findWaves_11 (by decide) (by rw [bI_off (by omega), hn]; exact nle_nI (by omega) (by omega)) ?_
      refine wa_iload_n dX2_findWaves_14 rfl ?_
      refine wa_istore dX2_findWaves_15 (by decide) ?_
      refine wa_aload_n dX2_findWaves_17 rfl ?_
      refine wa_getR dX2_findWaves_18 fgX2_9 (by first | assumption | rfl) (by rfl) ?_
      refine wa_iload_n dX2_findWaves_21 rfl ?_
      refine wa_lald _ dX2_findWaves_22 (by first | assumption | rfl) (by first | with_reducible rfl | with_reducible assumption | with_reducible exact ix_ma _ _ _ | with_reducible exact ix_maa _ _ _ _ | with_reducible exact ix_a _ _ | with_reducible exact ix_mama _ _ _ _ _) (by omega) ?_
      refine wa_lconst (0) dX2_findWaves_23 (by decide) ?_
      refine wa_lc_eq 45 dX2_findWaves_24 dX2_findWaves_25 (by decide) (fun c24_1 => ?_) (fun c24_1 => ?_)
      · try simp (disch := omega) only [nI_toInt, ev, z64] at c24_1
        rw [sideV, if_pos (by assumption)] at K; exact K
      · try simp (disch := omega) only [nI_toInt, ev, z64] at c24_1
        refine wa_aload_n dX2_findWaves_28 rfl ?_
        refine wa_getR dX2_findWaves_29 fgX2_9 (by first | assumption | rfl) (by rfl) ?_
        refine wa_iload_n dX2_findWaves_32 rfl ?_
        refine wa_lald _ dX2_findWaves_33 (by first | assumption | rfl) (by first | with_reducible rfl | with_reducible assumption | with_reducible exact ix_ma _ _ _ | with_reducible exact ix_maa _ _ _ _ | with_reducible exact ix_a _ _ | with_reducible exact ix_mama _ _ _ _ _) (by omega) ?_
        refine wa_lconst (0) dX2_findWaves_34 (by decide) ?_
        refine wa_lc_le 43 dX2_findWaves_35 dX2_findWaves_36 (by decide) (fun c35_2 => ?_) (fun c35_2 => ?_)
        · try simp (disch := omega) only [nI_toInt, ev, z64] at c35_2
          refine wa_iconst (-1) dX2_findWaves_43 (by decide) ?_
          refine wa_istore_n dX2_findWaves_44 (by decide) ?_
          rw [sideV, if_neg (by assumption), if_neg (by omega)] at K; exact K
        · try simp (disch := omega) only [nI_toInt, ev, z64] at c35_2
          refine wa_iconst (nI 1) dX2_findWaves_39 (by decide) ?_
          refine wa_goto 44 dX2_findWaves_40 (by decide) ?_
          refine wa_istore_n dX2_findWaves_44 (by decide) ?_
          rw [sideV, if_neg (by assumption), if_pos (by omega)] at K; exact K
  refine wa_iconst (nI 0) dX2_findWaves_0 (by decide) ?_
  refine wa_istore_n dX2_findWaves_1 (by decide) ?_
  refine wa_iconst (nI 0) dX2_findWaves_2 (by decide) ?_
  refine wa_istore_n dX2_findWaves_3 (by decide) ?_
  refine wa_iconst (nI 0) dX2_findWaves_4 (by decide) ?_
  refine wa_istore_n dX2_findWaves_5 (by decide) ?_
  have e0 := loop n 0 (by omega) none
  rw [upsF, ← ho, bI_self] at e0
  exact e0
/-- the greatest, the least of m numbers from a on -/
def gmx (v : Nat → Int64) (a : Nat) : Nat → Int64
  | 0 => v a
  | m + 1 => mxL (gmx v a m) (v (a + m))
def gmn (v : Nat → Int64) (a : Nat) : Nat → Int64
  | 0 => v a
  | m + 1 => mnL (gmn v a m) (v (a + m))
def wfL (v : Nat → Int64) (a b c : Nat) : Int64 := match c with
  | 0 => (nI a).toInt64
  | 1 => (nI (b - a)).toInt64
  | 2 => gmx v a (b - a)
  | 3 => gmn v a (b - a)
  | _ => gmx v a (b - a) - gmn v a (b - a)
theorem wp_X2_waveFact {d t w a b c : Nat} {μ : Mem} {Q : QM} (ht : isR t) (hd : 1 ≤ d) (hw : w < 63) (hua : μ.1 (t + 3) w = nI a) (hub : μ.1 (t + 3) (w + 1) = nI b) (hab : a < b) (hb : b < 64) (hc : c < 5) (hQ : Q (some (.long (wfL (μ.2 (t + 1)) a b c))) μ) : MW kX2_waveFact d [.ref t, .int (nI w), .int (nI c)] μ Q := by
  obtain ⟨hr0t, hr1t, hr2t, hr3t, hr4t⟩ := isR_sh ht
  have hmt := isR_mod ht
  refine MW_of (by decide) [some (.ref t), some (.int (nI w)), some (.int (nI c)), none, none, none, none, none] rfl (Nat.le_of_ble_eq_true rfl) ?_
  have loop : ∀ m i, i + m = b - a → WA kX2_waveFact d Q 23 [some (.ref t), some (.int (nI w)), some (.int (nI c)), some (.long (gmx (μ.2 (t + 1)) a i)), none, some (.long (gmn (μ.2 (t + 1)) a i)), none, some (.int (nI (a + i)))] [] μ := by
    intro m
    induction m with
    | zero =>
      intro i hi
      obtain rfl : i = b - a := by omega
      have hcc : c = 0 ∨ c = 1 ∨ c = 2 ∨ c = 3 ∨ c = 4 := by omega
      rcases hcc with rfl | rfl | rfl | rfl | rfl
      · refine wa_iload dX2_waveFact_23 rfl ?_
        refine wa_aload_n dX2_waveFact_25 rfl ?_
        refine wa_getR dX2_waveFact_26 fgX2_18 (by first | assumption | rfl) (by rfl) ?_
        refine wa_iload_n dX2_waveFact_29 rfl ?_
        refine wa_iconst (nI 1) dX2_waveFact_30 (by decide) ?_
        refine wa_iadd dX2_waveFact_31 ?_
        refine wa_iald _ dX2_waveFact_32 (by first | assumption | rfl) (by first | with_reducible rfl | with_reducible assumption | with_reducible exact ix_ma _ _ _ | with_reducible exact ix_maa _ _ _ _ | with_reducible exact ix_a _ _ | with_reducible exact ix_mama _ _ _ _ _) (by omega) ?_
        refine wa_ic_geT 68 dX2_waveFact_33 (by decide) (by rw [hub]; exact le_nI (by omega) (by omega)) ?_
        refine wa_iload_n dX2_waveFact_68 rfl ?_
        refine wa_tsI 100 0 dX2_waveFact_69 (by decide) (by decide) (by decide) rfl (by decide) ?_
        refine wa_aload_n dX2_waveFact_100 rfl ?_
        refine wa_getR dX2_waveFact_101 fgX2_18 (by first | assumption | rfl) (by rfl) ?_
        refine wa_iload_n dX2_waveFact_104 rfl ?_
        refine wa_iald _ dX2_waveFact_105 (by first | assumption | rfl) (by first | with_reducible rfl | with_reducible assumption | with_reducible exact ix_ma _ _ _ | with_reducible exact ix_maa _ _ _ _ | with_reducible exact ix_a _ _ | with_reducible exact ix_mama _ _ _ _ _) (by omega) ?_
        refine wa_i2l dX2_waveFact_106 ?_
        refine wa_lret dX2_waveFact_107 rfl ?_
        rw [hua]; exact hQ
      · refine wa_iload dX2_waveFact_23 rfl ?_
        refine wa_aload_n dX2_waveFact_25 rfl ?_
        refine wa_getR dX2_waveFact_26 fgX2_18 (by first | assumption | rfl) (by rfl) ?_
        refine wa_iload_n dX2_waveFact_29 rfl ?_
        refine wa_iconst (nI 1) dX2_waveFact_30 (by decide) ?_
        refine wa_iadd dX2_waveFact_31 ?_
        refine wa_iald _ dX2_waveFact_32 (by first | assumption | rfl) (by first | with_reducible rfl | with_reducible assumption | with_reducible exact ix_ma _ _ _ | with_reducible exact ix_maa _ _ _ _ | with_reducible exact ix_a _ _ | with_reducible exact ix_mama _ _ _ _ _) (by omega) ?_
        refine wa_ic_geT 68 dX2_waveFact_33 (by decide) (by rw [hub]; exact le_nI (by omega) (by omega)) ?_
        refine wa_iload_n dX2_waveFact_68 rfl ?_
        refine wa_tsI 108 1 dX2_waveFact_69 (by decide) (by decide) (by decide) rfl (by decide) ?_
        refine wa_aload_n dX2_waveFact_108 rfl ?_
        refine wa_getR dX2_waveFact_109 fgX2_18 (by first | assumption | rfl) (by rfl) ?_
        refine wa_iload_n dX2_waveFact_112 rfl ?_
        refine wa_iconst (nI 1) dX2_waveFact_113 (by decide) ?_
        refine wa_iadd dX2_waveFact_114 ?_
        refine wa_iald _ dX2_waveFact_115 (by first | assumption | rfl) (by first | with_reducible rfl | with_reducible assumption | with_reducible exact ix_ma _ _ _ | with_reducible exact ix_maa _ _ _ _ | with_reducible exact ix_a _ _ | with_reducible exact ix_mama _ _ _ _ _) (by omega) ?_
        refine wa_aload_n dX2_waveFact_116 rfl ?_
        refine wa_getR dX2_waveFact_117 fgX2_18 (by first | assumption | rfl) (by rfl) ?_
        refine wa_iload_n dX2_waveFact_120 rfl ?_
        refine wa_iald _ dX2_waveFact_121 (by first | assumption | rfl) (by first | with_reducible rfl | with_reducible assumption | with_reducible exact ix_ma _ _ _ | with_reducible exact ix_maa _ _ _ _ | with_reducible exact ix_a _ _ | with_reducible exact ix_mama _ _ _ _ _) (by omega) ?_
        refine wa_isub dX2_waveFact_122 ?_
        refine wa_i2l dX2_waveFact_123 ?_
        refine wa_lret dX2_waveFact_124 rfl ?_
        rw [hua, hub, pk_sub (by omega)]; exact hQ
      · refine wa_iload dX2_waveFact_23 rfl ?_
        refine wa_aload_n dX2_waveFact_25 rfl ?_
        refine wa_getR dX2_waveFact_26 fgX2_18 (by first | assumption | rfl) (by rfl) ?_
        refine wa_iload_n dX2_waveFact_29 rfl ?_
        refine wa_iconst (nI 1) dX2_waveFact_30 (by decide) ?_
        refine wa_iadd dX2_waveFact_31 ?_
        refine wa_iald _ dX2_waveFact_32 (by first | assumption | rfl) (by first | with_reducible rfl | with_reducible assumption | with_reducible exact ix_ma _ _ _ | with_reducible exact ix_maa _ _ _ _ | with_reducible exact ix_a _ _ | with_reducible exact ix_mama _ _ _ _ _) (by omega) ?_
        refine wa_ic_geT 68 dX2_waveFact_33 (by decide) (by rw [hub]; exact le_nI (by omega) (by omega)) ?_
        refine wa_iload_n dX2_waveFact_68 rfl ?_
        refine wa_tsI 125 2 dX2_waveFact_69 (by decide) (by decide) (by decide) rfl (by decide) ?_
        refine wa_lload_n dX2_waveFact_125 rfl ?_
        refine wa_lret dX2_waveFact_126 rfl ?_
        exact hQ
      · refine wa_iload dX2_waveFact_23 rfl ?_
        refine wa_aload_n dX2_waveFact_25 rfl ?_
        refine wa_getR dX2_waveFact_26 fgX2_18 (by first | assumption | rfl) (by rfl) ?_
        refine wa_iload_n dX2_waveFact_29 rfl ?_
        refine wa_iconst (nI 1) dX2_waveFact_30 (by decide) ?_
        refine wa_iadd dX2_waveFact_31 ?_
        refine wa_iald _ dX2_waveFact_32 (by first | assumption | rfl) (by first | with_reducible rfl | with_reducible assumption | with_reducible exact ix_ma _ _ _ | with_reducible exact ix_maa _ _ _ _ | with_reducible exact ix_a _ _ | with_reducible exact ix_mama _ _ _ _ _) (by omega) ?_
        refine wa_ic_geT 68 dX2_waveFact_33 (by decide) (by rw [hub]; exact le_nI (by omega) (by omega)) ?_
        refine wa_iload_n dX2_waveFact_68 rfl ?_
        refine wa_tsI 127 3 dX2_waveFact_69 (by decide) (by decide) (by decide) rfl (by decide) ?_
        refine wa_lload dX2_waveFact_127 rfl ?_
        refine wa_lret dX2_waveFact_129 rfl ?_
        exact hQ
      · refine wa_iload dX2_waveFact_23 rfl ?_
        refine wa_aload_n dX2_waveFact_25 rfl ?_
        refine wa_getR dX2_waveFact_26 fgX2_18 (by first | assumption | rfl) (by rfl) ?_
        refine wa_iload_n dX2_waveFact_29 rfl ?_
        refine wa_iconst (nI 1) dX2_waveFact_30 (by decide) ?_
        refine wa_iadd dX2_waveFact_31 ?_
        refine wa_iald _ dX2_waveFact_32 (by first | assumption | rfl) (by first | with_reducible rfl | with_reducible assumption | with_reducible exact ix_ma _ _ _ | with_reducible exact ix_maa _ _ _ _ | with_reducible exact ix_a _ _ | with_reducible exact ix_mama _ _ _ _ _) (by omega) ?_
        refine wa_ic_geT 68 dX2_waveFact_33 (by decide) (by rw [hub]; exact le_nI (by omega) (by omega)) ?_
        refine wa_iload_n dX2_waveFact_68 rfl ?_
        refine wa_tsO 130 dX2_waveFact_69 (by decide) (by decide) ?_
        refine wa_lload_n dX2_waveFact_130 rfl ?_
        refine wa_lload dX2_waveFact_131 rfl ?_
        refine wa_lsub dX2_waveFact_133 ?_
        refine wa_lret dX2_waveFact_134 rfl ?_
        exact hQ
    | succ m ih =>
      intro i hi
      have e := ih (i + 1) (by omega)
      refine wa_iload dX2_waveFact_23 rfl ?_
      refine wa_aload_n dX2_waveFact_25 rfl ?_
      refine wa_getR dX2_waveFact_26 fgX2_18 (by first | assumption | rfl) (by rfl) ?_
      refine wa_iload_n dX2_waveFact_29 rfl ?_
      refine wa_iconst (nI 1) dX2_waveFact_30 (by decide) ?_
      refine wa_iadd dX2_waveFact_31 ?_
      refine wa_iald _ dX2_waveFact_32 (by first | assumption | rfl) (by first | with_reducible rfl | with_reducible assumption | with_reducible exact ix_ma _ _ _ | with_reducible exact ix_maa _ _ _ _ | with_reducible exact ix_a _ _ | with_reducible exact ix_mama _ _ _ _ _) (by omega) ?_
      refine wa_ic_geF 68 dX2_waveFact_33 (by decide) (by rw [hub]; exact nle_nI (by omega) (by omega)) ?_
      refine wa_lload_n dX2_waveFact_36 rfl ?_
      refine wa_aload_n dX2_waveFact_37 rfl ?_
      refine wa_getR dX2_waveFact_38 fgX2_9 (by first | assumption | rfl) (by rfl) ?_
      refine wa_iload dX2_waveFact_41 rfl ?_
      refine wa_lald _ dX2_waveFact_43 (by first | assumption | rfl) (by first | with_reducible rfl | with_reducible assumption | with_reducible exact ix_ma _ _ _ | with_reducible exact ix_maa _ _ _ _ | with_reducible exact ix_a _ _ | with_reducible exact ix_mama _ _ _ _ _) (by omega) ?_
      refine wa_mmaxL dX2_waveFact_44 lmX2_99 (by omega) (Nat.le_of_ble_eq_true rfl) ?_
      refine wa_lstore_n dX2_waveFact_47 (by decide) ?_
      refine wa_lload dX2_waveFact_48 rfl ?_
      refine wa_aload_n dX2_waveFact_50 rfl ?_
      refine wa_getR dX2_waveFact_51 fgX2_9 (by first | assumption | rfl) (by rfl) ?_
      refine wa_iload dX2_waveFact_54 rfl ?_
      refine wa_lald _ dX2_waveFact_56 (by first | assumption | rfl) (by first | with_reducible rfl | with_reducible assumption | with_reducible exact ix_ma _ _ _ | with_reducible exact ix_maa _ _ _ _ | with_reducible exact ix_a _ _ | with_reducible exact ix_mama _ _ _ _ _) (by omega) ?_
      refine wa_mminL dX2_waveFact_57 lmX2_102 (by omega) (Nat.le_of_ble_eq_true rfl) ?_
      refine wa_lstore dX2_waveFact_60 (by decide) ?_
      refine wa_iinc (nI 1) dX2_waveFact_62 rfl (by decide) (by decide) ?_
      refine wa_goto 23 dX2_waveFact_65 (by decide) ?_
      rw [gmx, gmn] at e; simp only [nI_add]; exact e
  refine wa_aload_n dX2_waveFact_0 rfl ?_
  refine wa_getR dX2_waveFact_1 fgX2_9 (by first | assumption | rfl) (by rfl) ?_
  refine wa_aload_n dX2_waveFact_4 rfl ?_
  refine wa_getR dX2_waveFact_5 fgX2_18 (by first | assumption | rfl) (by rfl) ?_
  refine wa_iload_n dX2_waveFact_8 rfl ?_
  refine wa_iald _ dX2_waveFact_9 (by first | assumption | rfl) (by first | with_reducible rfl | with_reducible assumption | with_reducible exact ix_ma _ _ _ | with_reducible exact ix_maa _ _ _ _ | with_reducible exact ix_a _ _ | with_reducible exact ix_mama _ _ _ _ _) (by omega) ?_
  refine wa_lald _ dX2_waveFact_10 (by first | assumption | rfl) (by exact hua) (by omega) ?_
  refine wa_lstore_n dX2_waveFact_11 (by decide) ?_
  refine wa_lload_n dX2_waveFact_12 rfl ?_
  refine wa_lstore dX2_waveFact_13 (by decide) ?_
  refine wa_aload_n dX2_waveFact_15 rfl ?_
  refine wa_getR dX2_waveFact_16 fgX2_18 (by first | assumption | rfl) (by rfl) ?_
  refine wa_iload_n dX2_waveFact_19 rfl ?_
  refine wa_iald _ dX2_waveFact_20 (by first | assumption | rfl) (by first | with_reducible rfl | with_reducible assumption | with_reducible exact ix_ma _ _ _ | with_reducible exact ix_maa _ _ _ _ | with_reducible exact ix_a _ _ | with_reducible exact ix_mama _ _ _ _ _) (by omega) ?_
  refine wa_istore dX2_waveFact_21 (by decide) ?_
  rw [hua]; exact loop (b - a) 0 (by omega)
/-! the heights, sorted -/
def insP (H : Nat → Int64) (h : Int64) : Nat → Nat
  | 0 => 0
  | w + 1 => if (H w).toInt < h.toInt then insP H h w else w + 1
def insA (H : Nat → Int64) (m : Nat) (h : Int64) : Nat → Int64 := fun i => if i < insP H h m then H i else if i = insP H h m then h else if i ≤ m then H (i - 1) else H i
/-- what the shift has made so far -/
def shfA (H : Nat → Int64) (m w : Nat) : Nat → Int64 := fun i => if w < i ∧ i ≤ m then H (i - 1) else H i
theorem shfA_0 (H : Nat → Int64) (m : Nat) : shfA H m m = H := by
  funext i
  simp only [shfA]
  rw [if_neg (by omega)]
theorem shfA_s {H : Nat → Int64} {m w : Nat} (h : w + 1 ≤ m) : vp_updL (shfA H m (w + 1)) (w + 1) (H w) = shfA H m w := by
  funext i
  by_cases hi : i = w + 1
  · subst hi
    simp only [vp_updL, shfA, if_true]
    rw [if_pos (by omega), show w + 1 - 1 = w by omega]
  · simp only [vp_updL, shfA, hi, if_false]
    congr 1
    exact propext ⟨fun q => by omega, fun q => by omega⟩
theorem insP_le (H : Nat → Int64) (h : Int64) : ∀ w, insP H h w ≤ w
  | 0 => Nat.le_refl 0
  | w + 1 => by
    have := insP_le H h w
    rw [insP]
    split <;> omega
theorem insA_of {H : Nat → Int64} {m w : Nat} {h : Int64} (hw : insP H h m = w) (hm : w ≤ m) : vp_updL (shfA H m w) w h = insA H m h := by
  funext i
  simp only [vp_updL, shfA, insA, hw]
  by_cases h1 : i = w
  · rw [if_pos h1, if_neg (by omega), if_pos h1]
  · rw [if_neg h1]
    by_cases h2 : i < w
    · rw [if_pos h2, if_neg (by omega)]
    · rw [if_neg h2, if_neg h1]
      by_cases h3 : i ≤ m
      · rw [if_pos h3, if_pos (by omega)]
      · rw [if_neg h3, if_neg (by omega)]
theorem wp_X2_sortIn {d t m : Nat} {h : Int64} {μ : Mem} {Q : QM} (ht : isR t) (hm : m < 64) (hQ : Q none (bL μ (t + 4) (insA (μ.2 (t + 4)) m h))) : MW kX2_sortIn d [.ref t, .long h, .int (nI m)] μ Q := by
  obtain ⟨hr0t, hr1t, hr2t, hr3t, hr4t⟩ := isR_sh ht
  have hmt := isR_mod ht
  refine MW_of (by decide) [some (.ref t), some (.long h), none, some (.int (nI m)), none, none] rfl (Nat.le_of_ble_eq_true rfl) ?_
  have fin : ∀ w, w ≤ m → insP (μ.2 (t + 4)) h m = w → ∀ z, WA kX2_sortIn d Q 53 [some (.ref t), some (.long h), none, some (.int (nI m)), some (.int (nI w)), z] [] (bL μ (t + 4) (shfA (μ.2 (t + 4)) m w)) := by
    intro w hw hp z
    refine wa_aload_n dX2_sortIn_53 rfl ?_
    refine wa_getR dX2_sortIn_54 fgX2_22 (by first | assumption | rfl) (by rfl) ?_
    refine wa_iload dX2_sortIn_57 rfl ?_
    refine wa_lload_n dX2_sortIn_59 rfl ?_
    refine wa_last _ dX2_sortIn_60 (by first | assumption | rfl) (by first | with_reducible rfl | with_reducible assumption | with_reducible exact ix_ma _ _ _ | with_reducible exact ix_maa _ _ _ _ | with_reducible exact ix_a _ _ | with_reducible exact ix_mama _ _ _ _ _) (by omega) ?_
    refine wa_vret dX2_sortIn_61 rfl ?_
    rw [sLb, insA_of hp hw]; exact hQ
  have loop : ∀ w, w ≤ m → insP (μ.2 (t + 4)) h m = insP (μ.2 (t + 4)) h w → WA kX2_sortIn d Q 6 [some (.ref t), some (.long h), none, some (.int (nI m)), some (.int (nI w)), some (.int (nI w))] [] (bL μ (t + 4) (shfA (μ.2 (t + 4)) m w)) := by
    intro w
    induction w with
    | zero =>
      intro hw hp
      refine wa_iload dX2_sortIn_6 rfl ?_
      refine wa_if_leT 53 dX2_sortIn_8 (by decide) (by decide) ?_
      exact fin 0 hw hp _
    | succ w ih =>
      intro hw hp
      have es : shfA (μ.2 (t + 4)) m (w + 1) w = μ.2 (t + 4) w := by
        simp only [shfA]
        rw [if_neg (by omega)]
      refine wa_iload dX2_sortIn_6 rfl ?_
      refine wa_if_leF 53 dX2_sortIn_8 (by decide) (by rw [nI_toInt (by omega)]; omega) ?_
      refine wa_aload_n dX2_sortIn_11 rfl ?_
      refine wa_getR dX2_sortIn_12 fgX2_22 (by first | assumption | rfl) (by rfl) ?_
      refine wa_iload dX2_sortIn_15 rfl ?_
      refine wa_iconst (nI 1) dX2_sortIn_17 (by decide) ?_
      refine wa_isub dX2_sortIn_18 ?_
      refine wa_lald _ dX2_sortIn_19 (by first | assumption | rfl) (by exact pk_sub (a := w + 1) (b := 1) (by omega)) (by omega) ?_
      refine wa_lload_n dX2_sortIn_20 rfl ?_
      refine wa_lc_ge 53 dX2_sortIn_21 dX2_sortIn_22 (by decide) (fun c21_1 => ?_) (fun c21_1 => ?_)
      · try simp (disch := omega) only [nI_toInt, rb2e, Nat.add_sub_cancel, es] at c21_1
        rw [insP, if_neg (by omega)] at hp; exact fin (w + 1) hw hp _
      · try simp (disch := omega) only [nI_toInt, rb2e, Nat.add_sub_cancel, es] at c21_1
        refine wa_aload_n dX2_sortIn_25 rfl ?_
        refine wa_getR dX2_sortIn_26 fgX2_22 (by first | assumption | rfl) (by rfl) ?_
        refine wa_iload dX2_sortIn_29 rfl ?_
        refine wa_aload_n dX2_sortIn_31 rfl ?_
        refine wa_getR dX2_sortIn_32 fgX2_22 (by first | assumption | rfl) (by rfl) ?_
        refine wa_iload dX2_sortIn_35 rfl ?_
        refine wa_iconst (nI 1) dX2_sortIn_37 (by decide) ?_
        refine wa_isub dX2_sortIn_38 ?_
        refine wa_lald _ dX2_sortIn_39 (by first | assumption | rfl) (by exact pk_sub (a := w + 1) (b := 1) (by omega)) (by omega) ?_
        refine wa_last _ dX2_sortIn_40 (by first | assumption | rfl) (by first | with_reducible rfl | with_reducible assumption | with_reducible exact ix_ma _ _ _ | with_reducible exact ix_maa _ _ _ _ | with_reducible exact ix_a _ _ | with_reducible exact ix_mama _ _ _ _ _) (by omega) ?_
        refine wa_iload dX2_sortIn_41 rfl ?_
        refine wa_iconst (nI 1) dX2_sortIn_43 (by decide) ?_
        refine wa_isub dX2_sortIn_44 ?_
        refine wa_istore dX2_sortIn_45 (by decide) ?_
        refine wa_iinc (-1) dX2_sortIn_47 rfl (by decide) (by decide) ?_
        refine wa_goto 6 dX2_sortIn_50 (by decide) ?_
        rw [insP, if_pos (by omega)] at hp
        have e := ih (by omega) hp
        have z1 : nI (w + 1) - nI 1 = nI w := pk_sub (a := w + 1) (b := 1) (by omega)
        have z2 : nI (w + 1) + (-1) = nI w := pk_m1 w
        rw [sLb, z1, z2, rb2e, show w + 1 - 1 = w by omega, es, shfA_s (by omega)]
        exact e
  refine wa_iload_n dX2_sortIn_0 rfl ?_
  refine wa_istore dX2_sortIn_1 (by decide) ?_
  refine wa_iload_n dX2_sortIn_3 rfl ?_
  refine wa_istore dX2_sortIn_4 (by decide) ?_
  have e0 := loop m (Nat.le_refl m) rfl
  rw [shfA_0, bL_self] at e0
  exact e0
