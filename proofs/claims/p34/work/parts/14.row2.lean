/-! ROWS of the class: TONES, and what is done with numbers -/
def tmF (g : Int32) : Nat → Int32
  | 0 => nI 0
  | b + 1 => (tmF g b <<< (nI 1 &&& 31)) ||| ((g >>> (nI b &&& 31)) &&& nI 1)
def grI (k : Nat) : Int32 := nI k ^^^ (nI k >>> (nI 1 &&& 31))
theorem shl1 : ∀ b, b < 7 → (nI 1 <<< (nI b &&& 31)).toInt = ((2 ^ b : Nat) : Int) := by decide
theorem wp_X2_toneMask {d t p k : Nat} {μ : Mem} {Q : QM} (ht : isR t) (hn : μ.1 t 0 = nI (2 ^ p)) (hp : p ≤ 6) (hQ : Q (some (.int (tmF (grI k) p))) μ) : MW kX2_toneMask d [.ref t, .int (nI k)] μ Q := by
  obtain ⟨hr0t, hr1t, hr2t, hr3t, hr4t⟩ := isR_sh ht
  have hmt := isR_mod ht
  refine MW_of (by decide) [some (.ref t), some (.int (nI k)), none, none, none] rfl (Nat.le_of_ble_eq_true rfl) ?_
  have hpp : ∀ b, b ≤ 6 → 2 ^ b < 2 ^ 31 := by decide
  have hz := hpp p hp
  have loop : ∀ m b, b + m = p → WA kX2_toneMask d Q 11 [some (.ref t), some (.int (nI k)), some (.int (grI k)), some (.int (tmF (grI k) b)), some (.int (nI b))] [] μ := by
    intro m
    induction m with
    | zero =>
      intro b hb
      obtain rfl : b = p := by omega
      by_cases h6 : b = 6
      · refine wa_iload dX2_toneMask_11 rfl ?_
        refine wa_bipush (nI 6) dX2_toneMask_13 (by decide) ?_
        refine wa_ic_geT 46 dX2_toneMask_15 (by decide) (le_nI (by omega) (by omega)) ?_
        refine wa_iload_n dX2_toneMask_46 rfl ?_
        refine wa_iret dX2_toneMask_47 rfl ?_
        exact hQ
      · refine wa_iload dX2_toneMask_11 rfl ?_
        refine wa_bipush (nI 6) dX2_toneMask_13 (by decide) ?_
        refine wa_ic_geF 46 dX2_toneMask_15 (by decide) (nle_nI (by omega) (by omega)) ?_
        refine wa_iconst (nI 1) dX2_toneMask_18 (by decide) ?_
        refine wa_iload dX2_toneMask_19 rfl ?_
        refine wa_ishl dX2_toneMask_21 ?_
        refine wa_aload_n dX2_toneMask_22 rfl ?_
        refine wa_getI dX2_toneMask_23 fgX2_25 (by first | assumption | rfl) (by rfl) ?_
        refine wa_ic_geT 46 dX2_toneMask_26 (by decide) (by rw [hn, shl1 b (by omega), nI_toInt hz]; omega) ?_
        refine wa_iload_n dX2_toneMask_46 rfl ?_
        refine wa_iret dX2_toneMask_47 rfl ?_
        exact hQ
    | succ m ih =>
      intro b hb
      have e := ih (b + 1) (by omega)
      have hlt : 2 ^ b < 2 ^ p := Nat.pow_lt_pow_right (by omega) (by omega)
      refine wa_iload dX2_toneMask_11 rfl ?_
      refine wa_bipush (nI 6) dX2_toneMask_13 (by decide) ?_
      refine wa_ic_geF 46 dX2_toneMask_15 (by decide) (nle_nI (by omega) (by omega)) ?_
      refine wa_iconst (nI 1) dX2_toneMask_18 (by decide) ?_
      refine wa_iload dX2_toneMask_19 rfl ?_
      refine wa_ishl dX2_toneMask_21 ?_
      refine wa_aload_n dX2_toneMask_22 rfl ?_
      refine wa_getI dX2_toneMask_23 fgX2_25 (by first | assumption | rfl) (by rfl) ?_
      refine wa_ic_geF 46 dX2_toneMask_26 (by decide) (by rw [hn, shl1 b (by omega), nI_toInt hz]; omega) ?_
      refine wa_iload_n dX2_toneMask_29 rfl ?_
      refine wa_iconst (nI 1) dX2_toneMask_30 (by decide) ?_
      refine wa_ishl dX2_toneMask_31 ?_
      refine wa_iload_n dX2_toneMask_32 rfl ?_
      refine wa_iload dX2_toneMask_33 rfl ?_
      refine wa_ishr dX2_toneMask_35 ?_
      refine wa_iconst (nI 1) dX2_toneMask_36 (by decide) ?_
      refine wa_iand dX2_toneMask_37 ?_
      refine wa_ior dX2_toneMask_38 ?_
      refine wa_istore_n dX2_toneMask_39 (by decide) ?_
      refine wa_iinc (nI 1) dX2_toneMask_40 rfl (by decide) (by decide) ?_
      refine wa_goto 11 dX2_toneMask_43 (by decide) ?_
      rw [tmF] at e; simp only [nI_add]; exact e
  refine wa_iload_n dX2_toneMask_0 rfl ?_
  refine wa_iload_n dX2_toneMask_1 rfl ?_
  refine wa_iconst (nI 1) dX2_toneMask_2 (by decide) ?_
  refine wa_ishr dX2_toneMask_3 ?_
  refine wa_ixor dX2_toneMask_4 ?_
  refine wa_istore_n dX2_toneMask_5 (by decide) ?_
  refine wa_iconst (nI 0) dX2_toneMask_6 (by decide) ?_
  refine wa_istore_n dX2_toneMask_7 (by decide) ?_
  refine wa_iconst (nI 0) dX2_toneMask_8 (by decide) ?_
  refine wa_istore dX2_toneMask_9 (by decide) ?_
  exact loop p 0 (by omega)
def oddB (i : Nat) (mask : Int32) : Bool := decide ((bcI (nI i &&& mask) &&& nI 1).toInt = 1)
def tonS (v : Nat → Int64) (mask : Int32) : Nat → Int64
  | 0 => 0
  | i + 1 => tonS v mask i + (if oddB i mask = true then -(v i) else v i)
def gTon (v : Nat → Int64) (n p k : Nat) : Int64 := tonS v (tmF (grI k) p) n
theorem wp_X2_makeTones {d t n p : Nat} {μ : Mem} {Q : QM} (ht : isR t) (hd : 1 ≤ d) (hn : μ.1 t 0 = nI n) (hnp : n = 2 ^ p) (hp : p ≤ 6) (hn64 : n ≤ 64) (hQ : Q none (bL μ (t + 2) (frF (gTon (μ.2 (t + 1)) n p) (μ.2 (t + 2)) n))) : MW kX2_makeTones d [.ref t] μ Q := by
  obtain ⟨hr0t, hr1t, hr2t, hr3t, hr4t⟩ := isR_sh ht
  have hmt := isR_mod ht
  refine MW_of (by decide) [some (.ref t), none, none, none, none, none, none] rfl (Nat.le_of_ble_eq_true rfl) ?_
  have hn' : ∀ F, (bL μ (t + 2) F).1 t 0 = nI (2 ^ p) := fun F => by rw [rb2l, hn, hnp]
  have inner : ∀ k, k < n → WA kX2_makeTones d Q 2 [some (.ref t), some (.int (nI (k + 1))), none, none, none, none, none] [] (bL μ (t + 2) (frF (gTon (μ.2 (t + 1)) n p) (μ.2 (t + 2)) (k + 1))) → ∀ m i, i + m = n → WA kX2_makeTones d Q 21 [some (.ref t), some (.int (nI k)), some (.int (tmF (grI k) p)), some (.long (tonS (μ.2 (t + 1)) (tmF (grI k) p) i)), none, some (.int (nI i)), none] [] (bL μ (t + 2) (frF (gTon (μ.2 (t + 1)) n p) (μ.2 (t + 2)) k)) := by
    intro k hk K m
    induction m with
    | zero =>
      intro i hi
      obtain rfl : i = n := by omega
      refine wa_iload dX2_makeTones_21 rfl ?_
      refine wa_aload_n dX2_makeTones_23 rfl ?_
      refine wa_getI dX2_makeTones_24 fgX2_25 (by first | assumption | rfl) (by rfl) ?_
      refine wa_ic_geT 82 dX2_makeTones_27 (by decide) (by rw [rb2l, hn]; exact le_nI (by omega) (by omega)) ?_
      refine wa_aload_n dX2_makeTones_82 rfl ?_
      refine wa_getR dX2_makeTones_83 fgX2_15 (by first | assumption | rfl) (by rfl) ?_
      refine wa_iload_n dX2_makeTones_86 rfl ?_
      refine wa_lload_n dX2_makeTones_87 rfl ?_
      refine wa_last _ dX2_makeTones_88 (by first | assumption | rfl) (by first | with_reducible rfl | with_reducible assumption | with_reducible exact ix_ma _ _ _ | with_reducible exact ix_maa _ _ _ _ | with_reducible exact ix_a _ _ | with_reducible exact ix_mama _ _ _ _ _) (by omega) ?_
      refine wa_iinc (nI 1) dX2_makeTones_89 rfl (by decide) (by decide) ?_
      refine wa_goto 2 dX2_makeTones_92 (by decide) ?_
      have a1 := frF_s (gTon (μ.2 (t + 1)) i p) (μ.2 (t + 2)) k
      rw [sLb]
      unfold gTon at a1
      unfold gTon
      rw [a1]
      simp only [nI_add]
      refine WA.frg [true, true, false, false, false, false, false] ?_
      exact K
    | succ m ih =>
      intro i hi
      have e := ih (i + 1) (by omega)
      refine wa_iload dX2_makeTones_21 rfl ?_
      refine wa_aload_n dX2_makeTones_23 rfl ?_
      refine wa_getI dX2_makeTones_24 fgX2_25 (by first | assumption | rfl) (by rfl) ?_
      refine wa_ic_geF 82 dX2_makeTones_27 (by decide) (by rw [rb2l, hn]; exact nle_nI (by omega) (by omega)) ?_
      refine wa_iload dX2_makeTones_30 rfl ?_
      refine wa_iload_n dX2_makeTones_32 rfl ?_
      refine wa_iand dX2_makeTones_33 ?_
      refine wa_callS1 (k' := kJ6_bitCount_0f7a4) (d' := _) dX2_makeTones_34 lmX2_72 ksJ6_bitCount_0f7a4 (by decide) (by omega) (Nat.le_of_ble_eq_true rfl) ?_
      refine wp_bitCount ?_
      refine wa_iconst (nI 1) dX2_makeTones_37 (by decide) ?_
      refine wa_iand dX2_makeTones_38 ?_
      refine wa_iconst (nI 1) dX2_makeTones_39 (by decide) ?_
      refine wa_ic_ne 47 dX2_makeTones_40 (by decide) (fun c40_2 => ?_) (fun c40_2 => ?_)
      · try simp (disch := omega) only [nI_toInt] at c40_2
        refine wa_iconst (nI 0) dX2_makeTones_47 (by decide) ?_
        refine wa_istore dX2_makeTones_48 (by decide) ?_
        refine wa_lload_n dX2_makeTones_50 rfl ?_
        refine wa_iload dX2_makeTones_51 rfl ?_
        refine wa_if_eqT 67 dX2_makeTones_53 (by decide) (by decide) ?_
        refine wa_aload_n dX2_makeTones_67 rfl ?_
        refine wa_getR dX2_makeTones_68 fgX2_9 (by first | assumption | rfl) (by rfl) ?_
        refine wa_iload dX2_makeTones_71 rfl ?_
        refine wa_lald _ dX2_makeTones_73 (by first | assumption | rfl) (by first | with_reducible rfl | with_reducible assumption | with_reducible exact ix_ma _ _ _ | with_reducible exact ix_maa _ _ _ _ | with_reducible exact ix_a _ _ | with_reducible exact ix_mama _ _ _ _ _) (by omega) ?_
        refine wa_ladd dX2_makeTones_74 ?_
        refine wa_lstore_n dX2_makeTones_75 (by decide) ?_
        refine wa_iinc (nI 1) dX2_makeTones_76 rfl (by decide) (by decide) ?_
        refine wa_goto 21 dX2_makeTones_79 (by decide) ?_
        have ho : ¬ oddB i (tmF (grI k) p) = true := fun q => by
          have := of_decide_eq_true q
          omega
        rw [tonS, if_neg ho] at e
        rw [bL_off (by omega)]
        simp only [nI_add]
        refine WA.frg [true, true, true, true, false, true, false] ?_
        exact e
      · try simp (disch := omega) only [nI_toInt] at c40_2
        refine wa_iconst (nI 1) dX2_makeTones_43 (by decide) ?_
        refine wa_goto 48 dX2_makeTones_44 (by decide) ?_
        refine wa_istore dX2_makeTones_48 (by decide) ?_
        refine wa_lload_n dX2_makeTones_50 rfl ?_
        refine wa_iload dX2_makeTones_51 rfl ?_
        refine wa_if_eqF 67 dX2_makeTones_53 (by decide) (by decide) ?_
        refine wa_aload_n dX2_makeTones_56 rfl ?_
        refine wa_getR dX2_makeTones_57 fgX2_9 (by first | assumption | rfl) (by rfl) ?_
        refine wa_iload dX2_makeTones_60 rfl ?_
        refine wa_lald _ dX2_makeTones_62 (by first | assumption | rfl) (by first | with_reducible rfl | with_reducible assumption | with_reducible exact ix_ma _ _ _ | with_reducible exact ix_maa _ _ _ _ | with_reducible exact ix_a _ _ | with_reducible exact ix_mama _ _ _ _ _) (by omega) ?_
        refine wa_lneg dX2_makeTones_63 ?_
        refine wa_goto 74 dX2_makeTones_64 (by decide) ?_
        refine wa_ladd dX2_makeTones_74 ?_
        refine wa_lstore_n dX2_makeTones_75 (by decide) ?_
        refine wa_iinc (nI 1) dX2_makeTones_76 rfl (by decide) (by decide) ?_
        refine wa_goto 21 dX2_makeTones_79 (by decide) ?_
        have ho : oddB i (tmF (grI k) p) = true := decide_eq_true (by omega)
        rw [tonS, if_pos ho] at e
        rw [bL_off (by omega)]
        simp only [nI_add]
        refine WA.frg [true, true, true, true, false, true, false] ?_
        exact e
  have outer : ∀ m k, k + m = n → WA kX2_makeTones d Q 2 [some (.ref t), some (.int (nI k)), none, none, none, none, none] [] (bL μ (t + 2) (frF (gTon (μ.2 (t + 1)) n p) (μ.2 (t + 2)) k)) := by
    intro m
    induction m with
    | zero =>
      intro k hk
      obtain rfl : k = n := by omega
      refine wa_iload_n dX2_makeTones_2 rfl ?_
      refine wa_aload_n dX2_makeTones_3 rfl ?_
      refine wa_getI dX2_makeTones_4 fgX2_25 (by first | assumption | rfl) (by rfl) ?_
      refine wa_ic_geT 95 dX2_makeTones_7 (by decide) (by rw [rb2l, hn]; exact le_nI (by omega) (by omega)) ?_
      refine wa_vret dX2_makeTones_95 rfl ?_
      exact hQ
    | succ m ih =>
      intro k hk
      have e := inner k (by omega) (ih (k + 1) (by omega)) n 0 (by omega)
      refine wa_iload_n dX2_makeTones_2 rfl ?_
      refine wa_aload_n dX2_makeTones_3 rfl ?_
      refine wa_getI dX2_makeTones_4 fgX2_25 (by first | assumption | rfl) (by rfl) ?_
      refine wa_ic_geF 95 dX2_makeTones_7 (by decide) (by rw [rb2l, hn]; exact nle_nI (by omega) (by omega)) ?_
      refine wa_aload_n dX2_makeTones_10 rfl ?_
      refine wa_iload_n dX2_makeTones_11 rfl ?_
      refine wa_callV1 (k' := kX2_toneMask) (d' := 0) dX2_makeTones_12 lmX2_69 kvX2_toneMask (by first | assumption | rfl) (by rfl) (by decide) (by omega) (Nat.le_of_ble_eq_true rfl) ?_
      refine wp_X2_toneMask (p := p) (by assumption) (hn' _) (by assumption) ?_
      refine wa_istore_n dX2_makeTones_15 (by decide) ?_
      refine wa_lconst (0) dX2_makeTones_16 (by decide) ?_
      refine wa_lstore_n dX2_makeTones_17 (by decide) ?_
      refine wa_iconst (nI 0) dX2_makeTones_18 (by decide) ?_
      refine wa_istore dX2_makeTones_19 (by decide) ?_
      exact e
  refine wa_iconst (nI 0) dX2_makeTones_0 (by decide) ?_
  refine wa_istore_n dX2_makeTones_1 (by decide) ?_
  have e0 := outer n 0 (by omega)
  rw [frF_0, bL_self] at e0
  exact e0
def P2 (n : Nat) : Prop := ∃ p, p ≤ 6 ∧ n = 2 ^ p
theorem P2_pos : ∀ p, p ≤ 6 → 0 < (nI (2 ^ p)).toInt ∧ (nI (2 ^ p) &&& (nI (2 ^ p) - nI 1)).toInt = 0 := by decide
theorem P2_neg : ∀ n, n ≤ 64 → 0 < n → (nI n &&& (nI n - nI 1)).toInt = 0 → n = 1 ∨ n = 2 ∨ n = 4 ∨ n = 8 ∨ n = 16 ∨ n = 32 ∨ n = 64 := by decide +kernel
theorem P2_of {n : Nat} (h : n ≤ 64) (h0 : 0 < n) (h1 : (nI n &&& (nI n - nI 1)).toInt = 0) : P2 n := by
  rcases P2_neg n h h0 h1 with h | h | h | h | h | h | h
  · exact ⟨0, by omega, h⟩
  · exact ⟨1, by omega, h⟩
  · exact ⟨2, by omega, h⟩
  · exact ⟨3, by omega, h⟩
  · exact ⟨4, by omega, h⟩
  · exact ⟨5, by omega, h⟩
  · exact ⟨6, by omega, h⟩
theorem wp_X2_isPowerOfTwo {d t n : Nat} {μ : Mem} {Q : QM} (ht : isR t) (hn : μ.1 t 0 = nI n) (hn64 : n ≤ 64) (h1 : P2 n → Q (some (.int (nI 1))) μ) (h0 : ¬ P2 n → Q (some (.int (nI 0))) μ) : MW kX2_isPowerOfTwo d [.ref t] μ Q := by
  obtain ⟨hr0t, hr1t, hr2t, hr3t, hr4t⟩ := isR_sh ht
  have hmt := isR_mod ht
  refine MW_of (by decide) [some (.ref t)] rfl (Nat.le_of_ble_eq_true rfl) ?_
  refine wa_aload_n dX2_isPowerOfTwo_0 rfl ?_
  refine wa_getI dX2_isPowerOfTwo_1 fgX2_25 (by first | assumption | rfl) (by rfl) ?_
  refine wa_if_le 25 dX2_isPowerOfTwo_4 (by decide) (fun c4_1 => ?_) (fun c4_1 => ?_)
  · try simp (disch := omega) only [nI_toInt, hn] at c4_1
    refine wa_iconst (nI 0) dX2_isPowerOfTwo_25 (by decide) ?_
    refine wa_zret dX2_isPowerOfTwo_26 rfl (by decide) ?_
    refine h0 (fun q => ?_)
    obtain ⟨p, hp, rfl⟩ := q
    have := P2_pos p hp
    have := Nat.two_pow_pos p
    omega
  · try simp (disch := omega) only [nI_toInt, hn] at c4_1
    refine wa_aload_n dX2_isPowerOfTwo_7 rfl ?_
    refine wa_getI dX2_isPowerOfTwo_8 fgX2_25 (by first | assumption | rfl) (by rfl) ?_
    refine wa_aload_n dX2_isPowerOfTwo_11 rfl ?_
    refine wa_getI dX2_isPowerOfTwo_12 fgX2_25 (by first | assumption | rfl) (by rfl) ?_
    refine wa_iconst (nI 1) dX2_isPowerOfTwo_15 (by decide) ?_
    refine wa_isub dX2_isPowerOfTwo_16 ?_
    refine wa_iand dX2_isPowerOfTwo_17 ?_
    refine wa_if_ne 25 dX2_isPowerOfTwo_18 (by decide) (fun c18_2 => ?_) (fun c18_2 => ?_)
    · try simp (disch := omega) only [nI_toInt, hn] at c18_2
      refine wa_iconst (nI 0) dX2_isPowerOfTwo_25 (by decide) ?_
      refine wa_zret dX2_isPowerOfTwo_26 rfl (by decide) ?_
      refine h0 (fun q => ?_)
      obtain ⟨p, hp, rfl⟩ := q
      have := P2_pos p hp
      omega
    · try simp (disch := omega) only [nI_toInt, hn] at c18_2
      refine wa_iconst (nI 1) dX2_isPowerOfTwo_21 (by decide) ?_
      refine wa_goto 26 dX2_isPowerOfTwo_22 (by decide) ?_
      refine wa_zret dX2_isPowerOfTwo_26 rfl (by decide) ?_
      exact h1 (P2_of hn64 (by omega) (by omega))
/-- all within B -/
def inB (f : Nat → Int64) (n : Nat) (B : Int) : Prop := ∀ i, i < n → -B ≤ (f i).toInt ∧ (f i).toInt ≤ B
theorem k4e15 : (4000000000000000 : Int64).toInt = 4000000000000000 ∧ (-4000000000000000 : Int64).toInt = -4000000000000000 := by decide
theorem wp_X2_becomeFresh {d t n : Nat} {μ : Mem} {Q : QM} (ht : isR t) (hd : 1 ≤ d) (hn : μ.1 t 0 = nI n) (hn64 : n ≤ 64) (h0 : ¬ inB (μ.2 (t + 2)) n 4000000000000000 → Q (some (.int (-16))) μ) (h1 : inB (μ.2 (t + 2)) n 4000000000000000 → Q (some (.int (nI n))) (bL μ (t + 1) (va_cpy (μ.2 (t + 2)) (μ.2 (t + 1)) 0 0 n))) : MW kX2_becomeFresh d [.ref t] μ Q := by
  obtain ⟨hr0t, hr1t, hr2t, hr3t, hr4t⟩ := isR_sh ht
  have hmt := isR_mod ht
  refine MW_of (by decide) [some (.ref t), none] rfl (Nat.le_of_ble_eq_true rfl) ?_
  have hB : ∀ x : Int64, (-(4000000000000000 : Int64)).toInt ≤ x.toInt ∧ x.toInt ≤ (4000000000000000 : Int64).toInt ↔ (-4000000000000000 : Int) ≤ x.toInt ∧ x.toInt ≤ 4000000000000000 := by
    intro x
    have a := k4e15.1
    have b := k4e15.2
    rw [a, b]
  have loop : ∀ m i, i + m = n → inB (μ.2 (t + 2)) i 4000000000000000 → WA kX2_becomeFresh d Q 2 [some (.ref t), some (.int (nI i))] [] μ := by
    intro m
    induction m with
    | zero =>
      intro i hi hb
      obtain rfl : i = n := by omega
      refine wa_iload_n dX2_becomeFresh_2 rfl ?_
      refine wa_aload_n dX2_becomeFresh_3 rfl ?_
      refine wa_getI dX2_becomeFresh_4 fgX2_25 (by first | assumption | rfl) (by rfl) ?_
      refine wa_ic_geT 34 dX2_becomeFresh_7 (by decide) (by rw [hn]; exact le_nI (by omega) (by omega)) ?_
      refine wa_aload_n dX2_becomeFresh_34 rfl ?_
      refine wa_getR dX2_becomeFresh_35 fgX2_15 (by first | assumption | rfl) (by rfl) ?_
      refine wa_iconst (nI 0) dX2_becomeFresh_38 (by decide) ?_
      refine wa_aload_n dX2_becomeFresh_39 rfl ?_
      refine wa_getR dX2_becomeFresh_40 fgX2_9 (by first | assumption | rfl) (by rfl) ?_
      refine wa_iconst (nI 0) dX2_becomeFresh_43 (by decide) ?_
      refine wa_aload_n dX2_becomeFresh_44 rfl ?_
      refine wa_getI dX2_becomeFresh_45 fgX2_25 (by first | assumption | rfl) (by rfl) ?_
      rw [hn]
      refine wa_copyL 0 0 i dX2_becomeFresh_48 laX2_83 (by first | assumption | rfl) (by first | assumption | rfl) (by first | with_reducible rfl | with_reducible assumption | with_reducible exact ix_ma _ _ _ | with_reducible exact ix_maa _ _ _ _ | with_reducible exact ix_a _ _ | with_reducible exact ix_mama _ _ _ _ _) (by first | with_reducible rfl | with_reducible assumption | with_reducible exact ix_ma _ _ _ | with_reducible exact ix_maa _ _ _ _ | with_reducible exact ix_a _ _ | with_reducible exact ix_mama _ _ _ _ _) (by first | with_reducible rfl | with_reducible assumption | with_reducible exact ix_ma _ _ _ | with_reducible exact ix_maa _ _ _ _ | with_reducible exact ix_a _ _ | with_reducible exact ix_mama _ _ _ _ _) (by omega) (by omega) (by omega) ?_
      refine wa_aload_n dX2_becomeFresh_51 rfl ?_
      refine wa_getI dX2_becomeFresh_52 fgX2_25 (by first | assumption | rfl) (by rfl) ?_
      refine wa_iret dX2_becomeFresh_55 rfl ?_
      rw [rb2l, hn]; exact h1 hb
    | succ m ih =>
      intro i hi hb
      refine wa_iload_n dX2_becomeFresh_2 rfl ?_
      refine wa_aload_n dX2_becomeFresh_3 rfl ?_
      refine wa_getI dX2_becomeFresh_4 fgX2_25 (by first | assumption | rfl) (by rfl) ?_
      refine wa_ic_geF 34 dX2_becomeFresh_7 (by decide) (by rw [hn]; exact nle_nI (by omega) (by omega)) ?_
      refine wa_aload_n dX2_becomeFresh_10 rfl ?_
      refine wa_getR dX2_becomeFresh_11 fgX2_15 (by first | assumption | rfl) (by rfl) ?_
      refine wa_iload_n dX2_becomeFresh_14 rfl ?_
      refine wa_lald _ dX2_becomeFresh_15 (by first | assumption | rfl) (by first | with_reducible rfl | with_reducible assumption | with_reducible exact ix_ma _ _ _ | with_reducible exact ix_maa _ _ _ _ | with_reducible exact ix_a _ _ | with_reducible exact ix_mama _ _ _ _ _) (by omega) ?_
      refine wa_ldc2 (4000000000000000) dX2_becomeFresh_16 lcX2_77 ?_
      refine wa_callN2 (k' := kX5_isWithin) (d' := 0) rfl dX2_becomeFresh_19 rfl ksX5_isWithin (by decide) (by omega) (Nat.le_of_ble_eq_true rfl) ?_
      refine wp_X5_isWithin (fun hw => ?_) (fun hw => ?_)
      · skip
        refine wa_if_neT 28 dX2_becomeFresh_22 (by decide) (by decide) ?_
        refine wa_iinc (nI 1) dX2_becomeFresh_28 rfl (by decide) (by decide) ?_
        refine wa_goto 2 dX2_becomeFresh_31 (by decide) ?_
        rw [hB] at hw
        simp only [nI_add]
        refine ih (i + 1) (by omega) (fun j hj => ?_)
        by_cases hji : j = i
        · rw [hji]; exact hw
        · exact hb j (by omega)
      · skip
        refine wa_if_neF 28 dX2_becomeFresh_22 (by decide) (by decide) ?_
        refine wa_bipush (-16) dX2_becomeFresh_25 (by decide) ?_
        refine wa_iret dX2_becomeFresh_27 rfl ?_
        rw [hB] at hw; exact h0 (fun q => hw (q i (by omega)))
  refine wa_iconst (nI 0) dX2_becomeFresh_0 (by decide) ?_
  refine wa_istore_n dX2_becomeFresh_1 (by decide) ?_
  exact loop n 0 (by omega) (fun j hj => by omega)
