/-! THE MODEL: turn() -/
theorem fz_q {x y : Int64} {μ : Mem} {Q : QM} (hQ : Q (some (.long x)) μ) (h : y = x) : Q (some (.long y)) μ := by
  rw [h]
  exact hQ
theorem z_c {i n : Nat} (hi : i ≤ 64) (hn : n ≤ 64) : (nI 2 * nI i - nI n + nI 1).toInt64 = Int64.ofInt (2 * (i : Int) - n + 1) := by
  simp only [z_n, ← Int32.ofInt_mul, ← Int32.ofInt_sub, ← Int32.ofInt_add]
  rw [z_32 (by omega) (by omega)]
  congr 1
theorem z_sub {a b : Nat} (h : b ≤ a) : ((a - b : Nat) : Int) = (a : Int) - b := by omega
theorem z_0 : (0 : Int64) = Int64.ofInt 0 := rfl
theorem wp_X6_factor3 {d n i k : Nat} {μ : Mem} {Q : QM} (hn : n ≤ 64) (hi : i < n) (hk : k < n) (hp2 : P2 n) (hQ : Q (some (.long (Int64.ofInt (fcZ 3 n i k)))) μ) : MW kX6_factor d [.int (nI 3), .int (nI n), .int (nI i), .int (nI k)] μ Q := by
  refine MW_of (by decide) [some (.int (nI 3)), some (.int (nI n)), some (.int (nI i)), some (.int (nI k)), none, none, none, none] rfl (Nat.le_of_ble_eq_true rfl) ?_
  obtain ⟨p, hp, hnp⟩ := hp2
  have hl : Nat.log2 n = p := by rw [hnp]; exact Nat.log2_two_pow
  simp only [fcZ, hl] at hQ
  obtain ⟨m1, m2, m3⟩ := mt_eq p (by omega) i (by omega)
  have loop2 : ∀ m c o, c < 2 ^ m → c < 64 → Q (some (.long (if (orX m c o).toInt = 1 then -1 else 1))) μ → ∀ z1, WA kX6_factor d Q 171 [some (.int (nI 3)), some (.int (nI n)), some (.int (nI i)), some (.int (nI k)), z1, none, some (.int (nI c)), some (.int o)] [] μ := by
    intro m
    induction m with
    | zero =>
      intro c o hc h64 hq_ z1
      obtain rfl : c = 0 := by omega
      rw [orX] at hq_
      refine wa_iload dX6_factor_171 rfl ?_
      refine wa_if_leT 194 dX6_factor_173 (by decide) (by decide) ?_
      refine wa_iload dX6_factor_194 rfl ?_
      refine wa_iconst (nI 1) dX6_factor_196 (by decide) ?_
      refine wa_ic_ne 206 dX6_factor_197 (by decide) (fun c197_1 => ?_) (fun c197_1 => ?_)
      · try simp (disch := omega) only [nI_toInt, Int32.toInt_toInt64] at c197_1
        refine wa_lconst (1) dX6_factor_206 (by decide) ?_
        refine wa_lret dX6_factor_207 rfl ?_
        rw [if_neg (by omega)] at hq_; exact hq_
      · try simp (disch := omega) only [nI_toInt, Int32.toInt_toInt64] at c197_1
        refine wa_ldc2 (-1) dX6_factor_200 lcX6_108 ?_
        refine wa_goto 207 dX6_factor_203 (by decide) ?_
        refine wa_lret dX6_factor_207 rfl ?_
        rw [if_pos (by omega)] at hq_; exact hq_
    | succ m ih =>
      intro c o hc h64 hq_ z1
      rw [orX] at hq_
      by_cases h0 : c = 0
      · subst h0
        rw [if_pos rfl] at hq_
        refine wa_iload dX6_factor_171 rfl ?_
        refine wa_if_leT 194 dX6_factor_173 (by decide) (by decide) ?_
        refine wa_iload dX6_factor_194 rfl ?_
        refine wa_iconst (nI 1) dX6_factor_196 (by decide) ?_
        refine wa_ic_ne 206 dX6_factor_197 (by decide) (fun c197_1 => ?_) (fun c197_1 => ?_)
        · try simp (disch := omega) only [nI_toInt, Int32.toInt_toInt64] at c197_1
          refine wa_lconst (1) dX6_factor_206 (by decide) ?_
          refine wa_lret dX6_factor_207 rfl ?_
          rw [if_neg (by omega)] at hq_; exact hq_
        · try simp (disch := omega) only [nI_toInt, Int32.toInt_toInt64] at c197_1
          refine wa_ldc2 (-1) dX6_factor_200 lcX6_108 ?_
          refine wa_goto 207 dX6_factor_203 (by decide) ?_
          refine wa_lret dX6_factor_207 rfl ?_
          rw [if_pos (by omega)] at hq_; exact hq_
      · rw [if_neg h0] at hq_
        refine wa_iload dX6_factor_171 rfl ?_
        refine wa_if_leF 194 dX6_factor_173 (by decide) (by rw [nI_toInt (by omega)]; omega) ?_
        refine wa_iload dX6_factor_176 rfl ?_
        refine wa_iload dX6_factor_178 rfl ?_
        refine wa_iconst (nI 1) dX6_factor_180 (by decide) ?_
        refine wa_iand dX6_factor_181 ?_
        refine wa_ixor dX6_factor_182 ?_
        refine wa_istore dX6_factor_183 (by decide) ?_
        refine wa_iload dX6_factor_185 rfl ?_
        refine wa_iconst (nI 1) dX6_factor_187 (by decide) ?_
        refine wa_ishr dX6_factor_188 ?_
        refine wa_istore dX6_factor_189 (by decide) ?_
        refine wa_goto 171 dX6_factor_191 (by decide) ?_
        rw [z_half c h64]
        rw [Nat.pow_succ] at hc
        exact ih (c / 2) _ (by omega) (by omega) hq_ z1
  have fin : WA kX6_factor d Q 162 [some (.int (nI 3)), some (.int (nI n)), some (.int (nI i)), some (.int (nI k)), some (.int (tmF (grI i) p)), none, none, none] [] μ := by
    rw [m2]
    generalize ht : (tmF (grI i) p).toInt.toNat = t at m2 m3
    obtain ⟨a1, a2⟩ := z_and t m3 k (by omega)
    have e0 : (orX 7 (t &&& k) (nI 0)).toInt = 1 ↔ oddB k (tmF (grI i) p) = true := by
      rw [or_eq _ a2, ← a1, Int32.and_comm (nI t), ← m2]
      exact decide_eq_true_iff.symm
    refine wa_iload dX6_factor_162 rfl ?_
    refine wa_iload_n dX6_factor_164 rfl ?_
    refine wa_iand dX6_factor_165 ?_
    refine wa_istore dX6_factor_166 (by decide) ?_
    refine wa_iconst (nI 0) dX6_factor_168 (by decide) ?_
    refine wa_istore dX6_factor_169 (by decide) ?_
    rw [a1]
    refine loop2 7 _ _ (by omega) a2 ?_ _
    by_cases ho : oddB k (tmF (grI i) p) = true
    · rw [if_pos (e0.mpr ho)]
      rw [if_pos ho] at hQ
      exact hQ
    · rw [if_neg (fun q => ho (e0.mp q))]
      rw [if_neg ho] at hQ
      exact hQ
  have loop1 : ∀ m b, b + m = p → WA kX6_factor d Q 130 [some (.int (nI 3)), some (.int (nI n)), some (.int (nI i)), some (.int (nI k)), some (.int (mtT i b).1), some (.int (mtT i b).2), some (.int (nI (2 ^ b))), none] [] μ := by
    intro m
    induction m with
    | zero =>
      intro b hb
      obtain rfl : b = p := by omega
      refine wa_iload dX6_factor_130 rfl ?_
      refine wa_iload_n dX6_factor_132 rfl ?_
      refine wa_ic_geT 162 dX6_factor_133 (by decide) (by rw [hnp]; omega) ?_
      rw [m1]
      refine WA.frg [true, true, true, true, true, false, false, false] ?_
      exact fin
    | succ m ih =>
      intro b hb
      have e_ := ih (b + 1) (by omega)
      have hlt : 2 ^ b < 2 ^ p := Nat.pow_lt_pow_right (by omega) (by omega)
      refine wa_iload dX6_factor_130 rfl ?_
      refine wa_iload_n dX6_factor_132 rfl ?_
      refine wa_ic_geF 162 dX6_factor_133 (by decide) (nle_nI (by omega) (by omega)) ?_
      refine wa_iconst (nI 2) dX6_factor_136 (by decide) ?_
      refine wa_iload dX6_factor_137 rfl ?_
      refine wa_imul dX6_factor_139 ?_
      refine wa_iload dX6_factor_140 rfl ?_
      refine wa_iconst (nI 1) dX6_factor_142 (by decide) ?_
      refine wa_iand dX6_factor_143 ?_
      refine wa_iadd dX6_factor_144 ?_
      refine wa_istore dX6_factor_145 (by decide) ?_
      refine wa_iload dX6_factor_147 rfl ?_
      refine wa_iconst (nI 1) dX6_factor_149 (by decide) ?_
      refine wa_ishr dX6_factor_150 ?_
      refine wa_istore dX6_factor_151 (by decide) ?_
      refine wa_iconst (nI 2) dX6_factor_153 (by decide) ?_
      refine wa_iload dX6_factor_154 rfl ?_
      refine wa_imul dX6_factor_156 ?_
      refine wa_istore dX6_factor_157 (by decide) ?_
      refine wa_goto 130 dX6_factor_159 (by decide) ?_
      rw [mtT, ← p2_k b (by omega)] at e_; exact e_
  refine wa_iload_n dX6_factor_0 rfl ?_
  refine wa_if_neT 18 dX6_factor_1 (by decide) (by decide) ?_
  refine wa_iload_n dX6_factor_18 rfl ?_
  refine wa_iconst (nI 1) dX6_factor_19 (by decide) ?_
  refine wa_ic_neT 72 dX6_factor_20 (by decide) (by decide) ?_
  refine wa_iload_n dX6_factor_72 rfl ?_
  refine wa_iconst (nI 2) dX6_factor_73 (by decide) ?_
  refine wa_ic_neT 117 dX6_factor_74 (by decide) (by decide) ?_
  refine wa_iconst (nI 0) dX6_factor_117 (by decide) ?_
  refine wa_istore dX6_factor_118 (by decide) ?_
  refine wa_iload_n dX6_factor_120 rfl ?_
  refine wa_iload_n dX6_factor_121 rfl ?_
  refine wa_iconst (nI 1) dX6_factor_122 (by decide) ?_
  refine wa_ishr dX6_factor_123 ?_
  refine wa_ixor dX6_factor_124 ?_
  refine wa_istore dX6_factor_125 (by decide) ?_
  refine wa_iconst (nI 1) dX6_factor_127 (by decide) ?_
  refine wa_istore dX6_factor_128 (by decide) ?_
  exact loop1 p 0 (by omega)
theorem wp_X6_factor {d n w i k : Nat} {μ : Mem} {Q : QM} (hn : n ≤ 64) (hw : w < 4) (hi : i < n) (hk : k < n) (hp2 : w = 3 → P2 n) (hQ : Q (some (.long (Int64.ofInt (fcZ w n i k)))) μ) : MW kX6_factor d [.int (nI w), .int (nI n), .int (nI i), .int (nI k)] μ Q := by
  have hh : w = 0 ∨ w = 1 ∨ w = 2 ∨ w = 3 := by omega
  rcases hh with rfl | rfl | rfl | rfl
  · skip
    refine MW_of (by decide) [some (.int (nI 0)), some (.int (nI n)), some (.int (nI i)), some (.int (nI k)), none, none, none, none] rfl (Nat.le_of_ble_eq_true rfl) ?_
    simp only [fcZ] at hQ
    refine wa_iload_n dX6_factor_0 rfl ?_
    refine wa_if_neF 18 dX6_factor_1 (by decide) (by decide) ?_
    refine wa_iload_n dX6_factor_4 rfl ?_
    refine wa_iload_n dX6_factor_5 rfl ?_
    refine wa_ic_ne 13 dX6_factor_6 (by decide) (fun c6_1 => ?_) (fun c6_1 => ?_)
    · try simp (disch := omega) only [nI_toInt, Int32.toInt_toInt64] at c6_1
      refine wa_iconst (nI 0) dX6_factor_13 (by decide) ?_
      refine wa_iconst (nI 1) dX6_factor_14 (by decide) ?_
      refine wa_isub dX6_factor_15 ?_
      refine wa_i2l dX6_factor_16 ?_
      refine wa_lret dX6_factor_17 rfl ?_
      rw [if_neg (by omega)] at hQ; exact fz_q hQ (by decide)
    · try simp (disch := omega) only [nI_toInt, Int32.toInt_toInt64] at c6_1
      refine wa_iload_n dX6_factor_9 rfl ?_
      refine wa_goto 14 dX6_factor_10 (by decide) ?_
      refine wa_iconst (nI 1) dX6_factor_14 (by decide) ?_
      refine wa_isub dX6_factor_15 ?_
      refine wa_i2l dX6_factor_16 ?_
      refine wa_lret dX6_factor_17 rfl ?_
      rw [if_pos (by omega)] at hQ; exact fz_q hQ (by rw [pk_sub (by omega), z_nI (by omega), z_sub (by omega)]; rfl)
  · skip
    refine MW_of (by decide) [some (.int (nI 1)), some (.int (nI n)), some (.int (nI i)), some (.int (nI k)), none, none, none, none] rfl (Nat.le_of_ble_eq_true rfl) ?_
    simp only [fcZ] at hQ
    refine wa_iload_n dX6_factor_0 rfl ?_
    refine wa_if_neT 18 dX6_factor_1 (by decide) (by decide) ?_
    refine wa_iload_n dX6_factor_18 rfl ?_
    refine wa_iconst (nI 1) dX6_factor_19 (by decide) ?_
    refine wa_ic_neF 72 dX6_factor_20 (by decide) (by decide) ?_
    refine wa_iload_n dX6_factor_23 rfl ?_
    refine wa_i2l dX6_factor_24 ?_
    refine wa_iload_n dX6_factor_25 rfl ?_
    refine wa_i2l dX6_factor_26 ?_
    refine wa_lmul dX6_factor_27 ?_
    refine wa_lconst (1) dX6_factor_28 (by decide) ?_
    refine wa_lsub dX6_factor_29 ?_
    refine wa_lstore dX6_factor_30 (by decide) ?_
    refine wa_iload_n dX6_factor_32 rfl ?_
    refine wa_iload_n dX6_factor_33 rfl ?_
    refine wa_ic_ne 45 dX6_factor_34 (by decide) (fun c34_1 => ?_) (fun c34_1 => ?_)
    · try simp (disch := omega) only [nI_toInt, Int32.toInt_toInt64] at c34_1
      refine wa_lconst (0) dX6_factor_45 (by decide) ?_
      refine wa_lload dX6_factor_46 rfl ?_
      refine wa_lsub dX6_factor_48 ?_
      refine wa_ldc2 (3) dX6_factor_49 lcX6_106 ?_
      refine wa_iconst (nI 2) dX6_factor_52 (by decide) ?_
      refine wa_iload_n dX6_factor_53 rfl ?_
      refine wa_imul dX6_factor_54 ?_
      refine wa_iload_n dX6_factor_55 rfl ?_
      refine wa_isub dX6_factor_56 ?_
      refine wa_iconst (nI 1) dX6_factor_57 (by decide) ?_
      refine wa_iadd dX6_factor_58 ?_
      refine wa_i2l dX6_factor_59 ?_
      refine wa_lmul dX6_factor_60 ?_
      refine wa_iconst (nI 2) dX6_factor_61 (by decide) ?_
      refine wa_iload_n dX6_factor_62 rfl ?_
      refine wa_imul dX6_factor_63 ?_
      refine wa_iload_n dX6_factor_64 rfl ?_
      refine wa_isub dX6_factor_65 ?_
      refine wa_iconst (nI 1) dX6_factor_66 (by decide) ?_
      refine wa_iadd dX6_factor_67 ?_
      refine wa_i2l dX6_factor_68 ?_
      refine wa_lmul dX6_factor_69 ?_
      refine wa_lsub dX6_factor_70 ?_
      refine wa_lret dX6_factor_71 rfl ?_
      rw [if_neg (by omega)] at hQ; exact fz_q hQ (by rw [z_c (by omega) hn, z_c (by omega) hn, z_nI (by omega), z_0, z_1, z_3]; simp only [← Int64.ofInt_mul, ← Int64.ofInt_sub])
    · try simp (disch := omega) only [nI_toInt, Int32.toInt_toInt64] at c34_1
      refine wa_iload_n dX6_factor_37 rfl ?_
      refine wa_i2l dX6_factor_38 ?_
      refine wa_lload dX6_factor_39 rfl ?_
      refine wa_lmul dX6_factor_41 ?_
      refine wa_goto 46 dX6_factor_42 (by decide) ?_
      refine wa_lload dX6_factor_46 rfl ?_
      refine wa_lsub dX6_factor_48 ?_
      refine wa_ldc2 (3) dX6_factor_49 lcX6_106 ?_
      refine wa_iconst (nI 2) dX6_factor_52 (by decide) ?_
      refine wa_iload_n dX6_factor_53 rfl ?_
      refine wa_imul dX6_factor_54 ?_
      refine wa_iload_n dX6_factor_55 rfl ?_
      refine wa_isub dX6_factor_56 ?_
      refine wa_iconst (nI 1) dX6_factor_57 (by decide) ?_
      refine wa_iadd dX6_factor_58 ?_
      refine wa_i2l dX6_factor_59 ?_
      refine wa_lmul dX6_factor_60 ?_
      refine wa_iconst (nI 2) dX6_factor_61 (by decide) ?_
      refine wa_iload_n dX6_factor_62 rfl ?_
      refine wa_imul dX6_factor_63 ?_
      refine wa_iload_n dX6_factor_64 rfl ?_
      refine wa_isub dX6_factor_65 ?_
      refine wa_iconst (nI 1) dX6_factor_66 (by decide) ?_
      refine wa_iadd dX6_factor_67 ?_
      refine wa_i2l dX6_factor_68 ?_
      refine wa_lmul dX6_factor_69 ?_
      refine wa_lsub dX6_factor_70 ?_
      refine wa_lret dX6_factor_71 rfl ?_
      rw [if_pos (by omega)] at hQ; exact fz_q hQ (by rw [z_c (by omega) hn, z_c (by omega) hn, z_nI (by omega), z_1, z_3]; simp only [← Int64.ofInt_mul, ← Int64.ofInt_sub])
  · skip
    refine MW_of (by decide) [some (.int (nI 2)), some (.int (nI n)), some (.int (nI i)), some (.int (nI k)), none, none, none, none] rfl (Nat.le_of_ble_eq_true rfl) ?_
    simp only [fcZ] at hQ
    have e1 : (nI n - nI 1).toInt64 = Int64.ofInt ((n : Int) - 1) := by rw [pk_sub (by omega), z_nI (by omega), z_sub (by omega)]; rfl
    have e0 : (nI n - nI 1).toInt = (n : Int) - 1 := by rw [pk_sub (by omega), nI_toInt (by omega)]; omega
    have e2 : k < i → (nI i - nI k).toInt64 = Int64.ofInt ((i : Int) - k) := fun q => by rw [pk_sub (by omega), z_nI (by omega), z_sub (by omega)]
    have e3 : (nI n - nI 1 - nI k).toInt64 = Int64.ofInt ((n : Int) - 1 - k) := by rw [pk_sub (by omega), pk_sub (by omega), z_nI (by omega), z_sub (by omega), z_sub (by omega)]; rfl
    have e4 : (nI i).toInt64 = Int64.ofInt (i : Int) := z_nI (by omega)
    refine wa_iload_n dX6_factor_0 rfl ?_
    refine wa_if_neT 18 dX6_factor_1 (by decide) (by decide) ?_
    refine wa_iload_n dX6_factor_18 rfl ?_
    refine wa_iconst (nI 1) dX6_factor_19 (by decide) ?_
    refine wa_ic_neT 72 dX6_factor_20 (by decide) (by decide) ?_
    refine wa_iload_n dX6_factor_72 rfl ?_
    refine wa_iconst (nI 2) dX6_factor_73 (by decide) ?_
    refine wa_ic_neF 117 dX6_factor_74 (by decide) (by decide) ?_
    refine wa_iload_n dX6_factor_77 rfl ?_
    refine wa_iload_n dX6_factor_78 rfl ?_
    refine wa_ic_ge 94 dX6_factor_79 (by decide) (fun c79_1 => ?_) (fun c79_1 => ?_)
    · try simp (disch := omega) only [nI_toInt, Int32.toInt_toInt64, e0] at c79_1
      refine wa_lconst (0) dX6_factor_94 (by decide) ?_
      refine wa_iload_n dX6_factor_95 rfl ?_
      refine wa_iload_n dX6_factor_96 rfl ?_
      refine wa_iconst (nI 1) dX6_factor_97 (by decide) ?_
      refine wa_isub dX6_factor_98 ?_
      refine wa_ic_ge 114 dX6_factor_99 (by decide) (fun c99_2 => ?_) (fun c99_2 => ?_)
      · try simp (disch := omega) only [nI_toInt, Int32.toInt_toInt64, e0] at c99_2
        refine wa_lconst (0) dX6_factor_114 (by decide) ?_
        refine wa_lsub dX6_factor_115 ?_
        refine wa_lret dX6_factor_116 rfl ?_
        rw [if_neg (by omega), if_neg (by omega)] at hQ; exact fz_q hQ (by decide)
      · try simp (disch := omega) only [nI_toInt, Int32.toInt_toInt64, e0] at c99_2
        refine wa_iload_n dX6_factor_102 rfl ?_
        refine wa_i2l dX6_factor_103 ?_
        refine wa_iload_n dX6_factor_104 rfl ?_
        refine wa_iconst (nI 1) dX6_factor_105 (by decide) ?_
        refine wa_isub dX6_factor_106 ?_
        refine wa_iload_n dX6_factor_107 rfl ?_
        refine wa_isub dX6_factor_108 ?_
        refine wa_i2l dX6_factor_109 ?_
        refine wa_lmul dX6_factor_110 ?_
        refine wa_goto 115 dX6_factor_111 (by decide) ?_
        refine wa_lsub dX6_factor_115 ?_
        refine wa_lret dX6_factor_116 rfl ?_
        rw [if_neg (by omega), if_pos (by omega)] at hQ; exact fz_q hQ (by rw [e3, e4, z_0]; simp only [← Int64.ofInt_mul, ← Int64.ofInt_sub])
    · try simp (disch := omega) only [nI_toInt, Int32.toInt_toInt64, e0] at c79_1
      refine wa_iload_n dX6_factor_82 rfl ?_
      refine wa_iconst (nI 1) dX6_factor_83 (by decide) ?_
      refine wa_isub dX6_factor_84 ?_
      refine wa_i2l dX6_factor_85 ?_
      refine wa_iload_n dX6_factor_86 rfl ?_
      refine wa_iload_n dX6_factor_87 rfl ?_
      refine wa_isub dX6_factor_88 ?_
      refine wa_i2l dX6_factor_89 ?_
      refine wa_lmul dX6_factor_90 ?_
      refine wa_goto 95 dX6_factor_91 (by decide) ?_
      refine wa_iload_n dX6_factor_95 rfl ?_
      refine wa_iload_n dX6_factor_96 rfl ?_
      refine wa_iconst (nI 1) dX6_factor_97 (by decide) ?_
      refine wa_isub dX6_factor_98 ?_
      refine wa_ic_ge 114 dX6_factor_99 (by decide) (fun c99_3 => ?_) (fun c99_3 => ?_)
      · try simp (disch := omega) only [nI_toInt, Int32.toInt_toInt64, e0] at c99_3
        refine wa_lconst (0) dX6_factor_114 (by decide) ?_
        refine wa_lsub dX6_factor_115 ?_
        refine wa_lret dX6_factor_116 rfl ?_
        rw [if_pos (by omega), if_neg (by omega)] at hQ; exact fz_q hQ (by rw [e1, e2 (by omega), z_0]; simp only [← Int64.ofInt_mul, ← Int64.ofInt_sub])
      · try simp (disch := omega) only [nI_toInt, Int32.toInt_toInt64, e0] at c99_3
        refine wa_iload_n dX6_factor_102 rfl ?_
        refine wa_i2l dX6_factor_103 ?_
        refine wa_iload_n dX6_factor_104 rfl ?_
        refine wa_iconst (nI 1) dX6_factor_105 (by decide) ?_
        refine wa_isub dX6_factor_106 ?_
        refine wa_iload_n dX6_factor_107 rfl ?_
        refine wa_isub dX6_factor_108 ?_
        refine wa_i2l dX6_factor_109 ?_
        refine wa_lmul dX6_factor_110 ?_
        refine wa_goto 115 dX6_factor_111 (by decide) ?_
        refine wa_lsub dX6_factor_115 ?_
        refine wa_lret dX6_factor_116 rfl ?_
        rw [if_pos (by omega), if_pos (by omega)] at hQ; exact fz_q hQ (by rw [e1, e2 (by omega), e3, e4]; simp only [← Int64.ofInt_mul, ← Int64.ofInt_sub])
  · exact wp_X6_factor3 hn hi hk (hp2 rfl) hQ
