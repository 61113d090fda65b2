/-! PAIRS: digest -/
def rzF (μ : Mem) (r : Nat) : Nat := (μ.1 (43 + 5 * r) 0).toInt.toNat
def dg1 (μ : Mem) (n8 : Nat) : Nat → Int64
  | 0 => 139
  | w + 1 => 31 * dg1 μ n8 w + (cVc μ n8 w).toInt64
def dg2 (μ : Mem) (h : Int64) : Nat → Int64
  | 0 => h
  | k + 1 => if μ.1 (7 + 4 * k) 0 = nI 1 then digS (digF (31 * dg2 μ h k + (nI k).toInt64) (μ.1 (7 + 4 * k + 2)) (μ.1 (7 + 4 * k) 1) (szF μ k) 6) (μ.1 (7 + 4 * k + 2)) (μ.1 (7 + 4 * k + 1)) (szF μ k) else dg2 μ h k
def dg3 (μ : Mem) (h : Int64) : Nat → Int64
  | 0 => h
  | r + 1 => digR (31 * dg3 μ h r + (nI (rzF μ r)).toInt64) (μ.2 (43 + 5 * r + 1)) (rzF μ r)
theorem Rel.rz {N : Nat} {μ : Mem} (h : Rel N μ) : ∀ r, r < 6 → μ.1 (43 + 5 * r) 0 = nI (rzF μ r) ∧ rzF μ r ≤ 64 := by
  intro r hr
  obtain ⟨n, h1, h2, _⟩ := h.2.1 r hr
  have e : rzF μ r = n := by
    rw [rzF, h1, nI_toInt (by omega)]
    omega
  rw [e]
  exact ⟨h1, h2⟩
theorem wp_X5_digest {d N n8 : Nat} {μ : Mem} {Q : QM} (hd : 5 ≤ d) (hrel : Rel N μ) (hp : RelP μ n8) (hQ : Q (some (.long (dg3 μ (dg2 μ (dg1 μ n8 10) 8) 6))) μ) : MW kX5_digest d [.ref 0] μ Q := by
  refine MW_of (by decide) [some (.ref 0), none, none, none] rfl (Nat.le_of_ble_eq_true rfl) ?_
  have hth := hrel.th
  have loop3 : ∀ m r, r + m = 6 → WA kX5_digest d Q 77 [some (.ref 0), some (.long (dg3 μ (dg2 μ (dg1 μ n8 10) 8) r)), none, some (.int (nI r))] [] μ := by
    intro m
    induction m with
    | zero =>
      intro r hr
      obtain rfl : r = 6 := by omega
      refine wa_iload_n dX5_digest_77 rfl ?_
      refine wa_bipush (nI 6) dX5_digest_78 (by decide) ?_
      refine wa_ic_geT 100 dX5_digest_80 (by decide) (by decide) ?_
      refine wa_lload_n dX5_digest_100 rfl ?_
      refine wa_lret dX5_digest_101 rfl ?_
      exact hQ
    | succ m ih =>
      intro r hr
      have e_ := ih (r + 1) (by omega)
      have hR_ := isR_k (show r < 6 by omega)
      have hsh_ := (isR_sh hR_).1
      obtain ⟨z1_, z2_⟩ := hrel.rz r (by omega)
      refine wa_iload_n dX5_digest_77 rfl ?_
      refine wa_bipush (nI 6) dX5_digest_78 (by decide) ?_
      refine wa_ic_geF 100 dX5_digest_80 (by decide) (nle_nI (by omega) (by omega)) ?_
      refine wa_aload_n dX5_digest_83 rfl ?_
      refine wa_getR dX5_digest_84 fgX5_18 (by first | assumption | rfl) (by rfl) ?_
      refine wa_iload_n dX5_digest_87 rfl ?_
      refine wa_aalR _ dX5_digest_88 (by first | assumption | rfl) (by first | with_reducible rfl | with_reducible assumption | with_reducible exact ix_ma _ _ _ | with_reducible exact ix_maa _ _ _ _ | with_reducible exact ix_a _ _ | with_reducible exact ix_mama _ _ _ _ _) (by omega) ?_
      rw [show arf 2 r = 43 + 5 * r from rfl]
      refine wa_lload_n dX5_digest_89 rfl ?_
      refine wa_callV1 (k' := kX2_digestOn) (d' := 0) dX5_digest_90 lmX5_268 kvX2_digestOn (by first | assumption | rfl) (by rfl) (by decide) (by omega) (Nat.le_of_ble_eq_true rfl) ?_
      refine wp_X2_digestOn (n := rzF μ r) hR_ z1_ z2_ ?_
      refine wa_lstore_n dX5_digest_93 (by decide) ?_
      refine wa_iinc (nI 1) dX5_digest_94 rfl (by decide) (by decide) ?_
      refine wa_goto 77 dX5_digest_97 (by decide) ?_
      simp only [nI_add]; exact e_
  have loop2 : ∀ m k, k + m = 8 → WA kX5_digest d Q 33 [some (.ref 0), some (.long (dg2 μ (dg1 μ n8 10) k)), none, some (.int (nI k))] [] μ := by
    intro m
    induction m with
    | zero =>
      intro k hk
      obtain rfl : k = 8 := by omega
      refine wa_iload_n dX5_digest_33 rfl ?_
      refine wa_bipush (nI 8) dX5_digest_34 (by decide) ?_
      refine wa_ic_geT 75 dX5_digest_36 (by decide) (by decide) ?_
      refine wa_iconst (nI 0) dX5_digest_75 (by decide) ?_
      refine wa_istore_n dX5_digest_76 (by decide) ?_
      exact loop3 6 0 (by omega)
    | succ m ih =>
      intro k hk
      have e_ := ih (k + 1) (by omega)
      have hS_ := isS_k (show k < 9 by omega)
      have hsh_ := (isS_sh hS_).1
      obtain ⟨z1_, z2_⟩ := hrel.sz k (by omega)
      rw [dg2] at e_
      refine wa_iload_n dX5_digest_33 rfl ?_
      refine wa_bipush (nI 8) dX5_digest_34 (by decide) ?_
      refine wa_ic_geF 75 dX5_digest_36 (by decide) (nle_nI (by omega) (by omega)) ?_
      refine wa_aload_n dX5_digest_39 rfl ?_
      refine wa_getR dX5_digest_40 fgX5_11 (by first | assumption | rfl) (by rfl) ?_
      refine wa_iload_n dX5_digest_43 rfl ?_
      refine wa_aalS _ dX5_digest_44 (by first | assumption | rfl) (by first | with_reducible rfl | with_reducible assumption | with_reducible exact ix_ma _ _ _ | with_reducible exact ix_maa _ _ _ _ | with_reducible exact ix_a _ _ | with_reducible exact ix_mama _ _ _ _ _) (by omega) ?_
      rw [show arf 1 k = 7 + 4 * k from rfl]
      refine wa_callV0 (k' := kX3_isThere) (d' := 0) dX5_digest_45 lmX5_87 kvX3_isThere (by first | assumption | rfl) (by rfl) (by decide) (by omega) (Nat.le_of_ble_eq_true rfl) ?_
      refine wp_X3_isThere hS_ (hth k (by omega)) (fun h_ => ?_) (fun h_ => ?_)
      · skip
        refine wa_if_eqF 69 dX5_digest_48 (by decide) (by decide) ?_
        refine wa_aload_n dX5_digest_51 rfl ?_
        refine wa_getR dX5_digest_52 fgX5_11 (by first | assumption | rfl) (by rfl) ?_
        refine wa_iload_n dX5_digest_55 rfl ?_
        refine wa_aalS _ dX5_digest_56 (by first | assumption | rfl) (by first | with_reducible rfl | with_reducible assumption | with_reducible exact ix_ma _ _ _ | with_reducible exact ix_maa _ _ _ _ | with_reducible exact ix_a _ _ | with_reducible exact ix_mama _ _ _ _ _) (by omega) ?_
        rw [show arf 1 k = 7 + 4 * k from rfl]
        refine wa_ldc2 (31) dX5_digest_57 lcX5_259 ?_
        refine wa_lload_n dX5_digest_60 rfl ?_
        refine wa_lmul dX5_digest_61 ?_
        refine wa_iload_n dX5_digest_62 rfl ?_
        refine wa_i2l dX5_digest_63 ?_
        refine wa_ladd dX5_digest_64 ?_
        refine wa_callV1 (k' := kX3_digestOn) (d' := 3) dX5_digest_65 lmX5_264 kvX3_digestOn (by first | assumption | rfl) (by rfl) (by decide) (by omega) (Nat.le_of_ble_eq_true rfl) ?_
        refine wp_X3_digestOn (n := szF μ k) hS_ (by omega) z1_ z2_ ?_
        refine wa_lstore_n dX5_digest_68 (by decide) ?_
        refine wa_iinc (nI 1) dX5_digest_69 rfl (by decide) (by decide) ?_
        refine wa_goto 33 dX5_digest_72 (by decide) ?_
        rw [if_pos h_] at e_; simp only [nI_add]; exact e_
      · skip
        refine wa_if_eqT 69 dX5_digest_48 (by decide) (by decide) ?_
        refine wa_iinc (nI 1) dX5_digest_69 rfl (by decide) (by decide) ?_
        refine wa_goto 33 dX5_digest_72 (by decide) ?_
        rw [if_neg (by rw [h_]; decide)] at e_; simp only [nI_add]; exact e_
  have loop1 : ∀ m w, w + m = 10 → WA kX5_digest d Q 6 [some (.ref 0), some (.long (dg1 μ n8 w)), none, some (.int (nI w))] [] μ := by
    intro m
    induction m with
    | zero =>
      intro w hw
      obtain rfl : w = 10 := by omega
      refine wa_iload_n dX5_digest_6 rfl ?_
      refine wa_bipush (nI 10) dX5_digest_7 (by decide) ?_
      refine wa_ic_geT 31 dX5_digest_9 (by decide) (by decide) ?_
      refine wa_iconst (nI 0) dX5_digest_31 (by decide) ?_
      refine wa_istore_n dX5_digest_32 (by decide) ?_
      exact loop2 8 0 (by omega)
    | succ m ih =>
      intro w hw
      have e_ := ih (w + 1) (by omega)
      refine wa_iload_n dX5_digest_6 rfl ?_
      refine wa_bipush (nI 10) dX5_digest_7 (by decide) ?_
      refine wa_ic_geF 31 dX5_digest_9 (by decide) (nle_nI (by omega) (by omega)) ?_
      refine wa_ldc2 (31) dX5_digest_12 lcX5_259 ?_
      refine wa_lload_n dX5_digest_15 rfl ?_
      refine wa_lmul dX5_digest_16 ?_
      refine wa_aload_n dX5_digest_17 rfl ?_
      refine wa_iload_n dX5_digest_18 rfl ?_
      refine wa_callV1 (k' := kX5_count) (d' := 3) dX5_digest_19 lmX5_261 kvX5_count (by first | assumption | rfl) (by rfl) (by decide) (by omega) (Nat.le_of_ble_eq_true rfl) ?_
      refine wp_X5_count (n8 := n8) (by omega) hth hp.1 hp.2.1 (by omega) ?_
      refine wa_i2l dX5_digest_22 ?_
      refine wa_ladd dX5_digest_23 ?_
      refine wa_lstore_n dX5_digest_24 (by decide) ?_
      refine wa_iinc (nI 1) dX5_digest_25 rfl (by decide) (by decide) ?_
      refine wa_goto 6 dX5_digest_28 (by decide) ?_
      simp only [nI_add]; exact e_
  refine wa_ldc2 (139) dX5_digest_0 lcX5_257 ?_
  refine wa_lstore_n dX5_digest_3 (by decide) ?_
  refine wa_iconst (nI 0) dX5_digest_4 (by decide) ?_
  refine wa_istore_n dX5_digest_5 (by decide) ?_
  exact loop1 10 0 (by omega)
theorem st3_le {x : Int32} (h : st3 x) : x.toInt ≤ 0 ↔ x.toInt = 0 := by
  have := st3_ge h
  omega
theorem wp_X6_digest {d N n8 : Nat} {μ : Mem} {Q : QM} (hd : 5 ≤ d) (hrel : Rel N μ) (hp : RelP μ n8) (hQ : Q (some (.long (dg3 μ (dg2 μ (dg1 μ n8 10) 8) 6))) μ) : MW kX6_digest d [.ref 73] μ Q := by
  refine MW_of (by decide) [some (.ref 73), none, none, none, none] rfl (Nat.le_of_ble_eq_true rfl) ?_
  have loop3 : ∀ m r, r + m = 6 → ∀ z, WA kX6_digest d Q 171 [some (.ref 73), some (.long (dg3 μ (dg2 μ (dg1 μ n8 10) 8) r)), none, some (.int (nI r)), z] [] μ := by
    intro m
    induction m with
    | zero =>
      intro r hr z
      obtain rfl : r = 6 := by omega
      refine wa_iload_n dX6_digest_171 rfl ?_
      refine wa_bipush (nI 6) dX6_digest_172 (by decide) ?_
      refine wa_ic_geT 236 dX6_digest_174 (by decide) (by decide) ?_
      refine wa_lload_n dX6_digest_236 rfl ?_
      refine wa_lret dX6_digest_237 rfl ?_
      exact hQ
    | succ m ih =>
      intro r hr z
      have e_ := ih (r + 1) (by omega)
      obtain ⟨n, s1_, s2_, s3_, s4_, s5_⟩ := hrel.2.1 r (by omega)
      obtain ⟨z1_, z2_⟩ := hrel.rz r (by omega)
      obtain rfl : n = rzF μ r := nI_eq3 (s1_.symm.trans z1_) (by omega) (by omega)
      have inner : ∀ m2 i, i + m2 = rzF μ r → WA kX6_digest d Q 194 [some (.ref 73), some (.long (digR (31 * dg3 μ (dg2 μ (dg1 μ n8 10) 8) r + (nI (rzF μ r)).toInt64) (μ.2 (43 + 5 * r + 1)) i)), none, some (.int (nI r)), some (.int (nI i))] [] μ := by
        intro m2
        induction m2 with
        | zero =>
          intro i hi
          obtain rfl : i = rzF μ r := by omega
          rw [dg3] at e_
          refine wa_iload dX6_digest_194 rfl ?_
          refine wa_aload_n dX6_digest_196 rfl ?_
          refine wa_getR dX6_digest_197 fgX6_26 (by first | assumption | rfl) (by rfl) ?_
          refine wa_iload_n dX6_digest_200 rfl ?_
          refine wa_iald _ dX6_digest_201 (by first | assumption | rfl) (by first | with_reducible rfl | with_reducible assumption | with_reducible exact ix_ma _ _ _ | with_reducible exact ix_maa _ _ _ _ | with_reducible exact ix_a _ _ | with_reducible exact ix_mama _ _ _ _ _) (by omega) ?_
          refine wa_ic_geT 230 dX6_digest_202 (by decide) (by rw [s3_]; exact le_nI (by omega) (by omega)) ?_
          refine wa_iinc (nI 1) dX6_digest_230 rfl (by decide) (by decide) ?_
          refine wa_goto 171 dX6_digest_233 (by decide) ?_
          simp only [nI_add]; exact e_ _
        | succ m2 ih2 =>
          intro i hi
          have e2_ := ih2 (i + 1) (by omega)
          rw [digR, ← s4_ i (by omega)] at e2_
          refine wa_iload dX6_digest_194 rfl ?_
          refine wa_aload_n dX6_digest_196 rfl ?_
          refine wa_getR dX6_digest_197 fgX6_26 (by first | assumption | rfl) (by rfl) ?_
          refine wa_iload_n dX6_digest_200 rfl ?_
          refine wa_iald _ dX6_digest_201 (by first | assumption | rfl) (by first | with_reducible rfl | with_reducible assumption | with_reducible exact ix_ma _ _ _ | with_reducible exact ix_maa _ _ _ _ | with_reducible exact ix_a _ _ | with_reducible exact ix_mama _ _ _ _ _) (by omega) ?_
          refine wa_ic_geF 230 dX6_digest_202 (by decide) (by rw [s3_]; exact nle_nI (by omega) (by omega)) ?_
          refine wa_ldc2 (31) dX6_digest_205 lcX6_236 ?_
          refine wa_lload_n dX6_digest_208 rfl ?_
          refine wa_lmul dX6_digest_209 ?_
          refine wa_aload_n dX6_digest_210 rfl ?_
          refine wa_getR dX6_digest_211 fgX6_29 (by first | assumption | rfl) (by rfl) ?_
          refine wa_bipush (nI 64) dX6_digest_214 (by decide) ?_
          refine wa_iload_n dX6_digest_216 rfl ?_
          refine wa_imul dX6_digest_217 ?_
          refine wa_iload dX6_digest_218 rfl ?_
          refine wa_iadd dX6_digest_220 ?_
          refine wa_lald _ dX6_digest_221 (by first | assumption | rfl) (by first | with_reducible rfl | with_reducible assumption | with_reducible exact ix_ma _ _ _ | with_reducible exact ix_maa _ _ _ _ | with_reducible exact ix_a _ _ | with_reducible exact ix_mama _ _ _ _ _) (by omega) ?_
          refine wa_ladd dX6_digest_222 ?_
          refine wa_lstore_n dX6_digest_223 (by decide) ?_
          refine wa_iinc (nI 1) dX6_digest_224 rfl (by decide) (by decide) ?_
          refine wa_goto 194 dX6_digest_227 (by decide) ?_
          simp only [nI_add]; exact e2_
      refine wa_iload_n dX6_digest_171 rfl ?_
      refine wa_bipush (nI 6) dX6_digest_172 (by decide) ?_
      refine wa_ic_geF 236 dX6_digest_174 (by decide) (nle_nI (by omega) (by omega)) ?_
      refine wa_ldc2 (31) dX6_digest_177 lcX6_236 ?_
      refine wa_lload_n dX6_digest_180 rfl ?_
      refine wa_lmul dX6_digest_181 ?_
      refine wa_aload_n dX6_digest_182 rfl ?_
      refine wa_getR dX6_digest_183 fgX6_26 (by first | assumption | rfl) (by rfl) ?_
      refine wa_iload_n dX6_digest_186 rfl ?_
      refine wa_iald _ dX6_digest_187 (by first | assumption | rfl) (by first | with_reducible rfl | with_reducible assumption | with_reducible exact ix_ma _ _ _ | with_reducible exact ix_maa _ _ _ _ | with_reducible exact ix_a _ _ | with_reducible exact ix_mama _ _ _ _ _) (by omega) ?_
      refine wa_i2l dX6_digest_188 ?_
      refine wa_ladd dX6_digest_189 ?_
      refine wa_lstore_n dX6_digest_190 (by decide) ?_
      refine wa_iconst (nI 0) dX6_digest_191 (by decide) ?_
      refine wa_istore dX6_digest_192 (by decide) ?_
      rw [s3_]; exact inner (rzF μ r) 0 (by omega)
  have loop2 : ∀ m k, k + m = 8 → ∀ z, WA kX6_digest d Q 33 [some (.ref 73), some (.long (dg2 μ (dg1 μ n8 10) k)), none, some (.int (nI k)), z] [] μ := by
    intro m
    induction m with
    | zero =>
      intro k hk z
      obtain rfl : k = 8 := by omega
      refine wa_iload_n dX6_digest_33 rfl ?_
      refine wa_bipush (nI 8) dX6_digest_34 (by decide) ?_
      refine wa_ic_geT 169 dX6_digest_36 (by decide) (by decide) ?_
      refine wa_iconst (nI 0) dX6_digest_169 (by decide) ?_
      refine wa_istore_n dX6_digest_170 (by decide) ?_
      exact loop3 6 0 (by omega) _
    | succ m ih =>
      intro k hk z
      have e_ := ih (k + 1) (by omega)
      obtain ⟨n, s1_, s2_, s3_, s4_, s5_, s6_, s7_, s8_, s9_, s10_⟩ := hrel.1 k (by omega)
      have s5_ := s5_ (by omega)
      obtain ⟨z1_, z2_⟩ := hrel.sz k (by omega)
      obtain rfl : n = szF μ k := nI_eq3 (s3_.symm.trans z1_) (by omega) (by omega)
      rcases s1_ with h_ | h_
      · rw [dg2, if_neg (by rw [h_]; decide)] at e_
        refine wa_iload_n dX6_digest_33 rfl ?_
        refine wa_bipush (nI 8) dX6_digest_34 (by decide) ?_
        refine wa_ic_geF 169 dX6_digest_36 (by decide) (nle_nI (by omega) (by omega)) ?_
        refine wa_aload_n dX6_digest_39 rfl ?_
        refine wa_getR dX6_digest_40 fgX6_7 (by first | assumption | rfl) (by rfl) ?_
        refine wa_iload_n dX6_digest_43 rfl ?_
        refine wa_zald _ dX6_digest_44 (by first | assumption | rfl) (by first | with_reducible rfl | with_reducible assumption | with_reducible exact ix_ma _ _ _ | with_reducible exact ix_maa _ _ _ _ | with_reducible exact ix_a _ _ | with_reducible exact ix_mama _ _ _ _ _) (by omega) ?_
        refine wa_if_eqT 163 dX6_digest_45 (by decide) (by rw [s5_, h_]; decide) ?_
        refine wa_iinc (nI 1) dX6_digest_163 rfl (by decide) (by decide) ?_
        refine wa_goto 33 dX6_digest_166 (by decide) ?_
        simp only [nI_add]; exact e_ z
      · rw [dg2, if_pos h_] at e_
        generalize dg2 μ (dg1 μ n8 10) k = h0 at e_ ⊢
        have samp : ∀ m2 i, i + m2 = szF μ k → WA kX6_digest d Q 91 [some (.ref 73), some (.long (digS (digF (31 * h0 + (nI k).toInt64) (μ.1 (7 + 4 * k + 2)) (μ.1 (7 + 4 * k) 1) (szF μ k) 6) (μ.1 (7 + 4 * k + 2)) (μ.1 (7 + 4 * k + 1)) i)), none, some (.int (nI k)), some (.int (nI i))] [] μ := by
          intro m2
          induction m2 with
          | zero =>
            intro i hi
            obtain rfl : i = szF μ k := by omega
            refine wa_iload dX6_digest_91 rfl ?_
            refine wa_aload_n dX6_digest_93 rfl ?_
            refine wa_getR dX6_digest_94 fgX6_17 (by first | assumption | rfl) (by rfl) ?_
            refine wa_iload_n dX6_digest_97 rfl ?_
            refine wa_iald _ dX6_digest_98 (by first | assumption | rfl) (by first | with_reducible rfl | with_reducible assumption | with_reducible exact ix_ma _ _ _ | with_reducible exact ix_maa _ _ _ _ | with_reducible exact ix_a _ _ | with_reducible exact ix_mama _ _ _ _ _) (by omega) ?_
            refine wa_ic_geT 163 dX6_digest_99 (by decide) (by rw [s7_]; exact le_nI (by omega) (by omega)) ?_
            refine wa_iinc (nI 1) dX6_digest_163 rfl (by decide) (by decide) ?_
            refine wa_goto 33 dX6_digest_166 (by decide) ?_
            simp only [nI_add]; exact e_ _
          | succ m2 ih2 =>
            intro i hi
            have e2_ := ih2 (i + 1) (by omega)
            have hs_ := s9_ i (by omega)
            have h3_ := st3_le (s10_ i (by omega))
            rw [digS, ← hs_] at e2_
            by_cases hz_ : (μ.1 77 (64 * k + i)).toInt = 0
            · rw [if_pos hz_] at e2_
              refine wa_iload dX6_digest_91 rfl ?_
              refine wa_aload_n dX6_digest_93 rfl ?_
              refine wa_getR dX6_digest_94 fgX6_17 (by first | assumption | rfl) (by rfl) ?_
              refine wa_iload_n dX6_digest_97 rfl ?_
              refine wa_iald _ dX6_digest_98 (by first | assumption | rfl) (by first | with_reducible rfl | with_reducible assumption | with_reducible exact ix_ma _ _ _ | with_reducible exact ix_maa _ _ _ _ | with_reducible exact ix_a _ _ | with_reducible exact ix_mama _ _ _ _ _) (by omega) ?_
              refine wa_ic_geF 163 dX6_digest_99 (by decide) (by rw [s7_]; exact nle_nI (by omega) (by omega)) ?_
              refine wa_ldc2 (31) dX6_digest_102 lcX6_236 ?_
              refine wa_lload_n dX6_digest_105 rfl ?_
              refine wa_lmul dX6_digest_106 ?_
              refine wa_aload_n dX6_digest_107 rfl ?_
              refine wa_getR dX6_digest_108 fgX6_20 (by first | assumption | rfl) (by rfl) ?_
              refine wa_bipush (nI 64) dX6_digest_111 (by decide) ?_
              refine wa_iload_n dX6_digest_113 rfl ?_
              refine wa_imul dX6_digest_114 ?_
              refine wa_iload dX6_digest_115 rfl ?_
              refine wa_iadd dX6_digest_117 ?_
              refine wa_iald _ dX6_digest_118 (by first | assumption | rfl) (by first | with_reducible rfl | with_reducible assumption | with_reducible exact ix_ma _ _ _ | with_reducible exact ix_maa _ _ _ _ | with_reducible exact ix_a _ _ | with_reducible exact ix_mama _ _ _ _ _) (by omega) ?_
              refine wa_i2l dX6_digest_119 ?_
              refine wa_ladd dX6_digest_120 ?_
              refine wa_lstore_n dX6_digest_121 (by decide) ?_
              refine wa_aload_n dX6_digest_122 rfl ?_
              refine wa_getR dX6_digest_123 fgX6_20 (by first | assumption | rfl) (by rfl) ?_
              refine wa_bipush (nI 64) dX6_digest_126 (by decide) ?_
              refine wa_iload_n dX6_digest_128 rfl ?_
              refine wa_imul dX6_digest_129 ?_
              refine wa_iload dX6_digest_130 rfl ?_
              refine wa_iadd dX6_digest_132 ?_
              refine wa_iald _ dX6_digest_133 (by first | assumption | rfl) (by first | with_reducible rfl | with_reducible assumption | with_reducible exact ix_ma _ _ _ | with_reducible exact ix_maa _ _ _ _ | with_reducible exact ix_a _ _ | with_reducible exact ix_mama _ _ _ _ _) (by omega) ?_
              refine wa_if_leT 157 dX6_digest_134 (by decide) (by omega) ?_
              refine wa_iinc (nI 1) dX6_digest_157 rfl (by decide) (by decide) ?_
              refine wa_goto 91 dX6_digest_160 (by decide) ?_
              simp only [nI_add]; exact e2_
            · rw [if_neg hz_, ← s8_ i (by omega) (fun q => hz_ (by rw [hs_, q]; decide))] at e2_
              refine wa_iload dX6_digest_91 rfl ?_
              refine wa_aload_n dX6_digest_93 rfl ?_
              refine wa_getR dX6_digest_94 fgX6_17 (by first | assumption | rfl) (by rfl) ?_
              refine wa_iload_n dX6_digest_97 rfl ?_
              refine wa_iald _ dX6_digest_98 (by first | assumption | rfl) (by first | with_reducible rfl | with_reducible assumption | with_reducible exact ix_ma _ _ _ | with_reducible exact ix_maa _ _ _ _ | with_reducible exact ix_a _ _ | with_reducible exact ix_mama _ _ _ _ _) (by omega) ?_
              refine wa_ic_geF 163 dX6_digest_99 (by decide) (by rw [s7_]; exact nle_nI (by omega) (by omega)) ?_
              refine wa_ldc2 (31) dX6_digest_102 lcX6_236 ?_
              refine wa_lload_n dX6_digest_105 rfl ?_
              refine wa_lmul dX6_digest_106 ?_
              refine wa_aload_n dX6_digest_107 rfl ?_
              refine wa_getR dX6_digest_108 fgX6_20 (by first | assumption | rfl) (by rfl) ?_
              refine wa_bipush (nI 64) dX6_digest_111 (by decide) ?_
              refine wa_iload_n dX6_digest_113 rfl ?_
              refine wa_imul dX6_digest_114 ?_
              refine wa_iload dX6_digest_115 rfl ?_
              refine wa_iadd dX6_digest_117 ?_
              refine wa_iald _ dX6_digest_118 (by first | assumption | rfl) (by first | with_reducible rfl | with_reducible assumption | with_reducible exact ix_ma _ _ _ | with_reducible exact ix_maa _ _ _ _ | with_reducible exact ix_a _ _ | with_reducible exact ix_mama _ _ _ _ _) (by omega) ?_
              refine wa_i2l dX6_digest_119 ?_
              refine wa_ladd dX6_digest_120 ?_
              refine wa_lstore_n dX6_digest_121 (by decide) ?_
              refine wa_aload_n dX6_digest_122 rfl ?_
              refine wa_getR dX6_digest_123 fgX6_20 (by first | assumption | rfl) (by rfl) ?_
              refine wa_bipush (nI 64) dX6_digest_126 (by decide) ?_
              refine wa_iload_n dX6_digest_128 rfl ?_
              refine wa_imul dX6_digest_129 ?_
              refine wa_iload dX6_digest_130 rfl ?_
              refine wa_iadd dX6_digest_132 ?_
              refine wa_iald _ dX6_digest_133 (by first | assumption | rfl) (by first | with_reducible rfl | with_reducible assumption | with_reducible exact ix_ma _ _ _ | with_reducible exact ix_maa _ _ _ _ | with_reducible exact ix_a _ _ | with_reducible exact ix_mama _ _ _ _ _) (by omega) ?_
              refine wa_if_leF 157 dX6_digest_134 (by decide) (by rw [hs_] at hz_ ⊢; omega) ?_
              refine wa_ldc2 (31) dX6_digest_137 lcX6_236 ?_
              refine wa_lload_n dX6_digest_140 rfl ?_
              refine wa_lmul dX6_digest_141 ?_
              refine wa_aload_n dX6_digest_142 rfl ?_
              refine wa_getR dX6_digest_143 fgX6_23 (by first | assumption | rfl) (by rfl) ?_
              refine wa_bipush (nI 64) dX6_digest_146 (by decide) ?_
              refine wa_iload_n dX6_digest_148 rfl ?_
              refine wa_imul dX6_digest_149 ?_
              refine wa_iload dX6_digest_150 rfl ?_
              refine wa_iadd dX6_digest_152 ?_
              refine wa_iald _ dX6_digest_153 (by first | assumption | rfl) (by first | with_reducible rfl | with_reducible assumption | with_reducible exact ix_ma _ _ _ | with_reducible exact ix_maa _ _ _ _ | with_reducible exact ix_a _ _ | with_reducible exact ix_mama _ _ _ _ _) (by omega) ?_
              refine wa_i2l dX6_digest_154 ?_
              refine wa_ladd dX6_digest_155 ?_
              refine wa_lstore_n dX6_digest_156 (by decide) ?_
              refine wa_iinc (nI 1) dX6_digest_157 rfl (by decide) (by decide) ?_
              refine wa_goto 91 dX6_digest_160 (by decide) ?_
              simp only [nI_add]; exact e2_
        have facts : ∀ m2 w, w + m2 = 6 → WA kX6_digest d Q 60 [some (.ref 73), some (.long (digF (31 * h0 + (nI k).toInt64) (μ.1 (7 + 4 * k + 2)) (μ.1 (7 + 4 * k) 1) (szF μ k) w)), none, some (.int (nI k)), some (.int (nI w))] [] μ := by
          intro m2
          induction m2 with
          | zero =>
            intro w hw
            obtain rfl : w = 6 := by omega
            refine wa_iload dX6_digest_60 rfl ?_
            refine wa_bipush (nI 6) dX6_digest_62 (by decide) ?_
            refine wa_ic_geT 88 dX6_digest_64 (by decide) (by decide) ?_
            refine wa_iconst (nI 0) dX6_digest_88 (by decide) ?_
            refine wa_istore dX6_digest_89 (by decide) ?_
            exact samp (szF μ k) 0 (by omega)
          | succ m2 ih2 =>
            intro w hw
            have e2_ := ih2 (w + 1) (by omega)
            rw [digF] at e2_
            refine wa_iload dX6_digest_60 rfl ?_
            refine wa_bipush (nI 6) dX6_digest_62 (by decide) ?_
            refine wa_ic_geF 88 dX6_digest_64 (by decide) (nle_nI (by omega) (by omega)) ?_
            refine wa_ldc2 (31) dX6_digest_67 lcX6_236 ?_
            refine wa_lload_n dX6_digest_70 rfl ?_
            refine wa_lmul dX6_digest_71 ?_
            refine wa_aload_n dX6_digest_72 rfl ?_
            refine wa_iload_n dX6_digest_73 rfl ?_
            refine wa_iload dX6_digest_74 rfl ?_
            refine wa_callV2 (k' := kX6_about) (d' := 1) dX6_digest_76 lmX6_241 kvX6_about (by first | assumption | rfl) (by rfl) (by decide) (by omega) (Nat.le_of_ble_eq_true rfl) ?_
            refine wp_X6_about (n := szF μ k) (by omega) (by omega) (by rw [s5_, h_]; decide) s7_ z2_ (by omega) ?_
            rw [fctN_c (f := mF μ k) (g := μ.1 (7 + 4 * k + 2)) _ _ s9_, s6_]
            refine wa_i2l dX6_digest_79 ?_
            refine wa_ladd dX6_digest_80 ?_
            refine wa_lstore_n dX6_digest_81 (by decide) ?_
            refine wa_iinc (nI 1) dX6_digest_82 rfl (by decide) (by decide) ?_
            refine wa_goto 60 dX6_digest_85 (by decide) ?_
            simp only [nI_add]; exact e2_
        refine wa_iload_n dX6_digest_33 rfl ?_
        refine wa_bipush (nI 8) dX6_digest_34 (by decide) ?_
        refine wa_ic_geF 169 dX6_digest_36 (by decide) (nle_nI (by omega) (by omega)) ?_
        refine wa_aload_n dX6_digest_39 rfl ?_
        refine wa_getR dX6_digest_40 fgX6_7 (by first | assumption | rfl) (by rfl) ?_
        refine wa_iload_n dX6_digest_43 rfl ?_
        refine wa_zald _ dX6_digest_44 (by first | assumption | rfl) (by first | with_reducible rfl | with_reducible assumption | with_reducible exact ix_ma _ _ _ | with_reducible exact ix_maa _ _ _ _ | with_reducible exact ix_a _ _ | with_reducible exact ix_mama _ _ _ _ _) (by omega) ?_
        refine wa_if_eqF 163 dX6_digest_45 (by decide) (by rw [s5_, h_]; exact fun q => absurd q (by decide)) ?_
        refine wa_ldc2 (31) dX6_digest_48 lcX6_236 ?_
        refine wa_lload_n dX6_digest_51 rfl ?_
        refine wa_lmul dX6_digest_52 ?_
        refine wa_iload_n dX6_digest_53 rfl ?_
        refine wa_i2l dX6_digest_54 ?_
        refine wa_ladd dX6_digest_55 ?_
        refine wa_lstore_n dX6_digest_56 (by decide) ?_
        refine wa_iconst (nI 0) dX6_digest_57 (by decide) ?_
        refine wa_istore dX6_digest_58 (by decide) ?_
        exact facts 6 0 (by omega)
  have loop1 : ∀ m w, w + m = 10 → WA kX6_digest d Q 6 [some (.ref 73), some (.long (dg1 μ n8 w)), none, some (.int (nI w)), none] [] μ := by
    intro m
    induction m with
    | zero =>
      intro w hw
      obtain rfl : w = 10 := by omega
      refine wa_iload_n dX6_digest_6 rfl ?_
      refine wa_bipush (nI 10) dX6_digest_7 (by decide) ?_
      refine wa_ic_geT 31 dX6_digest_9 (by decide) (by decide) ?_
      refine wa_iconst (nI 0) dX6_digest_31 (by decide) ?_
      refine wa_istore_n dX6_digest_32 (by decide) ?_
      exact loop2 8 0 (by omega) _
    | succ m ih =>
      intro w hw
      have e_ := ih (w + 1) (by omega)
      rw [dg1, ← cV_eq hrel hp (by omega)] at e_
      refine wa_iload_n dX6_digest_6 rfl ?_
      refine wa_bipush (nI 10) dX6_digest_7 (by decide) ?_
      refine wa_ic_geF 31 dX6_digest_9 (by decide) (nle_nI (by omega) (by omega)) ?_
      refine wa_ldc2 (31) dX6_digest_12 lcX6_236 ?_
      refine wa_lload_n dX6_digest_15 rfl ?_
      refine wa_lmul dX6_digest_16 ?_
      refine wa_aload_n dX6_digest_17 rfl ?_
      refine wa_iload_n dX6_digest_18 rfl ?_
      refine wa_callV1 (k' := kX6_count) (d' := 0) dX6_digest_19 lmX6_238 kvX6_count (by first | assumption | rfl) (by rfl) (by decide) (by omega) (Nat.le_of_ble_eq_true rfl) ?_
      refine wp_X6_count (pk := pkN n8) hp.2.2.2.2.2.1 (pkN_le hp.2.1) (by omega) ?_
      refine wa_i2l dX6_digest_22 ?_
      refine wa_ladd dX6_digest_23 ?_
      refine wa_lstore_n dX6_digest_24 (by decide) ?_
      refine wa_iinc (nI 1) dX6_digest_25 rfl (by decide) (by decide) ?_
      refine wa_goto 6 dX6_digest_28 (by decide) ?_
      simp only [nI_add]; exact e_
  refine wa_ldc2 (139) dX6_digest_0 lcX6_234 ?_
  refine wa_lstore_n dX6_digest_3 (by decide) ?_
  refine wa_iconst (nI 0) dX6_digest_4 (by decide) ?_
  refine wa_istore_n dX6_digest_5 (by decide) ?_
  exact loop1 10 0 (by omega)
theorem pr_digest : PR kX5_digest kX6_digest [] := by
  intro N μ d c hd hc hN hrel
  obtain ⟨n_, hp_⟩ := hrel.2.2.1
  exact wp_X5_digest (by omega) hrel hp_ (wp_X6_digest (by omega) hrel hp_ ⟨rfl, hrel.up⟩)
