/-! losing SPIKES, filling GAPS -/
def spF (s v : Nat → Int32) (n : Nat) (d : Int32) (old : Nat → Int32) (m : Nat) : Nat → Int32 := fun b => if b < m then (if isSp s v n d b = true then nI 1 else nI 0) else old b
theorem spF_0 (s v : Nat → Int32) (n : Nat) (d : Int32) (old : Nat → Int32) : spF s v n d old 0 = old := by
  funext b
  simp [spF]
theorem spF_s (s v : Nat → Int32) (n : Nat) (d : Int32) (old : Nat → Int32) (m : Nat) {x : Int32} (hx : x = if isSp s v n d m = true then nI 1 else nI 0) : upd (spF s v n d old m) m x = spF s v n d old (m + 1) := by
  funext b
  by_cases h : b = m
  · subst h
    simp [upd, spF, hx]
  · simp only [upd, spF, h, if_false]
    by_cases h2 : b < m
    · rw [if_pos h2, if_pos (show b < m + 1 by omega)]
    · rw [if_neg h2, if_neg (show ¬ b < m + 1 by omega)]
/-- what is lost where p says so, below m -/
def lsF (p : Nat → Bool) (f : Nat → Int32) (m : Nat) : Nat → Int32 := fun b => if b < m ∧ p b = true then nI 0 else f b
theorem lsF_0 (p : Nat → Bool) (f : Nat → Int32) : lsF p f 0 = f := by
  funext b
  simp [lsF]
theorem lsF_y {p : Nat → Bool} {f : Nat → Int32} {m : Nat} (h : p m = true) : upd (lsF p f m) m (nI 0) = lsF p f (m + 1) := by
  funext b
  by_cases hb : b = m
  · subst hb
    simp [upd, lsF, h]
  · simp only [upd, lsF, hb, if_false]
    congr 1
    exact propext ⟨fun q => ⟨by omega, q.2⟩, fun q => ⟨by omega, q.2⟩⟩
theorem lsF_n {p : Nat → Bool} {f : Nat → Int32} {m : Nat} (h : ¬ p m = true) : lsF p f m = lsF p f (m + 1) := by
  funext b
  simp only [lsF]
  congr 1
  refine propext ⟨fun q => ⟨by omega, q.2⟩, fun q => ⟨?_, q.2⟩⟩
  by_cases hb : b = m
  · subst hb
    exact absurd q.2 h
  · omega
def bcN (p : Nat → Bool) : Nat → Nat
  | 0 => 0
  | n + 1 => bcN p n + (if p n = true then 1 else 0)
theorem wp_X3_loseSpikes {d t n : Nat} {e : Int32} {μ : Mem} {Q : QM} (ht : isS t) (hd : 2 ≤ d) (hn : μ.1 t 2 = nI n) (hn64 : n ≤ 64)
    (hQ : Q (some (.int (nI (bcN (isSp (μ.1 (t + 2)) (μ.1 (t + 1)) n e) n)))) (bI (bI (bI μ (t + 3) (spF (μ.1 (t + 2)) (μ.1 (t + 1)) n e (μ.1 (t + 3)) n)) (t + 1) (lsF (isSp (μ.1 (t + 2)) (μ.1 (t + 1)) n e) (μ.1 (t + 1)) n)) (t + 2) (lsF (isSp (μ.1 (t + 2)) (μ.1 (t + 1)) n e) (μ.1 (t + 2)) n))) : MW kX3_loseSpikes d [.ref t, .int e] μ Q := by
  obtain ⟨hs0t, hs1t, hs2t, hs3t⟩ := isS_sh ht
  have hmt := isS_mod ht
  refine MW_of (by decide) [some (.ref t), some (.int e), none, none] rfl (Nat.le_of_ble_eq_true rfl) ?_
  generalize hp : isSp (μ.1 (t + 2)) (μ.1 (t + 1)) n e = p at hQ
  generalize hF : spF (μ.1 (t + 2)) (μ.1 (t + 1)) n e (μ.1 (t + 3)) = F at hQ
  have hFv : ∀ m b, b < m → F m b = if p b = true then nI 1 else nI 0 := fun m b h => by
    rw [← hF, ← hp, spF, if_pos h]
  have loop2 : ∀ m i, i + m = n → WA kX3_loseSpikes d Q 32 [some (.ref t), some (.int e), some (.int (nI (bcN p i))), some (.int (nI i))] [] (bI (bI (bI μ (t + 3) (F n)) (t + 1) (lsF p (μ.1 (t + 1)) i)) (t + 2) (lsF p (μ.1 (t + 2)) i)) := by
    intro m
    induction m with
    | zero =>
      intro i hi
      obtain rfl : i = n := by omega
      refine wa_iload_n dX3_loseSpikes_32 rfl ?_
      refine wa_aload_n dX3_loseSpikes_33 rfl ?_
      refine wa_getI dX3_loseSpikes_34 fgX3_30 (by first | assumption | rfl) (by rfl) ?_
      refine wa_ic_geT 63 dX3_loseSpikes_37 (by decide) (by simp (disch := omega) only [bI_off]; rw [hn]; exact le_nI (by omega) (by omega)) ?_
      refine wa_iload_n dX3_loseSpikes_63 rfl ?_
      refine wa_iret dX3_loseSpikes_64 rfl ?_
      exact hQ
    | succ m ih =>
      intro i hi
      have e := ih (i + 1) (by omega)
      by_cases hpi : p i = true
      · refine wa_iload_n dX3_loseSpikes_32 rfl ?_
        refine wa_aload_n dX3_loseSpikes_33 rfl ?_
        refine wa_getI dX3_loseSpikes_34 fgX3_30 (by first | assumption | rfl) (by rfl) ?_
        refine wa_ic_geF 63 dX3_loseSpikes_37 (by decide) (by simp (disch := omega) only [bI_off]; rw [hn]; exact nle_nI (by omega) (by omega)) ?_
        refine wa_aload_n dX3_loseSpikes_40 rfl ?_
        refine wa_getR dX3_loseSpikes_41 fgX3_18 (by first | assumption | rfl) (by rfl) ?_
        refine wa_iload_n dX3_loseSpikes_44 rfl ?_
        refine wa_zald _ dX3_loseSpikes_45 (by first | assumption | rfl) (by first | with_reducible rfl | with_reducible assumption | with_reducible exact ix_ma _ _ _ | with_reducible exact ix_maa _ _ _ _ | with_reducible exact ix_a _ _ | with_reducible exact ix_mama _ _ _ _ _) (by omega) ?_
        refine wa_if_eqF 57 dX3_loseSpikes_46 (by decide) (by simp (disch := omega) only [bI_off, rb1e]; rw [hFv _ _ (by omega), if_pos hpi]; decide) ?_
        refine wa_aload_n dX3_loseSpikes_49 rfl ?_
        refine wa_iload_n dX3_loseSpikes_50 rfl ?_
        refine wa_callV1 (k' := kX3_forget) (d' := 0) dX3_loseSpikes_51 lmX3_49 kvX3_forget (by first | assumption | rfl) (by rfl) (by decide) (by omega) (Nat.le_of_ble_eq_true rfl) ?_
        refine wp_X3_forget (by assumption) (by omega) ?_
        refine wa_iinc (nI 1) dX3_loseSpikes_54 rfl (by decide) (by decide) ?_
        refine wa_iinc (nI 1) dX3_loseSpikes_57 rfl (by decide) (by decide) ?_
        refine wa_goto 32 dX3_loseSpikes_60 (by decide) ?_
        rw [sIb2 _ _ _ _ _ (by omega), sIb, lsF_y hpi, lsF_y hpi]
        rw [bcN, if_pos hpi] at e
        simp only [nI_add]
        exact e
      · refine wa_iload_n dX3_loseSpikes_32 rfl ?_
        refine wa_aload_n dX3_loseSpikes_33 rfl ?_
        refine wa_getI dX3_loseSpikes_34 fgX3_30 (by first | assumption | rfl) (by rfl) ?_
        refine wa_ic_geF 63 dX3_loseSpikes_37 (by decide) (by simp (disch := omega) only [bI_off]; rw [hn]; exact nle_nI (by omega) (by omega)) ?_
        refine wa_aload_n dX3_loseSpikes_40 rfl ?_
        refine wa_getR dX3_loseSpikes_41 fgX3_18 (by first | assumption | rfl) (by rfl) ?_
        refine wa_iload_n dX3_loseSpikes_44 rfl ?_
        refine wa_zald _ dX3_loseSpikes_45 (by first | assumption | rfl) (by first | with_reducible rfl | with_reducible assumption | with_reducible exact ix_ma _ _ _ | with_reducible exact ix_maa _ _ _ _ | with_reducible exact ix_a _ _ | with_reducible exact ix_mama _ _ _ _ _) (by omega) ?_
        refine wa_if_eqT 57 dX3_loseSpikes_46 (by decide) (by simp (disch := omega) only [bI_off, rb1e]; rw [hFv _ _ (by omega), if_neg hpi]; decide) ?_
        refine wa_iinc (nI 1) dX3_loseSpikes_57 rfl (by decide) (by decide) ?_
        refine wa_goto 32 dX3_loseSpikes_60 (by decide) ?_
        rw [bcN, if_neg hpi, ← lsF_n hpi, ← lsF_n hpi] at e
        simp only [nI_add]
        exact e
  have loop1 : ∀ m i, i + m = n → WA kX3_loseSpikes d Q 2 [some (.ref t), some (.int e), some (.int (nI i)), none] [] (bI μ (t + 3) (F i)) := by
    intro m
    induction m with
    | zero =>
      intro i hi
      obtain rfl : i = n := by omega
      refine wa_iload_n dX3_loseSpikes_2 rfl ?_
      refine wa_aload_n dX3_loseSpikes_3 rfl ?_
      refine wa_getI dX3_loseSpikes_4 fgX3_30 (by first | assumption | rfl) (by rfl) ?_
      refine wa_ic_geT 28 dX3_loseSpikes_7 (by decide) (by simp (disch := omega) only [bI_off]; rw [hn]; exact le_nI (by omega) (by omega)) ?_
      refine wa_iconst (nI 0) dX3_loseSpikes_28 (by decide) ?_
      refine wa_istore_n dX3_loseSpikes_29 (by decide) ?_
      refine wa_iconst (nI 0) dX3_loseSpikes_30 (by decide) ?_
      refine wa_istore_n dX3_loseSpikes_31 (by decide) ?_
      have e := loop2 i 0 (by omega)
      rw [lsF_0, lsF_0] at e
      have e1 : bI (bI (bI μ (t + 3) (F i)) (t + 1) (μ.1 (t + 1))) (t + 2) (μ.1 (t + 2)) = bI μ (t + 3) (F i) := by
        have a1 := bI_self (bI μ (t + 3) (F i)) (t + 1)
        rw [bI_off (by omega)] at a1
        have a2 := bI_self (bI μ (t + 3) (F i)) (t + 2)
        rw [bI_off (by omega)] at a2
        rw [a1, a2]
      rw [e1] at e
      exact e
    | succ m ih =>
      intro i hi
      have e0 := ih (i + 1) (by omega)
      refine wa_iload_n dX3_loseSpikes_2 rfl ?_
      refine wa_aload_n dX3_loseSpikes_3 rfl ?_
      refine wa_getI dX3_loseSpikes_4 fgX3_30 (by first | assumption | rfl) (by rfl) ?_
      refine wa_ic_geF 28 dX3_loseSpikes_7 (by decide) (by simp (disch := omega) only [bI_off]; rw [hn]; exact nle_nI (by omega) (by omega)) ?_
      refine wa_aload_n dX3_loseSpikes_10 rfl ?_
      refine wa_getR dX3_loseSpikes_11 fgX3_18 (by first | assumption | rfl) (by rfl) ?_
      refine wa_iload_n dX3_loseSpikes_14 rfl ?_
      refine wa_aload_n dX3_loseSpikes_15 rfl ?_
      refine wa_iload_n dX3_loseSpikes_16 rfl ?_
      refine wa_iload_n dX3_loseSpikes_17 rfl ?_
      refine wa_callV2 (k' := kX3_isSpike) (d' := 1) dX3_loseSpikes_18 lmX3_45 kvX3_isSpike (by first | assumption | rfl) (by rfl) (by decide) (by omega) (Nat.le_of_ble_eq_true rfl) ?_
      refine wp_X3_isSpike (n := n) (by assumption) (by omega) (by simp (disch := omega) only [bI_off]; exact hn) (by assumption) (by omega) (fun hq => ?_) (fun hq => ?_)
      · skip
        refine wa_zast _ dX3_loseSpikes_21 (by first | assumption | rfl) (by first | with_reducible rfl | with_reducible assumption | with_reducible exact ix_ma _ _ _ | with_reducible exact ix_maa _ _ _ _ | with_reducible exact ix_a _ _ | with_reducible exact ix_mama _ _ _ _ _) (by omega) (Or.inr rfl) ?_
        refine wa_iinc (nI 1) dX3_loseSpikes_22 rfl (by decide) (by decide) ?_
        refine wa_goto 2 dX3_loseSpikes_25 (by decide) ?_
        simp (disch := omega) only [bI_off] at hq
        rw [hp] at hq
        rw [sIb, ← hF, spF_s _ _ _ _ _ _ (by rw [hp, if_pos hq]), hF]
        simp only [nI_add]
        exact e0
      · skip
        refine wa_zast _ dX3_loseSpikes_21 (by first | assumption | rfl) (by first | with_reducible rfl | with_reducible assumption | with_reducible exact ix_ma _ _ _ | with_reducible exact ix_maa _ _ _ _ | with_reducible exact ix_a _ _ | with_reducible exact ix_mama _ _ _ _ _) (by omega) (Or.inl rfl) ?_
        refine wa_iinc (nI 1) dX3_loseSpikes_22 rfl (by decide) (by decide) ?_
        refine wa_goto 2 dX3_loseSpikes_25 (by decide) ?_
        simp (disch := omega) only [bI_off] at hq
        rw [hp] at hq
        rw [sIb, ← hF, spF_s _ _ _ _ _ _ (by rw [hp, hq]; rfl), hF]
        simp only [nI_add]
        exact e0
  refine wa_iconst (nI 0) dX3_loseSpikes_0 (by decide) ?_
  refine wa_istore_n dX3_loseSpikes_1 (by decide) ?_
  have e0 := loop1 n 0 (by omega)
  rw [← hF, spF_0, bI_self] at e0
  exact e0
/-! filling straight -/
def flV (x y : Int32) (g j : Nat) : Int32 := (x.toInt64 + (y.toInt64 - x.toInt64) * (nI j).toInt64 / (nI g).toInt64).toInt32
def fbV (v : Nat → Int32) (a e lim : Nat) : Nat → Int32 := fun b => if a < b ∧ b < lim then flV (v a) (v e) (e - a) (b - a) else v b
def fbS (s : Nat → Int32) (a lim : Nat) : Nat → Int32 := fun b => if a < b ∧ b < lim then nI 2 else s b
theorem fbV_0 (v : Nat → Int32) (a e : Nat) : fbV v a e (a + 1) = v := by
  funext b
  simp only [fbV]
  rw [if_neg (by omega)]
theorem fbS_0 (v : Nat → Int32) (a : Nat) : fbS v a (a + 1) = v := by
  funext b
  simp only [fbS]
  rw [if_neg (by omega)]
theorem fbV_s {v : Nat → Int32} {a e j : Nat} (h : 1 ≤ j) : upd (fbV v a e (a + j)) (a + j) (flV (v a) (v e) (e - a) j) = fbV v a e (a + (j + 1)) := by
  funext b
  by_cases hb : b = a + j
  · subst hb
    simp only [upd, fbV, if_true]
    rw [if_pos (by omega), show a + j - a = j by omega]
  · simp only [upd, fbV, hb, if_false]
    congr 1
    exact propext ⟨fun q => ⟨q.1, by omega⟩, fun q => ⟨q.1, by omega⟩⟩
theorem fbS_s {v : Nat → Int32} {a j : Nat} (h : 1 ≤ j) : upd (fbS v a (a + j)) (a + j) (nI 2) = fbS v a (a + (j + 1)) := by
  funext b
  by_cases hb : b = a + j
  · subst hb
    simp only [upd, fbS, if_true]
    rw [if_pos (by omega)]
  · simp only [upd, fbS, hb, if_false]
    congr 1
    exact propext ⟨fun q => ⟨q.1, by omega⟩, fun q => ⟨q.1, by omega⟩⟩
theorem nIl_ne {n : Nat} (h : 0 < n) (h2 : n < 2 ^ 31) : ¬ (nI n).toInt64 = 0 := by
  intro q
  have := congrArg Int64.toInt q
  rw [Int32.toInt_toInt64, nI_toInt h2, z64] at this
  omega
theorem wp_X3_fillBetween {d t a e : Nat} {x : Int32} {μ : Mem} {Q : QM} (ht : isS t) (hx : x = nI a) (hae : a < e) (he : e < 64) (hQ : Q none (bI (bI μ (t + 1) (fbV (μ.1 (t + 1)) a e e)) (t + 2) (fbS (μ.1 (t + 2)) a e))) : MW kX3_fillBetween d [.ref t, .int x, .int (nI e)] μ Q := by
  obtain ⟨hs0t, hs1t, hs2t, hs3t⟩ := isS_sh ht
  have hmt := isS_mod ht
  subst hx
  refine MW_of (by decide) [some (.ref t), some (.int (nI a)), some (.int (nI e)), none, none, none, none, none, none] rfl (Nat.le_of_ble_eq_true rfl) ?_
  have loop : ∀ m j, j + m = e - a → 1 ≤ j → WA kX3_fillBetween d Q 27 [some (.ref t), some (.int (nI a)), some (.int (nI e)), some (.long (μ.1 (t + 1) a).toInt64), none, some (.long ((μ.1 (t + 1) e).toInt64 - (μ.1 (t + 1) a).toInt64)), none, some (.int (nI (e - a))), some (.int (nI j))] [] (bI (bI μ (t + 1) (fbV (μ.1 (t + 1)) a e (a + j))) (t + 2) (fbS (μ.1 (t + 2)) a (a + j))) := by
    intro m
    induction m with
    | zero =>
      intro j hj h1
      obtain rfl : j = e - a := by omega
      refine wa_iload dX3_fillBetween_27 rfl ?_
      refine wa_iload dX3_fillBetween_29 rfl ?_
      refine wa_ic_geT 72 dX3_fillBetween_31 (by decide) (le_nI (by omega) (by omega)) ?_
      refine wa_vret dX3_fillBetween_72 rfl ?_
      rw [show a + (e - a) = e by omega]; exact hQ
    | succ m ih =>
      intro j hj h1
      have e0 := ih (j + 1) (by omega) (by omega)
      refine wa_iload dX3_fillBetween_27 rfl ?_
      refine wa_iload dX3_fillBetween_29 rfl ?_
      refine wa_ic_geF 72 dX3_fillBetween_31 (by decide) (nle_nI (by omega) (by omega)) ?_
      refine wa_aload_n dX3_fillBetween_34 rfl ?_
      refine wa_getR dX3_fillBetween_35 fgX3_9 (by first | assumption | rfl) (by rfl) ?_
      refine wa_iload_n dX3_fillBetween_38 rfl ?_
      refine wa_iload dX3_fillBetween_39 rfl ?_
      refine wa_iadd dX3_fillBetween_41 ?_
      refine wa_lload_n dX3_fillBetween_42 rfl ?_
      refine wa_lload dX3_fillBetween_43 rfl ?_
      refine wa_iload dX3_fillBetween_45 rfl ?_
      refine wa_i2l dX3_fillBetween_47 ?_
      refine wa_lmul dX3_fillBetween_48 ?_
      refine wa_iload dX3_fillBetween_49 rfl ?_
      refine wa_i2l dX3_fillBetween_51 ?_
      refine wa_ldiv dX3_fillBetween_52 (nIl_ne (by omega) (by omega)) ?_
      refine wa_ladd dX3_fillBetween_53 ?_
      refine wa_l2i dX3_fillBetween_54 ?_
      refine wa_iast _ dX3_fillBetween_55 (by first | assumption | rfl) (by first | with_reducible rfl | with_reducible assumption | with_reducible exact ix_ma _ _ _ | with_reducible exact ix_maa _ _ _ _ | with_reducible exact ix_a _ _ | with_reducible exact ix_mama _ _ _ _ _) (by omega) ?_
      refine wa_aload_n dX3_fillBetween_56 rfl ?_
      refine wa_getR dX3_fillBetween_57 fgX3_15 (by first | assumption | rfl) (by rfl) ?_
      refine wa_iload_n dX3_fillBetween_60 rfl ?_
      refine wa_iload dX3_fillBetween_61 rfl ?_
      refine wa_iadd dX3_fillBetween_63 ?_
      refine wa_iconst (nI 2) dX3_fillBetween_64 (by decide) ?_
      refine wa_iast _ dX3_fillBetween_65 (by first | assumption | rfl) (by first | with_reducible rfl | with_reducible assumption | with_reducible exact ix_ma _ _ _ | with_reducible exact ix_maa _ _ _ _ | with_reducible exact ix_a _ _ | with_reducible exact ix_mama _ _ _ _ _) (by omega) ?_
      refine wa_iinc (nI 1) dX3_fillBetween_66 rfl (by decide) (by decide) ?_
      refine wa_goto 27 dX3_fillBetween_69 (by decide) ?_
      rw [sIb2 _ _ _ _ _ (by omega), sIb]
      have a1 := fbV_s (v := μ.1 (t + 1)) (a := a) (e := e) h1
      unfold flV at a1
      rw [a1, fbS_s h1]
      simp only [nI_add]
      exact e0
  refine wa_aload_n dX3_fillBetween_0 rfl ?_
  refine wa_getR dX3_fillBetween_1 fgX3_9 (by first | assumption | rfl) (by rfl) ?_
  refine wa_iload_n dX3_fillBetween_4 rfl ?_
  refine wa_iald _ dX3_fillBetween_5 (by first | assumption | rfl) (by first | with_reducible rfl | with_reducible assumption | with_reducible exact ix_ma _ _ _ | with_reducible exact ix_maa _ _ _ _ | with_reducible exact ix_a _ _ | with_reducible exact ix_mama _ _ _ _ _) (by omega) ?_
  refine wa_i2l dX3_fillBetween_6 ?_
  refine wa_lstore_n dX3_fillBetween_7 (by decide) ?_
  refine wa_aload_n dX3_fillBetween_8 rfl ?_
  refine wa_getR dX3_fillBetween_9 fgX3_9 (by first | assumption | rfl) (by rfl) ?_
  refine wa_iload_n dX3_fillBetween_12 rfl ?_
  refine wa_iald _ dX3_fillBetween_13 (by first | assumption | rfl) (by first | with_reducible rfl | with_reducible assumption | with_reducible exact ix_ma _ _ _ | with_reducible exact ix_maa _ _ _ _ | with_reducible exact ix_a _ _ | with_reducible exact ix_mama _ _ _ _ _) (by omega) ?_
  refine wa_i2l dX3_fillBetween_14 ?_
  refine wa_lload_n dX3_fillBetween_15 rfl ?_
  refine wa_lsub dX3_fillBetween_16 ?_
  refine wa_lstore dX3_fillBetween_17 (by decide) ?_
  refine wa_iload_n dX3_fillBetween_19 rfl ?_
  refine wa_iload_n dX3_fillBetween_20 rfl ?_
  refine wa_isub dX3_fillBetween_21 ?_
  refine wa_istore dX3_fillBetween_22 (by decide) ?_
  refine wa_iconst (nI 1) dX3_fillBetween_24 (by decide) ?_
  refine wa_istore dX3_fillBetween_25 (by decide) ?_
  have e0 := loop (e - a - 1) 1 (by omega) (by omega)
  rw [fbV_0, fbS_0, bI_self, bI_self, ← pk_sub (show a ≤ e by omega)] at e0
  exact e0
