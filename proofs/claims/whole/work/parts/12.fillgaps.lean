/-! fill(): every GAP is closed where its end is met -/
def prvN (s : Nat → Int32) : Nat → Nat
  | 0 => 0
  | b + 1 => if (s b).toInt = 0 then prvN s b else b + 1
def fOk (s : Nat → Int32) (m : Int) (e : Nat) : Prop := ¬ (s e).toInt = 0 ∧ 0 < prvN s e ∧ (e : Int) - prvN s e ≤ m
def fOkB (s : Nat → Int32) (m : Int) (e : Nat) : Bool := decide (¬ (s e).toInt = 0 ∧ 0 < prvN s e ∧ (e : Int) - prvN s e ≤ m)
def fiV (s v : Nat → Int32) (m : Int) : Nat → (Nat → Int32)
  | 0 => v
  | e + 1 => if fOkB s m e = true then fbV (fiV s v m e) (prvN s e - 1) e e else fiV s v m e
def fiS (s : Nat → Int32) (m : Int) : Nat → (Nat → Int32)
  | 0 => s
  | e + 1 => if fOkB s m e = true then fbS (fiS s m e) (prvN s e - 1) e else fiS s m e
def fiC (s : Nat → Int32) (m : Int) : Nat → Nat
  | 0 => 0
  | e + 1 => if fOkB s m e = true then fiC s m e + (e - prvN s e) else fiC s m e
theorem prvN_le (s : Nat → Int32) : ∀ b, prvN s b ≤ b
  | 0 => Nat.le_refl 0
  | b + 1 => by
    have := prvN_le s b
    rw [prvN]
    split <;> omega
/-- behind the latest that stands, all are LOST -/
theorem prvN_gap (s : Nat → Int32) : ∀ b i, prvN s b ≤ i → i < b → (s i).toInt = 0
  | 0, i, _, h => by omega
  | b + 1, i, h1, h2 => by
    rw [prvN] at h1
    split at h1
    · rename_i hb
      by_cases hi : i = b
      · subst hi; exact hb
      · exact prvN_gap s b i h1 (by omega)
    · omega
theorem prvN_at (s : Nat → Int32) : ∀ b, 0 < prvN s b → ¬ (s (prvN s b - 1)).toInt = 0
  | 0, h => by simp [prvN] at h
  | b + 1, h => by
    rw [prvN] at h ⊢
    split at h
    · rename_i hb
      rw [if_pos hb]
      exact prvN_at s b h
    · rename_i hb
      rw [if_neg hb]
      simpa using hb
theorem fiS_ge (s : Nat → Int32) (m : Int) : ∀ e b, e ≤ b → fiS s m e b = s b
  | 0, b, _ => rfl
  | e + 1, b, h => by
    have ih := fiS_ge s m e b (by omega)
    rw [fiS]
    split
    · rw [fbS, if_neg (by omega)]
      exact ih
    · exact ih
theorem fiV_ge (s v : Nat → Int32) (m : Int) : ∀ e b, e ≤ b → fiV s v m e b = v b
  | 0, b, _ => rfl
  | e + 1, b, h => by
    have ih := fiV_ge s v m e b (by omega)
    rw [fiV]
    split
    · rw [fbV, if_neg (by omega)]
      exact ih
    · exact ih
theorem fiC_le (s : Nat → Int32) (m : Int) : ∀ e, fiC s m e ≤ prvN s e
  | 0 => Nat.le_refl 0
  | e + 1 => by
    have ih := fiC_le s m e
    have h2 := prvN_le s e
    rw [fiC, prvN]
    by_cases h : (s e).toInt = 0
    · have : ¬ fOkB s m e = true := by
        intro q
        exact (of_decide_eq_true q).1 h
      rw [if_neg this, if_pos h]
      exact ih
    · rw [if_neg h]
      split <;> omega
theorem wp_X3_fillGaps {d t n : Nat} {g : Int32} {μ : Mem} {Q : QM} (ht : isS t) (hd : 1 ≤ d) (hn : μ.1 t 2 = nI n) (hn64 : n ≤ 64)
    (hQ : Q (some (.int (nI (fiC (μ.1 (t + 2)) g.toInt n)))) (bI (bI μ (t + 1) (fiV (μ.1 (t + 2)) (μ.1 (t + 1)) g.toInt n)) (t + 2) (fiS (μ.1 (t + 2)) g.toInt n))) : MW kX3_fillGaps d [.ref t, .int g] μ Q := by
  obtain ⟨hs0t, hs1t, hs2t, hs3t⟩ := isS_sh ht
  have hmt := isS_mod ht
  refine MW_of (by decide) [some (.ref t), some (.int g), none, none, none, none] rfl (Nat.le_of_ble_eq_true rfl) ?_
  generalize hs : μ.1 (t + 2) = s at hQ
  generalize hv : μ.1 (t + 1) = v at hQ
  have loop : ∀ m i (x : Int32), i + m = n → x.toInt = (prvN s i : Int) - 1 → WA kX3_fillGaps d Q 7 [some (.ref t), some (.int g), some (.int (nI (fiC s g.toInt i))), some (.int x), some (.int (nI i)), none] [] (bI (bI μ (t + 1) (fiV s v g.toInt i)) (t + 2) (fiS s g.toInt i)) := by
    intro m
    induction m with
    | zero =>
      intro i x hi hx
      obtain rfl : i = n := by omega
      refine wa_iload dX3_fillGaps_7 rfl ?_
      refine wa_aload_n dX3_fillGaps_9 rfl ?_
      refine wa_getI dX3_fillGaps_10 fgX3_30 (by first | assumption | rfl) (by rfl) ?_
      refine wa_ic_geT 64 dX3_fillGaps_13 (by decide) (by simp (disch := omega) only [bI_off]; rw [hn]; exact le_nI (by omega) (by omega)) ?_
      refine wa_iload_n dX3_fillGaps_64 rfl ?_
      refine wa_iret dX3_fillGaps_65 rfl ?_
      exact hQ
    | succ m ih =>
      intro i x hi hx
      have hp := prvN_le s i
      have hc := fiC_le s g.toInt i
      have eS : fiS s g.toInt i i = s i := fiS_ge s g.toInt i i (Nat.le_refl i)
      by_cases h0 : (s i).toInt = 0
      · have e := ih (i + 1) x (by omega) (by rw [prvN, if_pos h0]; exact hx)
        have hno : ¬ fOkB s g.toInt i = true := fun q => (of_decide_eq_true q).1 h0
        rw [fiC, fiV, fiS, if_neg hno, if_neg hno, if_neg hno] at e
        refine wa_iload dX3_fillGaps_7 rfl ?_
        refine wa_aload_n dX3_fillGaps_9 rfl ?_
        refine wa_getI dX3_fillGaps_10 fgX3_30 (by first | assumption | rfl) (by rfl) ?_
        refine wa_ic_geF 64 dX3_fillGaps_13 (by decide) (by simp (disch := omega) only [bI_off]; rw [hn]; exact nle_nI (by omega) (by omega)) ?_
        refine wa_aload_n dX3_fillGaps_16 rfl ?_
        refine wa_iload dX3_fillGaps_17 rfl ?_
        refine wa_callV1 (k' := kX3_isLost) (d' := 0) dX3_fillGaps_19 lmX3_53 kvX3_isLost (by first | assumption | rfl) (by rfl) (by decide) (by omega) (Nat.le_of_ble_eq_true rfl) ?_
        refine wp_X3_isLost (by assumption) rfl (by omega) (fun hl => ?_) (fun hl => absurd (by rw [rb1e, eS]; exact h0) hl)
        refine wa_if_neT 58 dX3_fillGaps_22 (by decide) (by decide) ?_
        refine wa_iinc (nI 1) dX3_fillGaps_58 rfl (by decide) (by decide) ?_
        refine wa_goto 7 dX3_fillGaps_61 (by decide) ?_
        simp only [nI_add]; exact e
      · have hnx : (nI i).toInt = ((prvN s (i + 1) : Nat) : Int) - 1 := by
          rw [prvN, if_neg h0, nI_toInt (by omega)]
          omega
        have e := ih (i + 1) (nI i) (by omega) hnx
        have hgap : nI i - x - nI 1 = nI (i - prvN s i) := by
          have hxx : x = nI (prvN s i) - nI 1 := by
            apply Int32.toInt_inj.mp
            rw [hx]
            by_cases hz : prvN s i = 0
            · rw [hz]
              decide
            · rw [pk_sub (by omega), nI_toInt (by omega)]
              omega
          rw [hxx, ← pk_sub hp]
          generalize nI i = p
          generalize nI (prvN s i) = q
          generalize nI 1 = r
          apply Int32.toBitVec_inj.mp
          simp only [Int32.toBitVec_sub]
          generalize p.toBitVec = p
          generalize q.toBitVec = q
          generalize r.toBitVec = r
          bv_omega
        by_cases hok : fOkB s g.toInt i = true
        · have hok2 := of_decide_eq_true hok
          rw [fiC, fiV, fiS, if_pos hok, if_pos hok, if_pos hok] at e
          refine wa_iload dX3_fillGaps_7 rfl ?_
          refine wa_aload_n dX3_fillGaps_9 rfl ?_
          refine wa_getI dX3_fillGaps_10 fgX3_30 (by first | assumption | rfl) (by rfl) ?_
          refine wa_ic_geF 64 dX3_fillGaps_13 (by decide) (by simp (disch := omega) only [bI_off]; rw [hn]; exact nle_nI (by omega) (by omega)) ?_
          refine wa_aload_n dX3_fillGaps_16 rfl ?_
          refine wa_iload dX3_fillGaps_17 rfl ?_
          refine wa_callV1 (k' := kX3_isLost) (d' := 0) dX3_fillGaps_19 lmX3_53 kvX3_isLost (by first | assumption | rfl) (by rfl) (by decide) (by omega) (Nat.le_of_ble_eq_true rfl) ?_
          refine wp_X3_isLost (by assumption) rfl (by omega) (fun hl => absurd (by rw [rb1e, eS] at hl; exact hl) h0) (fun hl => ?_)
          refine wa_if_neF 58 dX3_fillGaps_22 (by decide) (by decide) ?_
          refine wa_iload dX3_fillGaps_25 rfl ?_
          refine wa_iload_n dX3_fillGaps_27 rfl ?_
          refine wa_isub dX3_fillGaps_28 ?_
          refine wa_iconst (nI 1) dX3_fillGaps_29 (by decide) ?_
          refine wa_isub dX3_fillGaps_30 ?_
          refine wa_istore dX3_fillGaps_31 (by decide) ?_
          refine wa_iload_n dX3_fillGaps_33 rfl ?_
          refine wa_if_ltF 55 dX3_fillGaps_34 (by decide) (by omega) ?_
          refine wa_iload dX3_fillGaps_37 rfl ?_
          refine wa_iload_n dX3_fillGaps_39 rfl ?_
          refine wa_ic_gtF 55 dX3_fillGaps_40 (by decide) (by rw [hgap, nI_toInt (by omega)]; omega) ?_
          refine wa_aload_n dX3_fillGaps_43 rfl ?_
          refine wa_iload_n dX3_fillGaps_44 rfl ?_
          refine wa_iload dX3_fillGaps_45 rfl ?_
          refine wa_callV2 (k' := kX3_fillBetween) (d' := 0) dX3_fillGaps_47 lmX3_65 kvX3_fillBetween (by first | assumption | rfl) (by rfl) (by decide) (by omega) (Nat.le_of_ble_eq_true rfl) ?_
          refine wp_X3_fillBetween (a := prvN s i - 1) (by assumption) (by apply Int32.toInt_inj.mp; rw [hx, nI_toInt (by omega)]; omega) (by omega) (by omega) ?_
          refine wa_iload_n dX3_fillGaps_50 rfl ?_
          refine wa_iload dX3_fillGaps_51 rfl ?_
          refine wa_iadd dX3_fillGaps_53 ?_
          refine wa_istore_n dX3_fillGaps_54 (by decide) ?_
          refine wa_iload dX3_fillGaps_55 rfl ?_
          refine wa_istore_n dX3_fillGaps_57 (by decide) ?_
          refine wa_iinc (nI 1) dX3_fillGaps_58 rfl (by decide) (by decide) ?_
          refine wa_goto 7 dX3_fillGaps_61 (by decide) ?_
          simp (disch := omega) only [bI_off, rb1e, hgap, nI_add]
          rw [bI_comm _ _ _ (show t + 2 ≠ t + 1 by omega), bI_bI, bI_bI]
          refine WA.frg [true, true, true, true, true, false] ?_
          exact e
        · rw [fiC, fiV, fiS, if_neg hok, if_neg hok, if_neg hok] at e
          have hk : x.toInt < 0 ∨ g.toInt < (i : Int) - prvN s i := by
            by_cases h1 : x.toInt < 0
            · exact Or.inl h1
            · refine Or.inr ?_
              by_cases h2 : g.toInt < (i : Int) - prvN s i
              · exact h2
              · exact absurd (decide_eq_true ⟨h0, by omega, by omega⟩) hok
          refine wa_iload dX3_fillGaps_7 rfl ?_
          refine wa_aload_n dX3_fillGaps_9 rfl ?_
          refine wa_getI dX3_fillGaps_10 fgX3_30 (by first | assumption | rfl) (by rfl) ?_
          refine wa_ic_geF 64 dX3_fillGaps_13 (by decide) (by simp (disch := omega) only [bI_off]; rw [hn]; exact nle_nI (by omega) (by omega)) ?_
          refine wa_aload_n dX3_fillGaps_16 rfl ?_
          refine wa_iload dX3_fillGaps_17 rfl ?_
          refine wa_callV1 (k' := kX3_isLost) (d' := 0) dX3_fillGaps_19 lmX3_53 kvX3_isLost (by first | assumption | rfl) (by rfl) (by decide) (by omega) (Nat.le_of_ble_eq_true rfl) ?_
          refine wp_X3_isLost (by assumption) rfl (by omega) (fun hl => absurd (by rw [rb1e, eS] at hl; exact hl) h0) (fun hl => ?_)
          refine wa_if_neF 58 dX3_fillGaps_22 (by decide) (by decide) ?_
          refine wa_iload dX3_fillGaps_25 rfl ?_
          refine wa_iload_n dX3_fillGaps_27 rfl ?_
          refine wa_isub dX3_fillGaps_28 ?_
          refine wa_iconst (nI 1) dX3_fillGaps_29 (by decide) ?_
          refine wa_isub dX3_fillGaps_30 ?_
          refine wa_istore dX3_fillGaps_31 (by decide) ?_
          refine wa_iload_n dX3_fillGaps_33 rfl ?_
          refine wa_if_lt 55 dX3_fillGaps_34 (by decide) (fun c34_2 => ?_) (fun c34_2 => ?_)
          · try simp (disch := omega) only [nI_toInt, hgap] at c34_2
            refine wa_iload dX3_fillGaps_55 rfl ?_
            refine wa_istore_n dX3_fillGaps_57 (by decide) ?_
            refine wa_iinc (nI 1) dX3_fillGaps_58 rfl (by decide) (by decide) ?_
            refine wa_goto 7 dX3_fillGaps_61 (by decide) ?_
            refine WA.frg [true, true, true, true, true, false] ?_
            simp only [nI_add]
            exact e
          · try simp (disch := omega) only [nI_toInt, hgap] at c34_2
            refine wa_iload dX3_fillGaps_37 rfl ?_
            refine wa_iload_n dX3_fillGaps_39 rfl ?_
            refine wa_ic_gt 55 dX3_fillGaps_40 (by decide) (fun c40_3 => ?_) (fun c40_3 => ?_)
            · try simp (disch := omega) only [nI_toInt, hgap] at c40_3
              refine wa_iload dX3_fillGaps_55 rfl ?_
              refine wa_istore_n dX3_fillGaps_57 (by decide) ?_
              refine wa_iinc (nI 1) dX3_fillGaps_58 rfl (by decide) (by decide) ?_
              refine wa_goto 7 dX3_fillGaps_61 (by decide) ?_
              refine WA.frg [true, true, true, true, true, false] ?_
              simp only [nI_add]
              exact e
            · try simp (disch := omega) only [nI_toInt, hgap] at c40_3
              rw [nI_toInt (by omega)] at *; omega
  refine wa_iconst (nI 0) dX3_fillGaps_0 (by decide) ?_
  refine wa_istore_n dX3_fillGaps_1 (by decide) ?_
  refine wa_iconst (-1) dX3_fillGaps_2 (by decide) ?_
  refine wa_istore_n dX3_fillGaps_3 (by decide) ?_
  refine wa_iconst (nI 0) dX3_fillGaps_4 (by decide) ?_
  refine wa_istore dX3_fillGaps_5 (by decide) ?_
  have e0 := loop n 0 (-1) (by omega) (by rw [prvN]; decide)
  have e1 : bI (bI μ (t + 1) v) (t + 2) s = μ := by rw [← hs, ← hv, bI_self, bI_self]
  rw [fiV, fiS, e1] at e0
  exact e0
