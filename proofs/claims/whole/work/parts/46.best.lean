/-! CHOOSING the greatest in an array, again and again -/
theorem mxZ_m1 (l : List Int) : -1 ≤ mxZ l := by
  cases l with
  | nil => exact Int.le_refl _
  | cons x l =>
    have := mxZ_m1 l
    rw [mxZ]
    omega
theorem mxZ_in : ∀ {l : List Int}, (∀ x, x ∈ l → 0 ≤ x) → l ≠ [] → mxZ l ∈ l
  | [], _, h => absurd rfl h
  | [x], h, _ => by
    have hx := h x List.mem_cons_self
    have e_ : mxZ [x] = x := by
      simp only [mxZ]
      omega
    rw [e_]
    exact List.mem_cons_self
  | x :: y :: l, h, _ => by
    have ih := mxZ_in (l := y :: l) (fun z hz => h z (List.mem_cons_of_mem _ hz)) (by simp)
    have e_ : mxZ (x :: y :: l) = max x (mxZ (y :: l)) := rfl
    by_cases hx : mxZ (y :: l) ≤ x
    · rw [e_, Int.max_eq_left hx]
      exact List.mem_cons_self
    · rw [e_, Int.max_eq_right (by omega)]
      exact List.mem_cons_of_mem _ ih
theorem mxZ_rep (R : List Int) : ∀ t, mxZ (List.replicate t (-1) ++ R) = mxZ R
  | 0 => rfl
  | t + 1 => by
    have ih := mxZ_rep R t
    have h1 := mxZ_m1 R
    rw [List.replicate_succ, List.cons_append, mxZ, ih]
    omega
theorem era_rep {m : Int} (hm : 0 ≤ m) (R : List Int) : ∀ t, (List.replicate t (-1) ++ R).erase m = List.replicate t (-1) ++ R.erase m
  | 0 => rfl
  | t + 1 => by
    rw [List.replicate_succ, List.cons_append, List.erase_cons_tail (by simp; omega), era_rep hm R t]
    rfl
theorem selZ_in {B : Int} (hB : 0 ≤ B) : ∀ k {l : List Int}, (∀ x, x ∈ l → 0 ≤ x ∧ x ≤ B) → k ≤ l.length → 0 ≤ selZ k l ∧ selZ k l ≤ k * B
  | 0, _, _, _ => by simp [selZ]
  | k + 1, l, h, hk => by
    have hne : l ≠ [] := by
      intro q
      rw [q] at hk
      simp at hk
    have hin := mxZ_in (fun x hx => (h x hx).1) hne
    have hb := h _ hin
    have ih := selZ_in hB k (l := l.erase (mxZ l)) (fun x hx => h x (List.mem_of_mem_erase hx)) (by rw [List.length_erase_of_mem hin]; omega)
    have e_ : ((k + 1 : Nat) : Int) * B = k * B + B := by grind
    rw [selZ, e_]
    omega
/-- where the greatest is, of the first w -/
def bsI (D : Nat → Int64) : Nat → Nat
  | 0 => 0
  | w + 1 => if (D (bsI D w)).toInt < (D w).toInt then w else bsI D w
theorem bsI_lt (D : Nat → Int64) : ∀ w, bsI D (w + 1) < w + 1
  | 0 => by
    rw [bsI, bsI]
    split <;> omega
  | w + 1 => by
    have := bsI_lt D w
    rw [bsI]
    split <;> omega
theorem bsI_mx {D : Nat → Int64} : ∀ {w : Nat}, (∀ i, i < w + 1 → -1 ≤ (D i).toInt) → vZ D (bsI D (w + 1)) = mxZ (lsB (vZ D) (w + 1))
  | 0, h => by
    have h0 := h 0 (by omega)
    have e_ : bsI D (0 + 1) = 0 := by
      have := bsI_lt D 0
      omega
    rw [e_, lsB, lsB, mxZ, mxZ]
    unfold vZ
    omega
  | w + 1, h => by
    have ih := bsI_mx (D := D) (w := w) (fun i hi => h i (by omega))
    have e_ : lsB (vZ D) (w + 1 + 1) = vZ D (w + 1) :: lsB (vZ D) (w + 1) := rfl
    rw [e_, mxZ, ← ih]
    have e2_ : bsI D (w + 1 + 1) = if (D (bsI D (w + 1))).toInt < (D (w + 1)).toInt then w + 1 else bsI D (w + 1) := rfl
    rw [e2_]
    unfold vZ
    split <;> omega
theorem lsB_at {H : Nat → Int} {b : Nat} : ∀ {m : Nat}, b < m → H b ∈ lsB H m
  | m + 1, h => by
    by_cases hb : b = m
    · rw [lsB, hb]
      exact List.mem_cons_self
    · exact List.mem_cons_of_mem _ (lsB_at (by omega))
theorem lsB_upd (D : Nat → Int64) (x : Int64) {b : Nat} : ∀ {m : Nat}, b < m → (lsB (vZ (vp_updL D b x)) m).Perm (x.toInt :: (lsB (vZ D) m).erase (vZ D b))
  | m + 1, h => by
    by_cases hb : b = m
    · subst hb
      have e1 : lsB (vZ (vp_updL D b x)) (b + 1) = x.toInt :: lsB (vZ D) b := by
        rw [lsB]
        congr 1
        · rw [vZ, vp_updL, if_pos rfl]
        · exact lsB_c (fun i hi => by rw [vZ, vZ, vp_updL, if_neg (by omega)])
      have e2 : lsB (vZ D) (b + 1) = vZ D b :: lsB (vZ D) b := rfl
      rw [e1, e2, List.erase_cons_head]
    · have ih := lsB_upd D x (b := b) (m := m) (by omega)
      have e1 : lsB (vZ (vp_updL D b x)) (m + 1) = vZ D m :: lsB (vZ (vp_updL D b x)) m := by
        rw [lsB]
        congr 1
        rw [vZ, vZ, vp_updL, if_neg (by omega)]
      have e2 : lsB (vZ D) (m + 1) = vZ D m :: lsB (vZ D) m := rfl
      have hin : vZ D b ∈ lsB (vZ D) m := lsB_at (by omega)
      rw [e1, e2]
      refine (ih.cons _).trans ((List.Perm.swap _ _ _).trans (List.Perm.cons _ ?_))
      by_cases he : vZ D m = vZ D b
      · rw [he, List.erase_cons_head]
        exact (List.perm_cons_erase hin).symm
      · rw [List.erase_cons_tail (by simpa using he)]
/-- one choice more -/
theorem sel_step {D : Nat → Int64} {f t k : Nat} {R : List Int} (hf : 0 < f) (hR : ∀ x, x ∈ R → 0 ≤ x) (hl : R.length = f - t) (ht : t < f) (hp : (lsB (vZ D) f).Perm (List.replicate t (-1) ++ R)) : ∃ R', (∀ x, x ∈ R' → 0 ≤ x) ∧ R'.length = f - (t + 1) ∧ (lsB (vZ (vp_updL D (bsI D f) (-1))) f).Perm (List.replicate (t + 1) (-1) ++ R') ∧ selZ (k + 1) R = (D (bsI D f)).toInt + selZ k R' := by
  have hne : R ≠ [] := by
    intro q
    rw [q] at hl
    simp at hl
    omega
  have hin := mxZ_in hR hne
  have hm0 := hR _ hin
  obtain ⟨w, rfl⟩ : ∃ w, f = w + 1 := ⟨f - 1, by omega⟩
  have hge : ∀ i, i < w + 1 → -1 ≤ (D i).toInt := by
    intro i hi
    have h1 : vZ D i ∈ lsB (vZ D) (w + 1) := lsB_at hi
    have h2 := hp.mem_iff.mp h1
    rcases List.mem_append.mp h2 with h | h
    · have := List.eq_of_mem_replicate h
      unfold vZ at this
      omega
    · have := hR _ h
      unfold vZ at this
      omega
  have hbest : vZ D (bsI D (w + 1)) = mxZ R := by
    rw [bsI_mx hge, mxZ_perm hp, mxZ_rep]
  refine ⟨R.erase (mxZ R), fun x hx => hR x (List.mem_of_mem_erase hx), by rw [List.length_erase_of_mem hin]; omega, ?_, ?_⟩
  · have h1 := lsB_upd D (-1) (b := bsI D (w + 1)) (m := w + 1) (bsI_lt D w)
    rw [hbest] at h1
    refine h1.trans ?_
    rw [List.replicate_succ, List.cons_append]
    have e_ : (-1 : Int64).toInt = -1 := by decide
    rw [e_]
    refine List.Perm.cons _ ?_
    rw [← era_rep hm0]
    exact hp.erase _
  · have e_ : (D (bsI D (w + 1))).toInt = mxZ R := hbest
    rw [selZ, e_]
/-! the heights are none below 0, and not too great -/
theorem gm_in {v : Nat → Int64} {n a : Nat} (hb : inB v n 4000000000000000) (ha : a < n) : ∀ m, a + m ≤ n → (-4000000000000000 ≤ (gmn v a m).toInt ∧ (gmn v a m).toInt ≤ (gmx v a m).toInt ∧ (gmx v a m).toInt ≤ 4000000000000000)
  | 0, _ => by
    have := hb a ha
    rw [gmn, gmx]
    omega
  | m + 1, q => by
    have ih := gm_in hb ha m (by omega)
    have := hb (a + m) (by omega)
    rw [gmn, gmx, mnL, mxL]
    split <;> split <;> omega
theorem hWv_in {v : Nat → Int64} {n w : Nat} (hb : inB v n 4000000000000000) (hw : w < wvN v n) : 0 ≤ (hWv v n w).toInt ∧ (hWv v n w).toInt ≤ 8000000000000000 := by
  have hw2 := wvN_lt hw
  have hab := posU_inc v n w hw2
  have hbb := posU_lt v n (w + 1) hw2
  have h := gm_in hb (a := posU v n w) (by omega) (posU v n (w + 1) - posU v n w) (by omega)
  have e_ : hWv v n w = gmx v (posU v n w) (posU v n (w + 1) - posU v n w) - gmn v (posU v n w) (posU v n (w + 1) - posU v n w) := rfl
  rw [e_]
  generalize gmx v (posU v n w) (posU v n (w + 1) - posU v n w) = X at h ⊢
  generalize gmn v (posU v n w) (posU v n (w + 1) - posU v n w) = Y at h ⊢
  have e2_ : (X - Y).toInt = X.toInt - Y.toInt := by
    rw [z_to X, z_to Y, ← Int64.ofInt_sub, Int64.ofInt_toInt, Int64.ofInt_toInt]
    exact zin (by omega) (by omega)
  rw [e2_]
  omega
theorem upN_pred (v : Nat → Int64) : ∀ n, upN v (n + 1) ≤ n
  | 0 => by
    have e_ : upB v 0 = false := decide_eq_false (fun q => by
      have := q.2
      rw [sideV] at this
      exact absurd this (by decide))
    rw [upN, e_]
    simp [upN]
  | n + 1 => by
    have := upN_pred v n
    rw [upN]
    split <;> omega
/-! divisors -/
theorem lN_nI {n : Nat} (h : n < 2 ^ 31) : (nI n).toInt64 = lN n := by
  apply Int64.toInt_inj.mp
  rw [Int32.toInt_toInt64, nI_toInt h, lN_toInt63 (by omega)]
theorem cdB_lN {A k d : Nat} (hA : A < 2 ^ 63) (h0 : 0 < d) (hd : d < 2 ^ 31) : cdB (lN A) k d = decide (k % d = 0 ∧ A % d = 0) := by
  unfold cdB
  congr 1
  rw [lN_nI hd, pk_lRem hA h0 (by omega), lN_toInt63 (by have := Nat.mod_lt A h0; omega)]
  exact propext ⟨fun q => ⟨q.1, by omega⟩, fun q => ⟨q.1, by omega⟩⟩
theorem cdF_gcd {A k : Nat} (hA : A < 2 ^ 63) (hk : 1 ≤ k) (hk2 : k < 2 ^ 31) : ∀ m, m ≤ k → Nat.gcd A k ≤ m → cdF (lN A) k m = Nat.gcd A k
  | 0, _, h => by
    have := Nat.gcd_pos_of_pos_right A (show 0 < k by omega)
    omega
  | m + 1, hm, h => by
    have hp := Nat.gcd_pos_of_pos_right A (show 0 < k by omega)
    rw [cdF]
    by_cases h0 : m = 0
    · rw [if_pos h0]
      omega
    · rw [if_neg h0, cdB_lN hA (by omega) (by omega)]
      by_cases hc : k % (m + 1) = 0 ∧ A % (m + 1) = 0
      · rw [if_pos (decide_eq_true hc)]
        have h1 : m + 1 ∣ Nat.gcd A k := Nat.dvd_gcd (Nat.dvd_of_mod_eq_zero hc.2) (Nat.dvd_of_mod_eq_zero hc.1)
        have h2 := Nat.le_of_dvd hp h1
        omega
      · rw [if_neg (fun q => hc (of_decide_eq_true q))]
        refine cdF_gcd hA hk hk2 m (by omega) ?_
        by_cases he : Nat.gcd A k = m + 1
        · have h1 := Nat.gcd_dvd_left A k
          have h2 := Nat.gcd_dvd_right A k
          rw [he] at h1 h2
          exact absurd ⟨Nat.mod_eq_zero_of_dvd h2, Nat.mod_eq_zero_of_dvd h1⟩ hc
        · omega
