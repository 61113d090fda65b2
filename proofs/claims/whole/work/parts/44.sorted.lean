/-! the class sorts its heights -/
theorem insP_lt {H : Nat → Int64} {h : Int64} : ∀ m i, insP H h m ≤ i → i < m → (H i).toInt < h.toInt
  | 0, i, _, h2 => absurd h2 (by omega)
  | m + 1, i, h1, h2 => by
    rw [insP] at h1
    by_cases hl : (H m).toInt < h.toInt
    · rw [if_pos hl] at h1
      by_cases hi : i = m
      · rw [hi]; exact hl
      · exact insP_lt m i h1 (by omega)
    · rw [if_neg hl] at h1
      omega
theorem insP_ge {H : Nat → Int64} {h : Int64} (m : Nat) : 0 < insP H h m → h.toInt ≤ (H (insP H h m - 1)).toInt := by
  induction m with
  | zero =>
    intro q
    exact absurd q (by simp [insP])
  | succ m ih =>
    intro q
    rw [insP] at q ⊢
    by_cases hl : (H m).toInt < h.toInt
    · rw [if_pos hl] at q ⊢
      exact ih q
    · rw [if_neg hl, Nat.add_sub_cancel]
      omega
def srtd (H : Nat → Int64) (m : Nat) : Prop := ∀ i j, i < j → j < m → (H j).toInt ≤ (H i).toInt
theorem insA_srt {H : Nat → Int64} {m : Nat} {h : Int64} (s : srtd H m) : srtd (insA H m h) (m + 1) := by
  intro i j hij hj
  have hP := insP_le H h m
  have hlt := insP_lt (H := H) (h := h) m
  have hge := insP_ge (H := H) (h := h) m
  simp only [insA]
  generalize insP H h m = P at *
  by_cases j1 : j < P
  · rw [if_pos j1, if_pos (by omega)]
    exact s i j hij (by omega)
  · rw [if_neg j1]
    by_cases j2 : j = P
    · rw [if_pos j2, if_pos (by omega)]
      have h1 := hge (by omega)
      by_cases hi : i = P - 1
      · rw [hi]; exact h1
      · have := s i (P - 1) (by omega) (by omega)
        omega
    · rw [if_neg j2, if_pos (by omega)]
      by_cases i1 : i < P
      · rw [if_pos i1]
        by_cases hi : i = j - 1
        · omega
        · exact s i (j - 1) (by omega) (by omega)
      · rw [if_neg i1]
        by_cases i2 : i = P
        · rw [if_pos i2]
          have := hlt (j - 1) (by omega) (by omega)
          omega
        · rw [if_neg i2, if_pos (by omega)]
          exact s (i - 1) (j - 1) (by omega) (by omega)
theorem insA_lsB (H : Nat → Int64) (m : Nat) (h : Int64) : (lsB (vZ (insA H m h)) (m + 1)).Perm (h.toInt :: lsB (vZ H) m) := by
  have e : lsB (vZ (insA H m h)) (m + 1) = lsB (insG (vZ H) (insP H h m) h.toInt) (m + 1) := lsB_c (fun i hi => by
    simp only [vZ, insA, insG]
    by_cases h1 : i < insP H h m
    · rw [if_pos h1, if_pos h1]
    · by_cases h2 : i = insP H h m
      · rw [if_neg h1, if_neg h1, if_pos h2, if_pos h2]
      · rw [if_neg h1, if_neg h1, if_neg h2, if_neg h2, if_pos (by omega)])
  rw [e]
  exact lsB_ins _ _ _ m (insP_le H h m)
theorem srtA_all (hs H : Nat → Int64) (w : Nat) : srtd (srtA hs H w) w ∧ (lsB (vZ (srtA hs H w)) w).Perm (lsB (vZ hs) w) := by
  induction w with
  | zero =>
    refine ⟨fun i j _ h => absurd h (by omega), ?_⟩
    rw [lsB, lsB]
  | succ w ih =>
    obtain ⟨h1, h2⟩ := ih
    have e : srtA hs H (w + 1) = insA (srtA hs H w) w (hs w) := rfl
    rw [e]
    have e2 : lsB (vZ hs) (w + 1) = (hs w).toInt :: lsB (vZ hs) w := by rw [lsB, vZ]
    rw [e2]
    generalize srtA hs H w = X at h1 h2 ⊢
    exact ⟨insA_srt h1, (insA_lsB X w (hs w)).trans (List.Perm.cons _ h2)⟩
/-- the class's sum of the first k of its sorted heights -/
theorem srtA_sum {hs H : Nat → Int64} {f k : Nat} (hk : k ≤ f) (hn : ∀ i, i < f → 0 ≤ (hs i).toInt) : sumZ (vZ (srtA hs H f)) k = selZ k (lsB (vZ hs) f) := by
  obtain ⟨h1, h2⟩ := srtA_all hs H f
  rw [← lsB_sum, ← lsB_take hk]
  rw [selZ_perm k (h2.symm.trans (List.reverse_perm _).symm)]
  refine (selZ_sorted k (lsB_sort h1) (fun x hx => ?_) (by rw [List.length_reverse, lsB_len]; exact hk)).symm
  obtain ⟨i, hi, rfl⟩ := lsB_mem (h2.mem_iff.mp (List.mem_reverse.mp hx))
  exact hn i hi
