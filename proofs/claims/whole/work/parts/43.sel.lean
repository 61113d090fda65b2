/-! CHOOSING the greatest k times, and the first k of a list in order -/
def mxZ : List Int → Int
  | [] => -1
  | x :: l => max x (mxZ l)
def selZ : Nat → List Int → Int
  | 0, _ => 0
  | k + 1, l => mxZ l + selZ k (l.erase (mxZ l))
theorem mxZ_perm {l l' : List Int} (h : l.Perm l') : mxZ l = mxZ l' := by
  induction h with
  | nil => rfl
  | cons x _ ih => simp only [mxZ, ih]
  | swap x y l => simp only [mxZ]; omega
  | trans _ _ h1 h2 => exact h1.trans h2
theorem selZ_perm : ∀ k {l l' : List Int}, l.Perm l' → selZ k l = selZ k l'
  | 0, _, _, _ => rfl
  | k + 1, l, l', h => by
    rw [selZ, selZ, mxZ_perm h]
    rw [selZ_perm k (h.erase (mxZ l'))]
theorem mxZ_le : ∀ {l : List Int} {b : Int}, -1 ≤ b → (∀ x, x ∈ l → x ≤ b) → mxZ l ≤ b
  | [], b, hb, _ => hb
  | x :: l, b, hb, h => by
    have h1 := h x (List.mem_cons_self)
    have h2 := mxZ_le (l := l) hb (fun y hy => h y (List.mem_cons_of_mem _ hy))
    rw [mxZ]
    omega
theorem mxZ_ge : ∀ {l : List Int} {x : Int}, x ∈ l → x ≤ mxZ l
  | y :: l, x, h => by
    rw [mxZ]
    rcases List.mem_cons.mp h with h | h
    · omega
    · have := mxZ_ge h
      omega
/-- the first k of a list, the greatest first, are what is chosen k times -/
theorem selZ_sorted : ∀ k {l : List Int}, l.Pairwise (fun a b => b ≤ a) → (∀ x, x ∈ l → 0 ≤ x) → k ≤ l.length → selZ k l = (l.take k).sum
  | 0, _, _, _, _ => by simp [selZ]
  | k + 1, [], _, _, h => by simp at h
  | k + 1, x :: l, hp, hn, h => by
    have hx := hn x (List.mem_cons_self)
    have hp' := List.pairwise_cons.mp hp
    have e : mxZ (x :: l) = x := by
      have h1 := mxZ_ge (l := x :: l) (List.mem_cons_self)
      have h2 := mxZ_le (l := x :: l) (b := x) (by omega) (fun y hy => by
        rcases List.mem_cons.mp hy with h | h
        · omega
        · exact hp'.1 y h)
      omega
    rw [selZ, e, List.erase_cons_head, selZ_sorted k hp'.2 (fun y hy => hn y (List.mem_cons_of_mem _ hy)) (by simp at h; omega)]
    simp
/-- the first m values, the last first -/
def lsB (H : Nat → Int) : Nat → List Int
  | 0 => []
  | m + 1 => H m :: lsB H m
theorem lsB_c {H G : Nat → Int} : ∀ {m : Nat}, (∀ i, i < m → H i = G i) → lsB H m = lsB G m
  | 0, _ => rfl
  | m + 1, h => by rw [lsB, lsB, h m (by omega), lsB_c (fun i hi => h i (by omega))]
theorem lsB_len (H : Nat → Int) : ∀ m, (lsB H m).length = m
  | 0 => rfl
  | m + 1 => by rw [lsB, List.length_cons, lsB_len H m]
def insG (H : Nat → Int) (P : Nat) (h : Int) : Nat → Int := fun i => if i < P then H i else if i = P then h else H (i - 1)
theorem lsB_ins (H : Nat → Int) (P : Nat) (h : Int) : ∀ m, P ≤ m → (lsB (insG H P h) (m + 1)).Perm (h :: lsB H m) := by
  intro m
  induction m with
  | zero =>
    intro hP
    obtain rfl : P = 0 := by omega
    exact List.Perm.refl _
  | succ m ih =>
    intro hP
    by_cases hPm : P = m + 1
    · have e1 : insG H P h (m + 1) = h := by
        simp only [insG]
        rw [if_neg (by omega), if_pos hPm.symm]
      have e2 : lsB (insG H P h) (m + 1) = lsB H (m + 1) := lsB_c (fun i hi => by
        simp only [insG]
        rw [if_pos (by omega)])
      rw [lsB, e1, e2]
    · have e1 : insG H P h (m + 1) = H m := by
        simp only [insG]
        rw [if_neg (by omega), if_neg (by omega)]
        rfl
      rw [lsB, e1]
      exact ((ih (by omega)).cons (H m)).trans (List.Perm.swap _ _ _)
theorem lsB_mem {H : Nat → Int} {x : Int} : ∀ {m : Nat}, x ∈ lsB H m → ∃ i, i < m ∧ x = H i
  | m + 1, h => by
    rcases List.mem_cons.mp h with h | h
    · exact ⟨m, by omega, h⟩
    · obtain ⟨i, hi, e⟩ := lsB_mem h
      exact ⟨i, by omega, e⟩
theorem lsB_sort {H : Nat → Int} : ∀ {m : Nat}, (∀ i j, i < j → j < m → H j ≤ H i) → ((lsB H m).reverse).Pairwise (fun a b => b ≤ a)
  | 0, _ => List.Pairwise.nil
  | m + 1, h => by
    rw [lsB, List.reverse_cons, List.pairwise_append]
    refine ⟨lsB_sort (fun i j h1 h2 => h i j h1 (by omega)), List.pairwise_singleton _ _, fun a ha b hb => ?_⟩
    obtain ⟨i, hi, rfl⟩ := lsB_mem (List.mem_reverse.mp ha)
    rw [List.mem_singleton.mp hb]
    exact h i m hi (by omega)
theorem lsB_take {H : Nat → Int} : ∀ {m k : Nat}, k ≤ m → ((lsB H m).reverse).take k = (lsB H k).reverse
  | 0, k, h => by
    obtain rfl : k = 0 := by omega
    rfl
  | m + 1, k, h => by
    by_cases hk : k = m + 1
    · rw [hk]
      exact List.take_of_length_le (by rw [List.length_reverse, lsB_len]; omega)
    · rw [lsB, List.reverse_cons, List.take_append_of_le_length (by rw [List.length_reverse, lsB_len]; omega)]
      exact lsB_take (by omega)
theorem lsB_sum (H : Nat → Int) : ∀ k, ((lsB H k).reverse).sum = sumZ H k
  | 0 => rfl
  | k + 1 => by
    rw [lsB, List.reverse_cons, List.sum_append, lsB_sum H k, sumZ]
    simp
