/-! CHOOSING the greatest k times, and the first k of a list in order -/
def mxZ : List Int → Int
  | [] => -1
  | x :: l => max x (mxZ l)
def selZ : Nat → List Int → Int
  | 0, _ => 0
  | k + 1, l => mxZ l + selZ k (l.erase (mxZ l))
theorem mxZ_perm {l l' : List Int} (h : l.Perm l') : mxZ l = mxZ l' := by
  induction h with
  | nil => rfl
  | cons x _ ih => simp only [mxZ, ih]
  | swap x y l => simp only [mxZ]; omega
  | trans _ _ h1 h2 => exact h1.trans h2
theorem selZ_perm : ∀ k {l l' : List Int}, l.Perm l' → selZ k l = selZ k l'
  | 0, _, _, _ => rfl
  | k + 1, l, l', h => by
    rw [selZ, selZ, mxZ_perm h]
    rw [selZ_perm k (h.erase (mxZ l'))]
theorem mxZ_le : ∀ {l : List Int} {b : Int}, -1 ≤ b → (∀ x, x ∈ l → x ≤ b) → mxZ l ≤ b
  | [], b, hb, _ => hb
  | x :: l, b, hb, h => by
    have h1 := h x (List.mem_cons_self)
    have h2 := mxZ_le (l := l) hb (fun y hy => h y (List.mem_cons_of_mem _ hy))
    rw [mxZ]
    omega
theorem mxZ_ge : ∀ {l : List Int} {x : Int}, x ∈ l → x ≤ mxZ l
  | y :: l, x, h => by
    rw [mxZ]
    rcases List.mem_cons.mp h with h | h
    · omega
    · have := mxZ_ge h
      omega
/-- the first k of a list, the greatest first, are what is chosen k times -/
theorem selZ_sorted : ∀ k {l : List Int}, l.Pairwise (fun a b => b ≤ a) → (∀ x, x ∈ l → 0 ≤ x) → k ≤ l.length → selZ k l = (l.take k).sum
  | 0, _, _, _, _ => by simp [selZ]
  | k + 1, [], _, _, h => by simp at h
  | k + 1, x :: l, hp, hn, h => by
    have hx := hn x (List.mem_cons_self)
    have hp' := List.pairwise_cons.mp hp
    have e : mxZ (x :: l) = x := by
      have h1 := mxZ_ge (l := x :: l) (List.mem_cons_self)
      have h2 := mxZ_le (l := x :: l) (b := x) (by omega) (fun y hy => by
        rcases List.mem_cons.mp hy with h | h
        · omega
        · exact hp'.1 y h)
      omega
    rw [selZ, e, List.erase_cons_head, selZ_sorted k hp'.2 (fun y hy => hn y (List.mem_cons_of_mem _ hy)) (by simp at h; omega)]
    simp
