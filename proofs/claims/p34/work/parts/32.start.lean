/-! THE START: the memory behind the constructor and the two arrays, and that their cells are it -/
def muZ : Mem := (fun t i => if t = 4 then (if i = 0 then nI 100 else if i = 1 then nI 50 else nI 0) else if t = 5 then (if i = 3 then nI 1 else nI 0) else nI 0, fun _ _ => 0)
/-- the law's two arrays, ahead of any number; behind them uM tells the script's address too -/
def wXY (G : WG) (qM : Nat) (uM : List Nat) : va_W := [(qM, .inl (G.2.2 2, 64, .inr (.inl (fun _ => 0)))), (uM.getD 0 0, .inl (G.2.2 2, 64, .inr (.inl (fun _ => 0))))]
theorem cell_congr {cA : ClassId} {n : Nat} {f g : Nat → Option Nat} (h : ∀ j, j < n → f j = g j) : vp_cell cA (n, .inr (.inr (.inr (.inr f)))) = vp_cell cA (n, .inr (.inr (.inr (.inr g)))) := by
  rw [vp_cell_q, vp_cell_q]
  have e_ : (fun j : Fin n => va_rf (f j.val)) = fun j : Fin n => va_rf (g j.val) := funext fun j => by rw [h j.val j.isLt]
  simp only [arrV]
  rw [e_]
/-- the address of each tag -/
def gF (h0 qa qb qp qw qm qM : Nat) (S Rw : Nat → Nat × List Nat) (u uM : List Nat) : Nat → Nat := fun t =>
  if t < 7 then (match t with
    | 0 => h0
    | 1 => qa
    | 2 => qb
    | 3 => qp
    | 4 => qw
    | 5 => qm
    | _ => u.getD 4 0)
  else if t < 39 then (match (t - 7) % 4 with
    | 0 => (S ((t - 7) / 4)).1
    | k + 1 => (S ((t - 7) / 4)).2.getD k 0)
  else if t < 43 then u.getD (t - 39) 0
  else if t < 73 then (match (t - 43) % 5 with
    | 0 => (Rw ((t - 43) / 5)).1
    | k + 1 => (Rw ((t - 43) / 5)).2.getD k 0)
  else if t = 73 then qM else uM.getD (t - 74) 0
/-- where each tag's cell lies in the list -/
def psF (t : Nat) : Nat := if t < 3 then t else if t = 3 then 65 else if t = 4 then 71 else if t = 5 then 72 else if t = 6 then 70 else if t < 39 then 3 + (t - 7) else if t < 43 then 66 + (t - 39) else if t < 73 then 35 + (t - 43) else t
theorem psF_inj0 : ∀ i, i < 75 → ∀ j, j < 75 → psF i = psF j → i = j := by decide +kernel
theorem psF_inj : ∀ i j, i < 75 → j < 75 → psF i = psF j → i = j := fun i j hi hj h => psF_inj0 i hi j hj h
def fsL (G : WG) (μ : Mem) (t : Nat) : Nat → List Value → List Value
  | _, [] => []
  | j, v :: vs => slotV G μ t j v :: fsL G μ t (j + 1) vs
theorem fsL_get {G : WG} {μ : Mem} {t : Nat} : ∀ (sl : List Value) (j i : Nat), (fsL G μ t j sl)[i]? = (sl[i]?).map (fun v => slotV G μ t (j + i) v)
  | [], j, i => by simp [fsL]
  | v :: vs, j, 0 => rfl
  | v :: vs, j, i + 1 => by
    have ih := fsL_get (G := G) (μ := μ) (t := t) vs (j + 1) i
    rw [fsL, List.getElem?_cons_succ, List.getElem?_cons_succ, ih, show j + 1 + i = j + (i + 1) by omega]
theorem fsOf_L {G : WG} {μ : Mem} {t : Nat} {sl : List Value} : fsOf G μ t sl = fsL G μ t 0 sl := by
  apply List.ext_getElem?
  intro i
  rw [fsL_get, fsOf, List.getElem?_mapIdx, Nat.zero_add]
def cellE (G : WG) (μ : Mem) (t : Nat) : va_E := match shp t with
  | .inl q => .inl (G.2.2 q.1, arOf G μ t q.1 q.2)
  | .inr q => .inr (q.1, fsL G μ t 0 q.2)
theorem cellE_of {G : WG} {μ : Mem} {t : Nat} : cellOf G μ t = cellE G μ t := by
  unfold cellOf cellE
  cases h : shp t with
  | inl q => rfl
  | inr q => simp only [fsOf_L]
theorem ap_at {x y : va_W} {n k : Nat} (h : x.length = n) : (x ++ y)[n + k]? = y[k]? := by
  rw [List.getElem?_append_right (by omega), show n + k - x.length = k by omega]
theorem gF_s {h0 qa qb qp qw qm qM : Nat} {S Rw : Nat → Nat × List Nat} {u uM : List Nat} {j : Nat} (hj : j < 8) : gF h0 qa qb qp qw qm qM S Rw u uM (7 + 4 * j) = (S j).1 := by
  unfold gF
  rw [if_neg (by omega), if_pos (by omega), show (7 + 4 * j - 7) % 4 = 0 by omega, show (7 + 4 * j - 7) / 4 = j by omega]
theorem gF_r {h0 qa qb qp qw qm qM : Nat} {S Rw : Nat → Nat × List Nat} {u uM : List Nat} {j : Nat} (hj : j < 6) : gF h0 qa qb qp qw qm qM S Rw u uM (43 + 5 * j) = (Rw j).1 := by
  unfold gF
  rw [if_neg (by omega), if_neg (by omega), if_neg (by omega), if_pos (by omega), show (43 + 5 * j - 43) % 5 = 0 by omega, show (43 + 5 * j - 43) / 5 = j by omega]
set_option maxHeartbeats 16000000 in
set_option maxRecDepth 100000 in
theorem made {G0 : WG} {A : Nat → Prop} {h0 qM : Nat} {L : va_W} {uM : List Nat} {H : Heap} (hr : rawX5 G0 h0 L) (hP : va_P G0.1 vwCl (L ++ wXY G0 qM uM) H) (hD : va_D A (L ++ wXY G0 qM uM)) : ∃ g : Nat → Nat, g 0 = h0 ∧ g 73 = qM ∧ g 74 = uM.getD 0 0 ∧ g 75 = uM.getD 1 0 ∧ wD (G0.1, g, G0.2.2) ∧ wP (G0.1, g, G0.2.2) muZ H ∧ ∀ t, t < 75 → A (g t) := by
  obtain ⟨qa, qb, f, f2, R, qp, u, qw, qm, hR, hsh, hrw, rfl⟩ := hr
  obtain ⟨S, hS⟩ : ∃ S : Nat → Nat × List Nat, ∀ j, j < 8 → f j = some (S j).1 ∧ ∀ k, k < 4 → R[4 * j + k]? = (wX3 G0 (S j).1 (S j).2)[k]? := by
    have h : ∀ j, ∃ x : Nat × List Nat, j < 8 → f j = some x.1 ∧ ∀ k, k < 4 → R[4 * j + k]? = (wX3 G0 x.1 x.2)[k]? := fun j => by
      by_cases hj : j < 8
      · obtain ⟨a, v, h1, h2⟩ := hsh j hj
        exact ⟨(a, v), fun _ => ⟨h1, h2⟩⟩
      · exact ⟨(0, []), fun q => absurd q hj⟩
    exact ⟨fun j => Classical.choose (h j), fun j => Classical.choose_spec (h j)⟩
  obtain ⟨T, hT⟩ : ∃ T : Nat → Nat × List Nat, ∀ j, j < 6 → f2 j = some (T j).1 ∧ ∀ k, k < 5 → R[32 + 5 * j + k]? = (wX2 G0 (T j).1 (T j).2)[k]? := by
    have h : ∀ j, ∃ x : Nat × List Nat, j < 6 → f2 j = some x.1 ∧ ∀ k, k < 5 → R[32 + 5 * j + k]? = (wX2 G0 x.1 x.2)[k]? := fun j => by
      by_cases hj : j < 6
      · obtain ⟨a, v, h1, h2⟩ := hrw j hj
        exact ⟨(a, v), fun _ => ⟨h1, h2⟩⟩
      · exact ⟨(0, []), fun q => absurd q hj⟩
    exact ⟨fun j => Classical.choose (h j), fun j => Classical.choose_spec (h j)⟩
  -- the arrays of references, told by the tags
  have hP1 := va_P.set (e := arS G0 8 3 (fun j => some (gF h0 qa qb qp qw qm qM S T u uM (arf 1 j)))) hP hD (p := 1) (a := qa) (e0 := arS G0 8 3 f) rfl (by
    have h := hP 1 (qa, arS G0 8 3 f) rfl
    have e_ : vp_cell (G0.2.2 3) (8, .inr (.inr (.inr (.inr f)))) = vp_cell (G0.2.2 3) (8, .inr (.inr (.inr (.inr (fun j => some (gF h0 qa qb qp qw qm qM S T u uM (arf 1 j))))))) := cell_congr (fun j hj => by
      rw [(hS j hj).1]
      show _ = some (gF h0 qa qb qp qw qm qM S T u uM (7 + 4 * j))
      rw [gF_s hj])
    show H[qa]? = some (vp_cell _ _)
    rw [← e_]
    exact h) (fun q _ => rfl)
  have hD1 := va_D.set (e := arS G0 8 3 (fun j => some (gF h0 qa qb qp qw qm qM S T u uM (arf 1 j)))) hD (p := 1) (a := qa) (e0 := arS G0 8 3 f) rfl
  have hP2 := va_P.set (e := arS G0 6 4 (fun j => some (gF h0 qa qb qp qw qm qM S T u uM (arf 2 j)))) hP1 hD1 (p := 2) (a := qb) (e0 := arS G0 6 4 f2) rfl (by
    have h := hP1 2 (qb, arS G0 6 4 f2) rfl
    have e_ : vp_cell (G0.2.2 4) (6, .inr (.inr (.inr (.inr f2)))) = vp_cell (G0.2.2 4) (6, .inr (.inr (.inr (.inr (fun j => some (gF h0 qa qb qp qw qm qM S T u uM (arf 2 j))))))) := cell_congr (fun j hj => by
      rw [(hT j hj).1]
      show _ = some (gF h0 qa qb qp qw qm qM S T u uM (43 + 5 * j))
      rw [gF_r hj])
    show H[qb]? = some (vp_cell _ _)
    rw [← e_]
    exact h) (fun q _ => rfl)
  have hD2 := va_D.set (e := arS G0 6 4 (fun j => some (gF h0 qa qb qp qw qm qM S T u uM (arf 2 j)))) hD1 (p := 2) (a := qb) (e0 := arS G0 6 4 f2) rfl
  generalize hL : (((((([(h0, .inr (5, [.ref qa, .ref qb, .ref qp, .ref qw, .ref qm])), (qa, arS G0 8 3 f), (qb, arS G0 6 4 f2)] ++ R) ++ wX1 G0 qp u) ++ wX4 G0 qw []) ++ wX0 G0 qm []) ++ wXY G0 qM uM).set 1 (qa, arS G0 8 3 (fun j => some (gF h0 qa qb qp qw qm qM S T u uM (arf 1 j))))).set 2 (qb, arS G0 6 4 (fun j => some (gF h0 qa qb qp qw qm qM S T u uM (arf 2 j)))) = L2 at hP2 hD2
  have hL2 : L2 = (((([(h0, .inr (5, [.ref qa, .ref qb, .ref qp, .ref qw, .ref qm])), (qa, arS G0 8 3 (fun j => some (gF h0 qa qb qp qw qm qM S T u uM (arf 1 j)))), (qb, arS G0 6 4 (fun j => some (gF h0 qa qb qp qw qm qM S T u uM (arf 2 j))))] ++ R) ++ wX1 G0 qp u) ++ wX4 G0 qw []) ++ wX0 G0 qm []) ++ wXY G0 qM uM := hL.symm
  generalize hpre : [(h0, Sum.inr (5, [Value.ref qa, Value.ref qb, Value.ref qp, Value.ref qw, Value.ref qm])), (qa, arS G0 8 3 (fun j => some (gF h0 qa qb qp qw qm qM S T u uM (arf 1 j)))), (qb, arS G0 6 4 (fun j => some (gF h0 qa qb qp qw qm qM S T u uM (arf 2 j))))] = pre at hL2
  have l3 : pre.length = 3 := by rw [← hpre]; rfl
  have l1 : (pre ++ R).length = 65 := by rw [List.length_append, l3, hR]
  have l2 : ((pre ++ R) ++ wX1 G0 qp u).length = 71 := by rw [List.length_append, l1]; rfl
  have l4 : (((pre ++ R) ++ wX1 G0 qp u) ++ wX4 G0 qw []).length = 72 := by rw [List.length_append, l2]; rfl
  have l5 : ((((pre ++ R) ++ wX1 G0 qp u) ++ wX4 G0 qw []) ++ wX0 G0 qm []).length = 73 := by rw [List.length_append, l4]; rfl
  have gP : ∀ k, k < 3 → L2[k]? = pre[k]? := fun k hk => by
    rw [hL2, List.getElem?_append_left (by omega), List.getElem?_append_left (by omega), List.getElem?_append_left (by omega), List.getElem?_append_left (by omega), List.getElem?_append_left (by omega)]
  have gR : ∀ k, k < 62 → L2[3 + k]? = R[k]? := fun k hk => by
    rw [hL2, List.getElem?_append_left (by omega), List.getElem?_append_left (by omega), List.getElem?_append_left (by omega), List.getElem?_append_left (by omega), ap_at l3]
  have g1 : ∀ k, k < 6 → L2[65 + k]? = (wX1 G0 qp u)[k]? := fun k hk => by
    rw [hL2, List.getElem?_append_left (by omega), List.getElem?_append_left (by omega), List.getElem?_append_left (by omega), ap_at l1]
  have g4 : L2[71]? = (wX4 G0 qw [])[0]? := by
    rw [hL2, List.getElem?_append_left (by omega), List.getElem?_append_left (by omega)]
    exact ap_at (k := 0) l2
  have g0 : L2[72]? = (wX0 G0 qm [])[0]? := by
    rw [hL2, List.getElem?_append_left (by omega)]
    exact ap_at (k := 0) l4
  have gM : ∀ k, k < 2 → L2[73 + k]? = (wXY G0 qM uM)[k]? := fun k hk => by
    rw [hL2, ap_at l5]
  clear hL hP hD hP1 hD1 hL2
  have claim : ∀ t, t < 75 → L2[psF t]? = some (gF h0 qa qb qp qw qm qM S T u uM t, cellE (G0.1, gF h0 qa qb qp qw qm qM S T u uM, G0.2.2) muZ t) := by
    intro t ht
    match t, ht with
    | 0, _ => exact (gP 0 (by decide)).trans (by rw [← hpre]; rfl)
    | 1, _ => exact (gP 1 (by decide)).trans (by rw [← hpre]; rfl)
    | 2, _ => exact (gP 2 (by decide)).trans (by rw [← hpre]; rfl)
    | 3, _ => exact (g1 0 (by decide)).trans rfl
    | 4, _ => exact g4.trans rfl
    | 5, _ => exact g0.trans rfl
    | 6, _ => exact (g1 5 (by decide)).trans rfl
    | 7, _ => exact (gR 0 (by decide)).trans (((hS 0 (by decide)).2 0 (by decide)).trans rfl)
    | 8, _ => exact (gR 1 (by decide)).trans (((hS 0 (by decide)).2 1 (by decide)).trans rfl)
    | 9, _ => exact (gR 2 (by decide)).trans (((hS 0 (by decide)).2 2 (by decide)).trans rfl)
    | 10, _ => exact (gR 3 (by decide)).trans (((hS 0 (by decide)).2 3 (by decide)).trans rfl)
    | 11, _ => exact (gR 4 (by decide)).trans (((hS 1 (by decide)).2 0 (by decide)).trans rfl)
    | 12, _ => exact (gR 5 (by decide)).trans (((hS 1 (by decide)).2 1 (by decide)).trans rfl)
    | 13, _ => exact (gR 6 (by decide)).trans (((hS 1 (by decide)).2 2 (by decide)).trans rfl)
    | 14, _ => exact (gR 7 (by decide)).trans (((hS 1 (by decide)).2 3 (by decide)).trans rfl)
    | 15, _ => exact (gR 8 (by decide)).trans (((hS 2 (by decide)).2 0 (by decide)).trans rfl)
    | 16, _ => exact (gR 9 (by decide)).trans (((hS 2 (by decide)).2 1 (by decide)).trans rfl)
    | 17, _ => exact (gR 10 (by decide)).trans (((hS 2 (by decide)).2 2 (by decide)).trans rfl)
    | 18, _ => exact (gR 11 (by decide)).trans (((hS 2 (by decide)).2 3 (by decide)).trans rfl)
    | 19, _ => exact (gR 12 (by decide)).trans (((hS 3 (by decide)).2 0 (by decide)).trans rfl)
    | 20, _ => exact (gR 13 (by decide)).trans (((hS 3 (by decide)).2 1 (by decide)).trans rfl)
    | 21, _ => exact (gR 14 (by decide)).trans (((hS 3 (by decide)).2 2 (by decide)).trans rfl)
    | 22, _ => exact (gR 15 (by decide)).trans (((hS 3 (by decide)).2 3 (by decide)).trans rfl)
    | 23, _ => exact (gR 16 (by decide)).trans (((hS 4 (by decide)).2 0 (by decide)).trans rfl)
    | 24, _ => exact (gR 17 (by decide)).trans (((hS 4 (by decide)).2 1 (by decide)).trans rfl)
    | 25, _ => exact (gR 18 (by decide)).trans (((hS 4 (by decide)).2 2 (by decide)).trans rfl)
    | 26, _ => exact (gR 19 (by decide)).trans (((hS 4 (by decide)).2 3 (by decide)).trans rfl)
    | 27, _ => exact (gR 20 (by decide)).trans (((hS 5 (by decide)).2 0 (by decide)).trans rfl)
    | 28, _ => exact (gR 21 (by decide)).trans (((hS 5 (by decide)).2 1 (by decide)).trans rfl)
    | 29, _ => exact (gR 22 (by decide)).trans (((hS 5 (by decide)).2 2 (by decide)).trans rfl)
    | 30, _ => exact (gR 23 (by decide)).trans (((hS 5 (by decide)).2 3 (by decide)).trans rfl)
    | 31, _ => exact (gR 24 (by decide)).trans (((hS 6 (by decide)).2 0 (by decide)).trans rfl)
    | 32, _ => exact (gR 25 (by decide)).trans (((hS 6 (by decide)).2 1 (by decide)).trans rfl)
    | 33, _ => exact (gR 26 (by decide)).trans (((hS 6 (by decide)).2 2 (by decide)).trans rfl)
    | 34, _ => exact (gR 27 (by decide)).trans (((hS 6 (by decide)).2 3 (by decide)).trans rfl)
    | 35, _ => exact (gR 28 (by decide)).trans (((hS 7 (by decide)).2 0 (by decide)).trans rfl)
    | 36, _ => exact (gR 29 (by decide)).trans (((hS 7 (by decide)).2 1 (by decide)).trans rfl)
    | 37, _ => exact (gR 30 (by decide)).trans (((hS 7 (by decide)).2 2 (by decide)).trans rfl)
    | 38, _ => exact (gR 31 (by decide)).trans (((hS 7 (by decide)).2 3 (by decide)).trans rfl)
    | 39, _ => exact (g1 1 (by decide)).trans rfl
    | 40, _ => exact (g1 2 (by decide)).trans rfl
    | 41, _ => exact (g1 3 (by decide)).trans rfl
    | 42, _ => exact (g1 4 (by decide)).trans rfl
    | 43, _ => exact (gR 32 (by decide)).trans (((hT 0 (by decide)).2 0 (by decide)).trans rfl)
    | 44, _ => exact (gR 33 (by decide)).trans (((hT 0 (by decide)).2 1 (by decide)).trans rfl)
    | 45, _ => exact (gR 34 (by decide)).trans (((hT 0 (by decide)).2 2 (by decide)).trans rfl)
    | 46, _ => exact (gR 35 (by decide)).trans (((hT 0 (by decide)).2 3 (by decide)).trans rfl)
    | 47, _ => exact (gR 36 (by decide)).trans (((hT 0 (by decide)).2 4 (by decide)).trans rfl)
    | 48, _ => exact (gR 37 (by decide)).trans (((hT 1 (by decide)).2 0 (by decide)).trans rfl)
    | 49, _ => exact (gR 38 (by decide)).trans (((hT 1 (by decide)).2 1 (by decide)).trans rfl)
    | 50, _ => exact (gR 39 (by decide)).trans (((hT 1 (by decide)).2 2 (by decide)).trans rfl)
    | 51, _ => exact (gR 40 (by decide)).trans (((hT 1 (by decide)).2 3 (by decide)).trans rfl)
    | 52, _ => exact (gR 41 (by decide)).trans (((hT 1 (by decide)).2 4 (by decide)).trans rfl)
    | 53, _ => exact (gR 42 (by decide)).trans (((hT 2 (by decide)).2 0 (by decide)).trans rfl)
    | 54, _ => exact (gR 43 (by decide)).trans (((hT 2 (by decide)).2 1 (by decide)).trans rfl)
    | 55, _ => exact (gR 44 (by decide)).trans (((hT 2 (by decide)).2 2 (by decide)).trans rfl)
    | 56, _ => exact (gR 45 (by decide)).trans (((hT 2 (by decide)).2 3 (by decide)).trans rfl)
    | 57, _ => exact (gR 46 (by decide)).trans (((hT 2 (by decide)).2 4 (by decide)).trans rfl)
    | 58, _ => exact (gR 47 (by decide)).trans (((hT 3 (by decide)).2 0 (by decide)).trans rfl)
    | 59, _ => exact (gR 48 (by decide)).trans (((hT 3 (by decide)).2 1 (by decide)).trans rfl)
    | 60, _ => exact (gR 49 (by decide)).trans (((hT 3 (by decide)).2 2 (by decide)).trans rfl)
    | 61, _ => exact (gR 50 (by decide)).trans (((hT 3 (by decide)).2 3 (by decide)).trans rfl)
    | 62, _ => exact (gR 51 (by decide)).trans (((hT 3 (by decide)).2 4 (by decide)).trans rfl)
    | 63, _ => exact (gR 52 (by decide)).trans (((hT 4 (by decide)).2 0 (by decide)).trans rfl)
    | 64, _ => exact (gR 53 (by decide)).trans (((hT 4 (by decide)).2 1 (by decide)).trans rfl)
    | 65, _ => exact (gR 54 (by decide)).trans (((hT 4 (by decide)).2 2 (by decide)).trans rfl)
    | 66, _ => exact (gR 55 (by decide)).trans (((hT 4 (by decide)).2 3 (by decide)).trans rfl)
    | 67, _ => exact (gR 56 (by decide)).trans (((hT 4 (by decide)).2 4 (by decide)).trans rfl)
    | 68, _ => exact (gR 57 (by decide)).trans (((hT 5 (by decide)).2 0 (by decide)).trans rfl)
    | 69, _ => exact (gR 58 (by decide)).trans (((hT 5 (by decide)).2 1 (by decide)).trans rfl)
    | 70, _ => exact (gR 59 (by decide)).trans (((hT 5 (by decide)).2 2 (by decide)).trans rfl)
    | 71, _ => exact (gR 60 (by decide)).trans (((hT 5 (by decide)).2 3 (by decide)).trans rfl)
    | 72, _ => exact (gR 61 (by decide)).trans (((hT 5 (by decide)).2 4 (by decide)).trans rfl)
    | 73, _ => exact (gM 0 (by decide)).trans rfl
    | 74, _ => exact (gM 1 (by decide)).trans rfl
    | n + 75, h => exact absurd h (by omega)
  refine ⟨gF h0 qa qb qp qw qm qM S T u uM, rfl, rfl, rfl, rfl, ?_, ?_, ?_⟩
  · intro i j hi hj hij
    exact psF_inj i j hi hj (hD2.1 _ _ _ _ (claim i hi) (claim j hj) hij)
  · intro k q hk
    obtain ⟨hk75, -⟩ := wsOf_at hk
    rw [wsOf_get hk75, cellE_of] at hk
    cases hk
    exact hP2 _ _ (claim k hk75)
  · intro t ht
    exact hD2.2 _ _ (claim t ht)
