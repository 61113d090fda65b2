/-! WHAT HOLDS between the class and the model -/
def st3 (x : Int32) : Prop := x = nI 0 ∨ x = nI 1 ∨ x = nI 2
def RelS (μ : Mem) (j n : Nat) : Prop := (μ.1 (7 + 4 * j) 0 = nI 0 ∨ μ.1 (7 + 4 * j) 0 = nI 1) ∧ st3 (μ.1 (7 + 4 * j) 1) ∧ μ.1 (7 + 4 * j) 2 = nI n ∧ n ≤ 64 ∧ (j < 8 → μ.1 74 j = μ.1 (7 + 4 * j) 0) ∧ μ.1 75 j = μ.1 (7 + 4 * j) 1 ∧ μ.1 76 j = nI n ∧ (∀ i, i < n → ¬ μ.1 (7 + 4 * j + 2) i = nI 0 → μ.1 78 (64 * j + i) = μ.1 (7 + 4 * j + 1) i) ∧ (∀ i, i < n → μ.1 77 (64 * j + i) = μ.1 (7 + 4 * j + 2) i) ∧ (∀ i, i < n → st3 (μ.1 (7 + 4 * j + 2) i))
def RelR (μ : Mem) (r n : Nat) : Prop := μ.1 (43 + 5 * r) 0 = nI n ∧ n ≤ 64 ∧ μ.1 79 r = nI n ∧ (∀ i, i < n → μ.2 80 (64 * r + i) = μ.2 (43 + 5 * r + 1) i) ∧ inB (μ.2 (43 + 5 * r + 1)) n 4000000000000000
def RelP (μ : Mem) (n : Nat) : Prop := μ.1 39 2 = nI n ∧ n ≤ 64 ∧ (μ.1 39 0 = nI 0 ∨ μ.1 39 0 = nI 1) ∧ μ.1 73 8 = μ.1 39 0 ∧ (μ.1 39 0 = nI 0 → n = 0) ∧ μ.1 73 9 = nI (pkN n) ∧ (∀ p, p < pkN n → μ.1 82 p = μ.1 6 p) ∧ (∀ p, p < 10 → μ.1 6 p = nI 0 ∨ μ.1 6 p = nI 1) ∧ (∀ p, pkN n ≤ p → p < 10 → μ.1 6 p = nI 0)
def RelW (N : Nat) (μ : Mem) : Prop := ∃ h c a : Nat, h ≤ N ∧ c ≤ h ∧ a ≤ h ∧ (c = 0 ↔ a = 0) ∧ μ.1 73 11 = μ.1 4 0 ∧ μ.1 73 12 = μ.1 4 1 ∧ μ.1 73 13 = μ.1 4 2 ∧ μ.1 73 17 = μ.1 4 3 ∧ μ.1 4 4 = nI h ∧ μ.1 73 14 = nI h ∧ μ.1 4 5 = nI c ∧ μ.1 73 15 = nI c ∧ μ.1 4 6 = nI a ∧ μ.1 73 16 = nI a
def RelM (N : Nat) (μ : Mem) : Prop := ∃ p o : Nat, p ≤ N ∧ o ≤ p ∧ μ.2 5 0 = (μ.1 73 18).toInt64 ∧ μ.2 5 1 = (μ.1 73 19).toInt64 ∧ μ.2 5 2 = (μ.1 73 20).toInt64 ∧ μ.1 5 3 = μ.1 73 21 ∧ (-1000000 ≤ (μ.1 73 18).toInt ∧ (μ.1 73 18).toInt ≤ 1000000) ∧ (-1000000 ≤ (μ.1 73 19).toInt ∧ (μ.1 73 19).toInt ≤ 1000000) ∧ (0 ≤ (μ.1 73 20).toInt ∧ (μ.1 73 20).toInt ≤ 1000000) ∧ 1 ≤ (μ.1 73 21).toInt ∧ μ.1 5 4 = nI p ∧ μ.1 73 22 = nI p ∧ μ.1 5 5 = nI o ∧ μ.1 73 23 = nI o ∧ μ.1 73 24 = μ.1 5 6 ∧ μ.1 73 25 = μ.1 5 7 ∧ μ.1 73 26 = μ.1 5 8 ∧ μ.1 73 27 = μ.1 5 9
def Rel (N : Nat) (μ : Mem) : Prop := (∀ j, j < 9 → ∃ n, RelS μ j n) ∧ (∀ r, r < 6 → ∃ n, RelR μ r n) ∧ (∃ n, RelP μ n) ∧ RelW N μ ∧ RelM N μ
/-! what stays -/
def FS (μ ν : Mem) (j : Nat) : Prop := ν.1 (7 + 4 * j) = μ.1 (7 + 4 * j) ∧ ν.1 (7 + 4 * j + 1) = μ.1 (7 + 4 * j + 1) ∧ ν.1 (7 + 4 * j + 2) = μ.1 (7 + 4 * j + 2) ∧ ν.1 74 j = μ.1 74 j ∧ ν.1 75 j = μ.1 75 j ∧ ν.1 76 j = μ.1 76 j ∧ (∀ i, i < 64 → ν.1 77 (64 * j + i) = μ.1 77 (64 * j + i)) ∧ (∀ i, i < 64 → ν.1 78 (64 * j + i) = μ.1 78 (64 * j + i))
def FR (μ ν : Mem) (r : Nat) : Prop := ν.1 (43 + 5 * r) = μ.1 (43 + 5 * r) ∧ ν.2 (43 + 5 * r + 1) = μ.2 (43 + 5 * r + 1) ∧ ν.1 79 r = μ.1 79 r ∧ (∀ i, i < 64 → ν.2 80 (64 * r + i) = μ.2 80 (64 * r + i))
def FP (μ ν : Mem) : Prop := ν.1 39 = μ.1 39 ∧ ν.1 73 8 = μ.1 73 8 ∧ ν.1 73 9 = μ.1 73 9 ∧ ν.1 82 = μ.1 82 ∧ ν.1 6 = μ.1 6
def FW (μ ν : Mem) : Prop := ν.1 4 = μ.1 4 ∧ ∀ q, 11 ≤ q → q < 18 → ν.1 73 q = μ.1 73 q
def FM (μ ν : Mem) : Prop := ν.1 5 = μ.1 5 ∧ ν.2 5 = μ.2 5 ∧ ∀ q, 18 ≤ q → q < 28 → ν.1 73 q = μ.1 73 q
theorem RelS.fr {μ ν : Mem} {j n : Nat} (f : FS μ ν j) (h : RelS μ j n) : RelS ν j n := by
  obtain ⟨f1, f2, f3, f4, f5, f6, f7, f8⟩ := f
  obtain ⟨h1, h2, h3, h4, h5, h6, h7, h8, h9, h10⟩ := h
  unfold RelS
  rw [f1, f2, f3, f4, f5, f6]
  exact ⟨h1, h2, h3, h4, h5, h6, h7, fun i hi q => (f8 i (by omega)).trans (h8 i hi q), fun i hi => (f7 i (by omega)).trans (h9 i hi), h10⟩
theorem RelR.fr {μ ν : Mem} {r n : Nat} (f : FR μ ν r) (h : RelR μ r n) : RelR ν r n := by
  obtain ⟨f1, f2, f3, f4⟩ := f
  obtain ⟨h1, h2, h3, h4, h5⟩ := h
  unfold RelR
  rw [f1, f2, f3]
  exact ⟨h1, h2, h3, fun i hi => (f4 i (by omega)).trans (h4 i hi), h5⟩
theorem RelP.fr {μ ν : Mem} {n : Nat} (f : FP μ ν) (h : RelP μ n) : RelP ν n := by
  obtain ⟨f1, f2, f3, f4, f5⟩ := f
  unfold RelP
  rw [f1, f2, f3, f4, f5]
  exact h
theorem RelW.fr {N : Nat} {μ ν : Mem} (f : FW μ ν) (h : RelW N μ) : RelW (N + 1) ν := by
  obtain ⟨f1, f2⟩ := f
  obtain ⟨x, c, a, h1, h2, h3, h4⟩ := h
  refine ⟨x, c, a, by omega, h2, h3, ?_⟩
  rw [f1, f2 11 (by omega) (by omega), f2 12 (by omega) (by omega), f2 13 (by omega) (by omega), f2 14 (by omega) (by omega), f2 15 (by omega) (by omega), f2 16 (by omega) (by omega), f2 17 (by omega) (by omega)]
  exact h4
theorem RelM.fr {N : Nat} {μ ν : Mem} (f : FM μ ν) (h : RelM N μ) : RelM (N + 1) ν := by
  obtain ⟨f1, f2, f3⟩ := f
  obtain ⟨p, o, h1, h2, h3⟩ := h
  refine ⟨p, o, by omega, h2, ?_⟩
  rw [f1, f2, f3 18 (by omega) (by omega), f3 19 (by omega) (by omega), f3 20 (by omega) (by omega), f3 21 (by omega) (by omega), f3 22 (by omega) (by omega), f3 23 (by omega) (by omega), f3 24 (by omega) (by omega), f3 25 (by omega) (by omega), f3 26 (by omega) (by omega), f3 27 (by omega) (by omega)]
  exact h3
theorem Rel_0 {N : Nat} {μ ν : Mem} (h : Rel N μ) (fS : ∀ j, j < 9 → FS μ ν j) (fR : ∀ r, r < 6 → FR μ ν r) (fP : FP μ ν) (fW : FW μ ν) (fM : FM μ ν) : Rel (N + 1) ν := by
  obtain ⟨h1, h2, ⟨n, h3⟩, h4, h5⟩ := h
  exact ⟨fun j hj => (h1 j hj).elim fun n q => ⟨n, q.fr (fS j hj)⟩, fun r hr => (h2 r hr).elim fun n q => ⟨n, q.fr (fR r hr)⟩, ⟨n, h3.fr fP⟩, h4.fr fW, h5.fr fM⟩
theorem Rel_S {N k n : Nat} {μ ν : Mem} (h : Rel N μ) (hk : RelS ν k n) (fS : ∀ j, j < 9 → j ≠ k → FS μ ν j) (fR : ∀ r, r < 6 → FR μ ν r) (fP : FP μ ν) (fW : FW μ ν) (fM : FM μ ν) : Rel (N + 1) ν := by
  obtain ⟨h1, h2, ⟨n, h3⟩, h4, h5⟩ := h
  refine ⟨fun j hj => ?_, fun r hr => (h2 r hr).elim fun n q => ⟨n, q.fr (fR r hr)⟩, ⟨n, h3.fr fP⟩, h4.fr fW, h5.fr fM⟩
  by_cases hjk : j = k
  · rw [hjk]
    exact ⟨_, hk⟩
  · exact (h1 j hj).elim fun n q => ⟨n, q.fr (fS j hj hjk)⟩
theorem Rel_R {N k n : Nat} {μ ν : Mem} (h : Rel N μ) (hk : RelR ν k n) (fS : ∀ j, j < 9 → FS μ ν j) (fR : ∀ r, r < 6 → r ≠ k → FR μ ν r) (fP : FP μ ν) (fW : FW μ ν) (fM : FM μ ν) : Rel (N + 1) ν := by
  obtain ⟨h1, h2, ⟨n, h3⟩, h4, h5⟩ := h
  refine ⟨fun j hj => (h1 j hj).elim fun n q => ⟨n, q.fr (fS j hj)⟩, fun r hr => ?_, ⟨n, h3.fr fP⟩, h4.fr fW, h5.fr fM⟩
  by_cases hrk : r = k
  · rw [hrk]
    exact ⟨_, hk⟩
  · exact (h2 r hr).elim fun n q => ⟨n, q.fr (fR r hr hrk)⟩
theorem Rel_P {N n : Nat} {μ ν : Mem} (h : Rel N μ) (hs : ∃ n, RelS ν 8 n) (hk : RelP ν n) (fS : ∀ j, j < 8 → FS μ ν j) (fR : ∀ r, r < 6 → FR μ ν r) (fW : FW μ ν) (fM : FM μ ν) : Rel (N + 1) ν := by
  obtain ⟨h1, h2, h3, h4, h5⟩ := h
  refine ⟨fun j hj => ?_, fun r hr => (h2 r hr).elim fun n q => ⟨n, q.fr (fR r hr)⟩, ⟨n, hk⟩, h4.fr fW, h5.fr fM⟩
  by_cases hjk : j = 8
  · rw [hjk]
    exact hs
  · exact (h1 j hj).elim fun n q => ⟨n, q.fr (fS j (by omega))⟩
theorem Rel_W {N : Nat} {μ ν : Mem} (h : Rel N μ) (hk : RelW (N + 1) ν) (fS : ∀ j, j < 9 → FS μ ν j) (fR : ∀ r, r < 6 → FR μ ν r) (fP : FP μ ν) (fM : FM μ ν) : Rel (N + 1) ν := by
  obtain ⟨h1, h2, ⟨n, h3⟩, h4, h5⟩ := h
  exact ⟨fun j hj => (h1 j hj).elim fun n q => ⟨n, q.fr (fS j hj)⟩, fun r hr => (h2 r hr).elim fun n q => ⟨n, q.fr (fR r hr)⟩, ⟨n, h3.fr fP⟩, hk, h5.fr fM⟩
theorem Rel_M {N : Nat} {μ ν : Mem} (h : Rel N μ) (hk : RelM (N + 1) ν) (fS : ∀ j, j < 9 → FS μ ν j) (fR : ∀ r, r < 6 → FR μ ν r) (fP : FP μ ν) (fW : FW μ ν) : Rel (N + 1) ν := by
  obtain ⟨h1, h2, ⟨n, h3⟩, h4, h5⟩ := h
  exact ⟨fun j hj => (h1 j hj).elim fun n q => ⟨n, q.fr (fS j hj)⟩, fun r hr => (h2 r hr).elim fun n q => ⟨n, q.fr (fR r hr)⟩, ⟨n, h3.fr fP⟩, h4.fr fW, hk⟩
theorem Rel.th {N : Nat} {μ : Mem} (h : Rel N μ) : thOk μ := fun j hj => (h.1 j (by omega)).elim fun _ q => q.1
/-- the same: a Rel of the count behind -/
theorem Rel.up {N : Nat} {μ : Mem} (h : Rel N μ) : Rel (N + 1) μ :=
  Rel_0 h (fun _ _ => ⟨rfl, rfl, rfl, rfl, rfl, rfl, fun _ _ => rfl, fun _ _ => rfl⟩) (fun _ _ => ⟨rfl, rfl, rfl, fun _ _ => rfl⟩) ⟨rfl, rfl, rfl, rfl, rfl⟩ ⟨rfl, fun _ _ _ => rfl⟩ ⟨rfl, rfl, fun _ _ _ => rfl⟩
/-- a call of the class and the same call of the model: the same answer, and what holds between them stays -/
def PR (kc km : MK) (as : List Value) : Prop := ∀ (N : Nat) (μ : Mem) (d c : Nat), 5 ≤ d → 5 ≤ c → N ≤ 512 → Rel N μ → MW kc d (.ref 0 :: as) μ (fun r μ1 => MW km c (.ref 73 :: as) μ1 (fun q μ2 => q = r ∧ Rel (N + 1) μ2))
