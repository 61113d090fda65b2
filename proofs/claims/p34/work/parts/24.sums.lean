/-! SUMS: the signs of TONES, in whole numbers -/
theorem x4_ (a b x y : Bool) : ((a ^^ b) ^^ (x ^^ y)) = ((a ^^ x) ^^ (b ^^ y)) := by cases a <;> cases b <;> cases x <;> cases y <;> rfl
def prN (c : Nat) : Nat → Bool
  | 0 => false
  | b + 1 => (prN c b ^^ c.testBit b)
theorem prN_x (a b : Nat) : ∀ m, prN (a ^^^ b) m = (prN a m ^^ prN b m)
  | 0 => rfl
  | m + 1 => by rw [prN, prN, prN, prN_x a b m, Nat.testBit_xor, x4_]
theorem prN_0 : ∀ m, prN 0 m = false
  | 0 => rfl
  | m + 1 => by rw [prN, prN_0 m, Nat.zero_testBit]; rfl
/-- a number's bits turned about -/
def mkN (g : Nat) : Nat → Nat
  | 0 => 0
  | b + 1 => mkN g b * 2 + (g / 2 ^ b) % 2
/-- is the SIGN of place i in TONE k minus, of 2 ^ p numbers -/
def sgB (p i k : Nat) : Bool := prN (i &&& mkN (k ^^^ (k / 2)) p) 6
theorem mk_tm : ∀ p, p < 7 → ∀ k, k < 64 → tmF (grI k) p = nI (mkN (k ^^^ (k / 2)) p) ∧ mkN (k ^^^ (k / 2)) p < 64 := by decide +kernel
theorem ob_pr : ∀ c, c < 64 → decide ((bcI (nI c) &&& nI 1).toInt = 1) = prN c 6 := by decide +kernel
theorem odd_sg {p i k : Nat} (hp : p < 7) (hi : i < 64) (hk : k < 64) : oddB i (tmF (grI k) p) = sgB p i k := by
  obtain ⟨h1, h2⟩ := mk_tm p hp k hk
  obtain ⟨h3, h4⟩ := z_and i hi (mkN (k ^^^ (k / 2)) p) h2
  rw [oddB, h1, h3, ob_pr _ h4, sgB]
theorem sg_sym : ∀ p, p < 7 → ∀ i, i < 2 ^ p → ∀ k, k < 2 ^ p → sgB p i k = sgB p k i := by decide +kernel
theorem sg_x (p i j k : Nat) : sgB p (i ^^^ j) k = (sgB p i k ^^ sgB p j k) := by rw [sgB, sgB, sgB, Nat.and_xor_distrib_right, prN_x]
theorem sg_0 : ∀ p, p < 7 → mkN (0 ^^^ (0 / 2)) p = 0 := by decide
theorem sg_i0 {p i : Nat} (hp : p < 7) : sgB p i 0 = false := by rw [sgB, sg_0 p hp, Nat.and_zero, prN_0]
def sgZ (b : Bool) : Int := if b = true then -1 else 1
theorem sgZ_x (a b : Bool) : sgZ (a ^^ b) = sgZ a * sgZ b := by cases a <;> cases b <;> rfl
theorem sgZ_s (a : Bool) : sgZ a * sgZ a = 1 := by cases a <;> rfl
theorem sgZ_le (a : Bool) : -1 ≤ sgZ a ∧ sgZ a ≤ 1 := by cases a <;> decide
theorem sg_sum : ∀ p, p < 7 → ∀ c, c < 2 ^ p → ¬ c = 0 → sumZ (fun k => sgZ (sgB p c k)) (2 ^ p) = 0 := by decide +kernel
theorem sum_one : ∀ n, sumZ (fun _ => 1) n = n
  | 0 => rfl
  | n + 1 => by rw [sumZ, sum_one n]; omega
theorem xor_ne {i j : Nat} (h : ¬ i = j) : ¬ i ^^^ j = 0 := fun q => h (by
  have e1 : (i ^^^ j) ^^^ j = i := by rw [Nat.xor_assoc, Nat.xor_self, Nat.xor_zero]
  rw [q, Nat.zero_xor] at e1
  exact e1.symm)
theorem sg_orth {p i j : Nat} (hp : p < 7) (hi : i < 2 ^ p) (hj : j < 2 ^ p) : sumZ (fun k => sgZ (sgB p i k) * sgZ (sgB p j k)) (2 ^ p) = if i = j then ((2 ^ p : Nat) : Int) else 0 := by
  by_cases h : i = j
  · subst h
    rw [if_pos rfl, sumZ_congr (g := fun _ => 1) (fun k _ => sgZ_s _), sum_one]
  · rw [if_neg h, ← sg_sum p hp (i ^^^ j) (Nat.xor_lt_two_pow hi hj) (xor_ne h)]
    exact sumZ_congr (fun k _ => by rw [sg_x, sgZ_x])
theorem sumZ_add (f g : Nat → Int) : ∀ m, sumZ (fun k => f k + g k) m = sumZ f m + sumZ g m
  | 0 => by simp [sumZ]
  | m + 1 => by
    simp only [sumZ, sumZ_add f g m]
    omega
theorem sumZ_nil : ∀ m, sumZ (fun _ => 0) m = 0
  | 0 => rfl
  | m + 1 => by rw [sumZ, sumZ_nil m]; rfl
theorem sumZ_swap (f : Nat → Nat → Int) (n : Nat) : ∀ m, sumZ (fun k => sumZ (fun j => f k j) n) m = sumZ (fun j => sumZ (fun k => f k j) m) n
  | 0 => by
    simp only [sumZ]
    exact (sumZ_nil n).symm
  | m + 1 => by
    rw [sumZ, sumZ_swap f n m, ← sumZ_add]
    rfl
theorem sumZ_dl (V : Nat → Int) (c : Int) (i : Nat) : ∀ m, sumZ (fun j => (if i = j then c else 0) * V j) m = if i < m then c * V i else 0
  | 0 => by simp [sumZ]
  | m + 1 => by
    have ih := sumZ_dl V c i m
    rw [sumZ, ih]
    by_cases h : i = m
    · subst h
      rw [if_neg (by omega), if_pos rfl, if_pos (by omega)]
      omega
    · rw [if_neg h]
      by_cases h2 : i < m
      · rw [if_pos h2, if_pos (by omega)]
        omega
      · rw [if_neg h2, if_neg (by omega)]
        omega
/-- TONE k of the numbers V -/
def tonZ (V : Nat → Int) (p k : Nat) : Int := sumZ (fun i => sgZ (sgB p i k) * V i) (2 ^ p)
theorem ton_inv {p i : Nat} (hp : p < 7) (hi : i < 2 ^ p) (V : Nat → Int) : sumZ (fun k => sgZ (sgB p i k) * tonZ V p k) (2 ^ p) = ((2 ^ p : Nat) : Int) * V i := by
  have e1 : sumZ (fun k => sgZ (sgB p i k) * tonZ V p k) (2 ^ p) = sumZ (fun k => sumZ (fun j => sgZ (sgB p i k) * (sgZ (sgB p j k) * V j)) (2 ^ p)) (2 ^ p) := sumZ_congr (fun k _ => by rw [tonZ, sumZ_mul])
  rw [e1, sumZ_swap]
  have e2 : sumZ (fun j => sumZ (fun k => sgZ (sgB p i k) * (sgZ (sgB p j k) * V j)) (2 ^ p)) (2 ^ p) = sumZ (fun j => (if i = j then ((2 ^ p : Nat) : Int) else 0) * V j) (2 ^ p) := sumZ_congr (fun j hj => by
    rw [← sg_orth hp hi hj, Int.mul_comm, ← sumZ_mul]
    exact sumZ_congr (fun k _ => by grind))
  rw [e2, sumZ_dl, if_pos hi]
theorem ton_par {p : Nat} (hp : p < 7) (V U : Nat → Int) : sumZ (fun k => tonZ V p k * tonZ U p k) (2 ^ p) = ((2 ^ p : Nat) : Int) * sumZ (fun i => V i * U i) (2 ^ p) := by
  have e1 : sumZ (fun k => tonZ V p k * tonZ U p k) (2 ^ p) = sumZ (fun k => sumZ (fun i => tonZ U p k * (sgZ (sgB p i k) * V i)) (2 ^ p)) (2 ^ p) := sumZ_congr (fun k _ => by rw [sumZ_mul, Int.mul_comm, tonZ.eq_def V])
  rw [e1, sumZ_swap, ← sumZ_mul]
  refine sumZ_congr (fun i hi => ?_)
  have e2 : sumZ (fun k => tonZ U p k * (sgZ (sgB p i k) * V i)) (2 ^ p) = V i * sumZ (fun k => sgZ (sgB p i k) * tonZ U p k) (2 ^ p) := by
    rw [← sumZ_mul]
    exact sumZ_congr (fun k _ => by grind)
  rw [e2, ton_inv hp hi]
  grind
theorem ton_two {p k : Nat} (hp : p < 7) (hk : k < 2 ^ p) (V : Nat → Int) : tonZ (tonZ V p) p k = ((2 ^ p : Nat) : Int) * V k := by
  rw [← ton_inv hp hk, tonZ]
  exact sumZ_congr (fun i hi => by rw [sg_sym p hp i hi k hk])
theorem ton_0 {p : Nat} (hp : p < 7) (V : Nat → Int) : tonZ V p 0 = sumZ V (2 ^ p) := by
  rw [tonZ]
  refine sumZ_congr (fun i _ => ?_)
  rw [sg_i0 hp]
  show 1 * V i = V i
  omega
theorem ton_lin (V U : Nat → Int) (a b : Int) (p k : Nat) : tonZ (fun i => a * V i + b * U i) p k = a * tonZ V p k + b * tonZ U p k := by
  rw [tonZ, tonZ, tonZ, ← sumZ_mul, ← sumZ_mul, ← sumZ_add]
  exact sumZ_congr (fun i _ => by grind)
theorem ton_unit {p t k : Nat} (ht : t < 2 ^ p) : tonZ (fun i => if i = t then 1 else 0) p k = sgZ (sgB p t k) := by
  have e1 : tonZ (fun i => if i = t then 1 else 0) p k = sumZ (fun i => (if t = i then 1 else 0) * sgZ (sgB p i k)) (2 ^ p) := by
    rw [tonZ]
    refine sumZ_congr (fun i _ => ?_)
    by_cases h : i = t
    · rw [if_pos h, if_pos h.symm]
      omega
    · rw [if_neg h, if_neg (fun q => h q.symm)]
      omega
  rw [e1, sumZ_dl, if_pos ht]
  omega
theorem ton_le {V : Nat → Int} {B : Int} {p : Nat} (hp : p < 7) (h : ∀ i, i < 2 ^ p → -B ≤ V i ∧ V i ≤ B) (k : Nat) : -(64 * B) ≤ tonZ V p k ∧ tonZ V p k ≤ 64 * B := by
  have hB : 0 ≤ B := by have := h 0 (Nat.two_pow_pos p); omega
  have h64 : ∀ q, q < 7 → 2 ^ q ≤ 64 := by decide
  have hn := h64 p hp
  have a1 := sumZ_le (f := fun i => sgZ (sgB p i k) * V i) (C := B) (m := 2 ^ p) (fun i hi => by
    have h1 := h i hi
    show -B ≤ sgZ (sgB p i k) * V i ∧ sgZ (sgB p i k) * V i ≤ B
    cases sgB p i k
    · show -B ≤ 1 * V i ∧ 1 * V i ≤ B
      omega
    · show -B ≤ -1 * V i ∧ -1 * V i ≤ B
      omega)
  have a2 : ((2 ^ p : Nat) : Int) * B ≤ 64 * B := Int.mul_le_mul_of_nonneg_right (by omega) hB
  rw [tonZ]
  omega
/-- how often the signs of TONES of place t change, up to place m -/
def flN (p t : Nat) : Nat → Nat
  | 0 => 0
  | m + 1 => flN p t m + (if sgB p t (m + 1) = sgB p t m then 0 else 1)
theorem fl_end : ∀ p, p < 7 → ∀ t, t < 2 ^ p → flN p t (2 ^ p - 1) = t := by decide +kernel
theorem fl_le (p t : Nat) : ∀ m, flN p t m ≤ m
  | 0 => Nat.le_refl 0
  | m + 1 => by
    have := fl_le p t m
    rw [flN]
    split <;> omega
theorem sgZ_inj : ∀ a b : Bool, (Int64.ofInt (sgZ a)).toInt = (Int64.ofInt (sgZ b)).toInt ↔ a = b := by decide
/-- the squares of those from a to b, together -/
def frZ (V : Nat → Int) (a : Nat) (b : Int) (n : Nat) : Int := sumZ (fun i => if a ≤ i ∧ (i : Int) ≤ b then V i * V i else 0) n
theorem fr_all {V : Nat → Int} {n : Nat} {b : Int} (hb : (n : Int) ≤ b) : frZ V 0 b n = sumZ (fun i => V i * V i) n := sumZ_congr (fun i hi => by rw [if_pos ⟨by omega, by omega⟩])
theorem fr_two (V : Nat → Int) {a n : Nat} : frZ V 0 (a : Int) n + frZ V (a + 1) (n : Int) n = sumZ (fun i => V i * V i) n := by
  rw [frZ, frZ, ← sumZ_add]
  refine sumZ_congr (fun i hi => ?_)
  by_cases h : i ≤ a
  · rw [if_pos ⟨by omega, by omega⟩, if_neg (by omega)]
    omega
  · rw [if_neg (by omega), if_pos ⟨by omega, by omega⟩]
    omega
theorem fr_one (V : Nat → Int) {a n : Nat} (h : n ≤ a + 1) : frZ V 0 (a : Int) n = sumZ (fun i => V i * V i) n := sumZ_congr (fun i hi => by rw [if_pos ⟨by omega, by omega⟩])
/-! the class's sums -/
theorem z_pr {v w : Nat → Int64} {V U : Nat → Int} : ∀ {n : Nat}, (∀ i, i < n → v i = Int64.ofInt (V i)) → (∀ i, i < n → w i = Int64.ofInt (U i)) → prS v w n = Int64.ofInt (sumZ (fun i => V i * U i) n)
  | 0, _, _ => rfl
  | n + 1, h1, h2 => by
    rw [prS, sumZ, z_pr (n := n) (fun i hi => h1 i (by omega)) (fun i hi => h2 i (by omega)), h1 n (by omega), h2 n (by omega), Int64.ofInt_add, Int64.ofInt_mul]
theorem fr_low (V : Nat → Int) (a : Nat) (b : Int) : ∀ m, m ≤ a → frZ V a b m = 0
  | 0, _ => rfl
  | m + 1, h => by
    have ih := fr_low V a b m (by omega)
    rw [frZ] at ih ⊢
    rw [sumZ, ih, if_neg (by omega)]
    rfl
theorem fr_high (V : Nat → Int) (a : Nat) (b : Int) (i : Nat) : ∀ m, b < (i : Int) → frZ V a b (i + m) = frZ V a b i
  | 0, _ => rfl
  | m + 1, h => by
    have ih := fr_high V a b i m h
    show frZ V a b (i + m) + (if a ≤ i + m ∧ ((i + m : Nat) : Int) ≤ b then V (i + m) * V (i + m) else 0) = frZ V a b i
    rw [ih, if_neg (by omega)]
    omega
theorem z_sq {v : Nat → Int64} {V : Nat → Int} {n a : Nat} {b : Int} (h : ∀ i, i < n → v i = Int64.ofInt (V i)) : ∀ m i, n ≤ i + m → i ≤ n → a ≤ i → sqF v b n m i (Int64.ofInt (frZ V a b i)) = Int64.ofInt (frZ V a b n)
  | 0, i, h1, h2, _ => by
    rw [sqF, show i = n by omega]
  | m + 1, i, h1, h2, h3 => by
    rw [sqF]
    by_cases q : i < n ∧ (i : Int) ≤ b
    · rw [if_pos q, h i q.1, ← Int64.ofInt_mul, ← Int64.ofInt_add]
      have e : frZ V a b i + V i * V i = frZ V a b (i + 1) := by
        rw [frZ, frZ, sumZ, if_pos ⟨h3, q.2⟩]
      rw [e]
      exact z_sq h m (i + 1) (by omega) (by omega) (by omega)
    · rw [if_neg q]
      by_cases q2 : i = n
      · rw [q2]
      · have := fr_high V a b i (n - i) (by omega)
        rw [show i + (n - i) = n by omega] at this
        rw [this]
theorem z_sq0 {v : Nat → Int64} {V : Nat → Int} {n a : Nat} {b : Int} (h : ∀ i, i < n → v i = Int64.ofInt (V i)) (hn : n ≤ 64) (ha : a ≤ n) : sqF v b n 64 a 0 = Int64.ofInt (frZ V a b n) := by
  have := z_sq (b := b) h 64 a (by omega) ha (Nat.le_refl a)
  rw [fr_low V a b a (Nat.le_refl a)] at this
  exact this
theorem z_tn {v : Nat → Int64} {V : Nat → Int} {p k : Nat} (hp : p < 7) (hk : k < 64) : ∀ {n : Nat}, n ≤ 64 → (∀ i, i < n → v i = Int64.ofInt (V i)) → tonS v (tmF (grI k) p) n = Int64.ofInt (sumZ (fun i => sgZ (sgB p i k) * V i) n)
  | 0, _, _ => rfl
  | n + 1, hn, h => by
    rw [tonS, sumZ, z_tn hp hk (n := n) (by omega) (fun i hi => h i (by omega)), Int64.ofInt_add, odd_sg hp (by omega) hk, h n (by omega)]
    cases sgB p n k
    · rw [if_neg (by decide)]
      congr 2
      show V n = 1 * V n
      omega
    · rw [if_pos rfl, Int64.neg_ofInt]
      congr 2
      show -V n = -1 * V n
      omega
theorem inB_z {v : Nat → Int64} {V : Nat → Int} {n : Nat} {B C : Int} (h : ∀ i, i < n → v i = Int64.ofInt (V i)) (hV : ∀ i, i < n → -C ≤ V i ∧ V i ≤ C) (hC : C ≤ B) (hB : C ≤ 4000000000000000) : inB v n B := fun i hi => by
  have := hV i hi
  rw [h i hi, zin (by omega) (by omega)]
  omega
theorem cpy_lt {f g : Nat → Int64} {n i : Nat} (h : i < n) : va_cpy f g 0 0 n i = f i := by
  show (if 0 ≤ i ∧ i < 0 + n then f (0 + (i - 0)) else g i) = f i
  rw [if_pos (by omega)]
  congr 1
  omega
theorem nI_nn {x : Int32} (h : 0 ≤ x.toInt) : ∃ m, m < 2 ^ 31 ∧ x = nI m := by
  have := x.toInt_lt
  refine ⟨x.toInt.toNat, by omega, ?_⟩
  apply Int32.toInt_inj.mp
  rw [nI_toInt (by omega)]
  omega
