/-! SUMS as whole numbers, and what turn() makes of them -/
theorem zand32 (x : Int64) : (x &&& 4294967295).toInt = x.toInt % 4294967296 := by
  rw [← Int64.toInt_toBitVec, ← Int64.toInt_toBitVec x, Int64.toBitVec_and]
  have e1 : (x.toBitVec &&& Int64.toBitVec 4294967295).toNat = x.toBitVec.toNat % 4294967296 := by
    rw [BitVec.toNat_and]
    exact Nat.and_two_pow_sub_one_eq_mod x.toBitVec.toNat 32
  have h1 := x.toBitVec.isLt
  rw [BitVec.toInt_eq_toNat_cond, BitVec.toInt_eq_toNat_cond, e1]
  split <;> split <;> omega
theorem zshr32 (x : Int64) : (x >>> 32).toInt = x.toInt / 4294967296 := by
  rw [← Int64.toInt_toBitVec, Int64.toBitVec_shiftRight]
  simp [BitVec.toInt_sshiftRight, Int.shiftRight_eq_div_pow]
theorem zin {x : Int} (h1 : -9000000000000000000 ≤ x) (h2 : x ≤ 9000000000000000000) : (Int64.ofInt x).toInt = x := Int64.toInt_ofInt_of_le (by omega) (by omega)
theorem zshl32 (x : Int64) : x <<< 32 = Int64.ofInt (x.toInt * 4294967296) := by
  rw [Int64.ofInt_mul, Int64.ofInt_toInt]
  apply Int64.toBitVec_inj.1
  rw [Int64.toBitVec_shiftLeft, Int64.toBitVec_mul]
  have e1 : (Int64.toBitVec 32).smod 64 = 32#64 := by decide
  have e2 : (Int64.ofInt 4294967296).toBitVec = BitVec.twoPow 64 32 := by decide
  rw [e1, e2, BitVec.shiftLeft_eq', ← BitVec.shiftLeft_eq_mul_twoPow]
  rfl
def sumZ (f : Nat → Int) : Nat → Int
  | 0 => 0
  | n + 1 => sumZ f n + f n
theorem sumZ_congr {f g : Nat → Int} : ∀ {m : Nat}, (∀ k, k < m → f k = g k) → sumZ f m = sumZ g m
  | 0, _ => rfl
  | m + 1, h => by
    rw [sumZ, sumZ, sumZ_congr (fun k hk => h k (by omega)), h m (by omega)]
theorem sumZ_le {f : Nat → Int} {C : Int} : ∀ {m : Nat}, (∀ k, k < m → -C ≤ f k ∧ f k ≤ C) → -(m * C) ≤ sumZ f m ∧ sumZ f m ≤ m * C
  | 0, _ => by simp [sumZ]
  | m + 1, h => by
    have ih := sumZ_le (m := m) (fun k hk => h k (by omega))
    have := h m (by omega)
    rw [sumZ]
    have e : ((m + 1 : Nat) : Int) * C = m * C + C := by grind
    rw [e]
    omega
theorem zmul_le {f x C B : Int} (h1 : -C ≤ f) (h2 : f ≤ C) (h3 : -B ≤ x) (h4 : x ≤ B) : -(C * B) ≤ f * x ∧ f * x ≤ C * B := by
  have hC : 0 ≤ C := by omega
  have hB : 0 ≤ B := by omega
  have a1 : 0 ≤ (C - f) * (B + x) := Int.mul_nonneg (by omega) (by omega)
  have a2 : 0 ≤ (C + f) * (B - x) := Int.mul_nonneg (by omega) (by omega)
  have a3 : 0 ≤ (C - f) * (B - x) := Int.mul_nonneg (by omega) (by omega)
  have a4 : 0 ≤ (C + f) * (B + x) := Int.mul_nonneg (by omega) (by omega)
  constructor <;> grind
theorem lev_sum (V : Nat → Int) (n : Int) (i : Nat) : ∀ m, sumZ (fun k => ((if i = k then n else 0) - 1) * V k) m = (if i < m then n * V i else 0) - sumZ V m
  | 0 => by simp [sumZ]
  | m + 1 => by
    have ih := lev_sum V n i m
    simp only [sumZ, ih]
    by_cases h : i = m
    · subst h
      simp
      grind
    · grind
theorem flat_sum (V : Nat → Int) (n A B : Int) (i : Nat) : ∀ m, sumZ (fun k => ((if i = k then n * A else 0) - A - B * (2 * k - n + 1)) * V k) m = (if i < m then n * A * V i else 0) - A * sumZ V m - B * sumZ (fun k => (2 * k - n + 1) * V k) m
  | 0 => by simp [sumZ]
  | m + 1 => by
    have ih := flat_sum V n A B i m
    simp only [sumZ, ih]
    by_cases h : i = m
    · subst h
      simp
      grind
    · grind
def onZ (V : Nat → Int) : Nat → Int
  | 0 => 0
  | i + 1 => onZ V i + V i
def twZ (V : Nat → Int) : Nat → Int
  | 0 => 0
  | i + 1 => twZ V i + onZ V (i + 1)
theorem on_sum (V : Nat → Int) : ∀ i, onZ V i = sumZ V i
  | 0 => rfl
  | i + 1 => by rw [onZ, sumZ, on_sum V i]
/-- what is beyond counts nothing -/
theorem cut_sum (f V : Nat → Int) (i : Nat) : ∀ m, i ≤ m → sumZ (fun k => (if k < i then f k else 0) * V k) m = sumZ (fun k => f k * V k) i
  | 0, h => by
    obtain rfl : i = 0 := by omega
    rfl
  | m + 1, h => by
    by_cases hi : i = m + 1
    · subst hi
      exact sumZ_congr (fun k hk => by rw [if_pos hk])
    · rw [sumZ, cut_sum f V i m (by omega), if_neg (by omega)]
      omega
theorem tw_sum (V : Nat → Int) : ∀ i, twZ V i = sumZ (fun k => ((i : Int) - k) * V k) i
  | 0 => rfl
  | i + 1 => by
    rw [twZ, tw_sum V i, on_sum, sumZ, sumZ]
    have : ∀ m, sumZ (fun k => (((i + 1 : Nat) : Int) - k) * V k) m = sumZ (fun k => ((i : Int) - k) * V k) m + sumZ V m := by
      intro m
      induction m with
      | zero => rfl
      | succ m ih =>
        simp only [sumZ, ih]
        grind
    rw [this i]
    grind
theorem sumZ_mul (c : Int) (f : Nat → Int) : ∀ m, sumZ (fun k => c * f k) m = c * sumZ f m
  | 0 => by simp [sumZ]
  | m + 1 => by
    simp only [sumZ, sumZ_mul c f m]
    grind
theorem sumZ_sub (f g : Nat → Int) : ∀ m, sumZ (fun k => f k - g k) m = sumZ f m - sumZ g m
  | 0 => by simp [sumZ]
  | m + 1 => by
    simp only [sumZ, sumZ_sub f g m]
    omega
theorem sumZ_hl (F V : Nat → Int) : ∀ m, sumZ (fun k => F k * V k) m = sumZ (fun k => F k * (V k / 4294967296)) m * 4294967296 + sumZ (fun k => F k * (V k % 4294967296)) m
  | 0 => by simp [sumZ]
  | m + 1 => by
    have e := Int.mul_ediv_add_emod (V m) 4294967296
    have ih := sumZ_hl F V m
    simp only [sumZ]
    rw [ih]
    generalize V m / 4294967296 = a at e ⊢
    generalize V m % 4294967296 = b at e ⊢
    rw [← e]
    grind
theorem twi_sum (V : Nat → Int) (n i : Nat) (hi : i < n) (f : Nat → Int)
    (hf : ∀ k, k < n → f k = (if k < i then ((n : Int) - 1) * ((i : Int) - k) else 0) - (if k < n - 1 then (i : Int) * ((n : Int) - 1 - k) else 0)) :
    sumZ (fun k => f k * V k) n = ((n : Int) - 1) * twZ V i - i * twZ V (n - 1) := by
  have e1 := cut_sum (fun k => ((n : Int) - 1) * ((i : Int) - k)) V i n (by omega)
  have e2 := cut_sum (fun k => (i : Int) * ((n : Int) - 1 - k)) V (n - 1) n (by omega)
  rw [tw_sum, tw_sum, ← sumZ_mul, ← sumZ_mul]
  rw [sumZ_congr (g := fun k => (if k < i then ((n : Int) - 1) * ((i : Int) - k) else 0) * V k - (if k < n - 1 then (i : Int) * ((n : Int) - 1 - k) else 0) * V k) (fun k hk => by rw [hf k hk, Int.sub_mul]), sumZ_sub, e1, e2]
  congr 1
  · exact sumZ_congr (fun k hk => by grind)
  · exact sumZ_congr (fun k hk => by
      have : ((n - 1 : Nat) : Int) = (n : Int) - 1 := by omega
      rw [this]
      grind)
theorem z_nI {n : Nat} (h : n < 2 ^ 31) : (nI n).toInt64 = Int64.ofInt n := by
  rw [← Int64.ofInt_int32ToInt, nI_toInt h]
theorem z_to (x : Int64) : x = Int64.ofInt x.toInt := (Int64.ofInt_toInt x).symm
theorem z_32 {x : Int} (h1 : -2147483648 ≤ x) (h2 : x ≤ 2147483647) : (Int32.ofInt x).toInt64 = Int64.ofInt x := by
  rw [← Int64.ofInt_int32ToInt, Int32.toInt_ofInt_of_le (by omega) (by omega)]
theorem z_n (n : Nat) : nI n = Int32.ofInt n := by
  show Int32.ofNat n = Int32.ofInt n
  rw [Int32.ofInt_eq_ofNat]
theorem z_1 : (1 : Int64) = Int64.ofInt 1 := rfl
theorem z_3 : (3 : Int64) = Int64.ofInt 3 := rfl
/-- the numbers, as they count -/
def vZ (v : Nat → Int64) (k : Nat) : Int := (v k).toInt
theorem z_v (v : Nat → Int64) (k : Nat) : v k = Int64.ofInt (vZ v k) := z_to _
theorem z_sum (v : Nat → Int64) : ∀ n, sumL v n = Int64.ofInt (sumZ (vZ v) n)
  | 0 => rfl
  | n + 1 => by rw [sumL, sumZ, z_sum v n, z_v v n, Int64.ofInt_add]
theorem z_slp (v : Nat → Int64) (N : Nat) (hN : N < 65) : ∀ n, n < 65 → slpS v (nI N).toInt64 n = Int64.ofInt (sumZ (fun k => (2 * (k : Int) - N + 1) * vZ v k) n)
  | 0, _ => rfl
  | n + 1, h => by
    rw [slpS, sumZ, z_slp v N hN n (by omega), z_v v n, z_1, z_nI (by omega), pk_mul, z_nI (by omega)]
    simp only [← Int64.ofInt_mul, ← Int64.ofInt_add, ← Int64.ofInt_sub]
    congr 1
def fcZ (w n i k : Nat) : Int := match w with
  | 0 => (if i = k then (n : Int) else 0) - 1
  | 1 => (if i = k then (n : Int) * ((n : Int) * n - 1) else 0) - ((n : Int) * n - 1) - 3 * (2 * (i : Int) - n + 1) * (2 * (k : Int) - n + 1)
  | 2 => (if k < i then ((n : Int) - 1) * ((i : Int) - k) else 0) - (if k < n - 1 then (i : Int) * ((n : Int) - 1 - k) else 0)
  | _ => if oddB k (tmF (grI i) (Nat.log2 n)) = true then -1 else 1
theorem z_onc (v : Nat → Int64) : ∀ i, oncS v i = Int64.ofInt (onZ (vZ v) i)
  | 0 => rfl
  | i + 1 => by rw [oncS, onZ, z_onc v i, z_v v i, Int64.ofInt_add]
theorem z_twc (v : Nat → Int64) : ∀ i, twcS v i = Int64.ofInt (twZ (vZ v) i)
  | 0 => rfl
  | i + 1 => by rw [twcS, twZ, z_twc v i, z_onc v (i + 1), Int64.ofInt_add]
theorem z_ton (v : Nat → Int64) (mask : Int32) : ∀ n, tonS v mask n = Int64.ofInt (sumZ (fun k => (if oddB k mask = true then -1 else 1) * vZ v k) n)
  | 0 => rfl
  | n + 1 => by
    rw [tonS, sumZ, z_ton v mask n, Int64.ofInt_add]
    congr 1
    by_cases h : oddB n mask = true
    · rw [if_pos h, if_pos h, z_v v n, Int64.neg_ofInt]
      congr 1
      omega
    · rw [if_neg h, if_neg h, z_v v n]
      congr 1
      omega
theorem z_gW (v : Nat → Int64) {n w i : Nat} (hn : n ≤ 64) (hw : w < 4) (hi : i < n) : gW v n w i = Int64.ofInt (sumZ (fun k => fcZ w n i k * vZ v k) n) := by
  have hh : w = 0 ∨ w = 1 ∨ w = 2 ∨ w = 3 := by omega
  rcases hh with rfl | rfl | rfl | rfl
  · show gLev v n i = Int64.ofInt (sumZ (fun k => ((if i = k then (n : Int) else 0) - 1) * vZ v k) n)
    rw [lev_sum, if_pos hi, gLev, z_nI (by omega), z_v v i, z_sum]
    simp only [← Int64.ofInt_mul, ← Int64.ofInt_sub]
  · show gFlat v n i = Int64.ofInt (sumZ (fun k => ((if i = k then (n : Int) * ((n : Int) * n - 1) else 0) - ((n : Int) * n - 1) - 3 * (2 * (i : Int) - n + 1) * (2 * (k : Int) - n + 1)) * vZ v k) n)
    rw [flat_sum, if_pos hi, gFlat, z_slp v n (by omega) n (by omega), z_nI (by omega), z_v v i, z_sum, z_1, z_3, pk_mul, z_nI (by omega)]
    simp only [← Int64.ofInt_mul, ← Int64.ofInt_sub, ← Int64.ofInt_add]
    congr 1
  · show gTwi v n i = Int64.ofInt (sumZ (fun k => ((if k < i then ((n : Int) - 1) * ((i : Int) - k) else 0) - (if k < n - 1 then (i : Int) * ((n : Int) - 1 - k) else 0)) * vZ v k) n)
    rw [twi_sum (vZ v) n i hi (fun k => (if k < i then ((n : Int) - 1) * ((i : Int) - k) else 0) - (if k < n - 1 then (i : Int) * ((n : Int) - 1 - k) else 0)) (fun k _ => rfl), gTwi, pk_sub (by omega), z_nI (by omega), z_nI (by omega), z_twc, z_twc]
    simp only [← Int64.ofInt_mul, ← Int64.ofInt_sub]
    congr 1
    have : ((n - 1 : Nat) : Int) = (n : Int) - 1 := by omega
    rw [this]
  · exact z_ton v (tmF (grI i) (Nat.log2 n)) n
theorem fcZ_le {w n i k : Nat} (hn : n ≤ 64) (hw : w < 4) (hi : i < n) (hk : k < n) : -300000 ≤ fcZ w n i k ∧ fcZ w n i k ≤ 300000 := by
  have hh : w = 0 ∨ w = 1 ∨ w = 2 ∨ w = 3 := by omega
  rcases hh with rfl | rfl | rfl | rfl
  · simp only [fcZ]
    split <;> omega
  · simp only [fcZ]
    have a1 := zmul_le (f := (n : Int)) (x := n) (C := 64) (B := 64) (by omega) (by omega) (by omega) (by omega)
    have a2 := zmul_le (f := (n : Int)) (x := (n : Int) * n - 1) (C := 64) (B := 4097) (by omega) (by omega) (by omega) (by omega)
    have a3 := zmul_le (f := 3 * (2 * (i : Int) - n + 1)) (x := 2 * (k : Int) - n + 1) (C := 192) (B := 64) (by omega) (by omega) (by omega) (by omega)
    generalize (n : Int) * ((n : Int) * n - 1) = A at a2 ⊢
    generalize (n : Int) * n = B at a1 a2 ⊢
    generalize 3 * (2 * (i : Int) - n + 1) * (2 * (k : Int) - n + 1) = D at a3 ⊢
    split <;> omega
  · simp only [fcZ]
    have a1 := zmul_le (f := (n : Int) - 1) (x := (i : Int) - k) (C := 64) (B := 64) (by omega) (by omega) (by omega) (by omega)
    have a2 := zmul_le (f := (i : Int)) (x := (n : Int) - 1 - k) (C := 64) (B := 64) (by omega) (by omega) (by omega) (by omega)
    generalize ((n : Int) - 1) * ((i : Int) - k) = A at a1 ⊢
    generalize (i : Int) * ((n : Int) - 1 - k) = B at a2 ⊢
    split <;> split <;> omega
  · simp only [fcZ]
    split <;> omega
/-- no sum of turn() wraps -/
theorem gW_in (v : Nat → Int64) {n w i : Nat} (hn : n ≤ 64) (hw : w < 4) (hi : i < n) (hv : inB v n 4000000000000000) (h4 : w = 1 ∨ w = 2 → inB v n 4000000000) : -9000000000000000000 ≤ sumZ (fun k => fcZ w n i k * vZ v k) n ∧ sumZ (fun k => fcZ w n i k * vZ v k) n ≤ 9000000000000000000 := by
  have hh : w = 0 ∨ (w = 1 ∨ w = 2) ∨ w = 3 := by omega
  rcases hh with rfl | h12 | rfl
  · have e : sumZ (fun k => fcZ 0 n i k * vZ v k) n = n * vZ v i - sumZ (vZ v) n := by
      have e0 := lev_sum (vZ v) n i n
      rw [if_pos hi] at e0
      exact e0
    have a1 := zmul_le (f := (n : Int)) (x := vZ v i) (C := 64) (B := 4000000000000000) (by omega) (by omega) (hv i hi).1 (hv i hi).2
    have a2 := sumZ_le (f := vZ v) (C := 4000000000000000) (m := n) (fun k hk => hv k hk)
    rw [e]
    generalize (n : Int) * vZ v i = A at a1 ⊢
    omega
  · have a2 := sumZ_le (f := fun k => fcZ w n i k * vZ v k) (C := 300000 * 4000000000) (m := n) (fun k hk => zmul_le (fcZ_le hn hw hi hk).1 (fcZ_le hn hw hi hk).2 (h4 h12 k hk).1 (h4 h12 k hk).2)
    omega
  · have a2 := sumZ_le (f := fun k => fcZ 3 n i k * vZ v k) (C := 1 * 4000000000000000) (m := n) (fun k hk => zmul_le (by simp only [fcZ]; split <;> omega) (by simp only [fcZ]; split <;> omega) (hv k hk).1 (hv k hk).2)
    omega
/-- in two parts, and put together -/
def suZ (F : Nat → Int) (v : Nat → Int64) (k : Nat) : Int64 := Int64.ofInt (sumZ (fun k => F k * (vZ v k / 4294967296)) k)
def slZ (F : Nat → Int) (v : Nat → Int64) (k : Nat) : Int64 := Int64.ofInt (sumZ (fun k => F k * (vZ v k % 4294967296)) k)
theorem suZ_s (F : Nat → Int) (v : Nat → Int64) (k : Nat) : suZ F v k + Int64.ofInt (F k) * (v k >>> 32) = suZ F v (k + 1) := by
  rw [suZ, suZ, sumZ, z_to (v k >>> 32), zshr32, Int64.ofInt_add, Int64.ofInt_mul]
  rfl
theorem slZ_s (F : Nat → Int) (v : Nat → Int64) (k : Nat) : slZ F v k + Int64.ofInt (F k) * (v k &&& 4294967295) = slZ F v (k + 1) := by
  rw [slZ, slZ, sumZ, z_to (v k &&& 4294967295), zand32, Int64.ofInt_add, Int64.ofInt_mul]
  rfl
theorem two_z (F : Nat → Int) (v : Nat → Int64) {n : Nat} (hn : n ≤ 64) (hF : ∀ k, k < n → -300000 ≤ F k ∧ F k ≤ 300000) (hv : inB v n 4000000000000000) : ∃ U L : Int, (suZ F v n + (slZ F v n >>> 32)).toInt = U ∧ sumZ (fun k => F k * vZ v k) n = U * 4294967296 + L ∧ 0 ≤ L ∧ L < 4294967296 ∧ ((suZ F v n + (slZ F v n >>> 32)) <<< 32) + (slZ F v n &&& 4294967295) = Int64.ofInt (sumZ (fun k => F k * vZ v k) n) := by
  have b1 := sumZ_le (f := fun k => F k * (vZ v k / 4294967296)) (C := 300000 * 1000000) (m := n) (fun k hk => by
    have hb := hv k hk
    exact zmul_le (hF k hk).1 (hF k hk).2 (by unfold vZ; omega) (by unfold vZ; omega))
  have b2 := sumZ_le (f := fun k => F k * (vZ v k % 4294967296)) (C := 300000 * 4294967296) (m := n) (fun k hk => by
    exact zmul_le (hF k hk).1 (hF k hk).2 (by omega) (by omega))
  have e0 := sumZ_hl F (vZ v) n
  have t1 : (suZ F v n).toInt = sumZ (fun k => F k * (vZ v k / 4294967296)) n := by
    rw [suZ]
    exact zin (by omega) (by omega)
  have t2 : (slZ F v n).toInt = sumZ (fun k => F k * (vZ v k % 4294967296)) n := by
    rw [slZ]
    exact zin (by omega) (by omega)
  generalize sumZ (fun k => F k * (vZ v k / 4294967296)) n = SU at b1 e0 t1
  generalize sumZ (fun k => F k * (vZ v k % 4294967296)) n = SL at b2 e0 t2
  have t3 : suZ F v n + (slZ F v n >>> 32) = Int64.ofInt (SU + SL / 4294967296) := by
    rw [z_to (suZ F v n), z_to (slZ F v n >>> 32), zshr32, t1, t2, Int64.ofInt_add]
  have t4 : (Int64.ofInt (SU + SL / 4294967296)).toInt = SU + SL / 4294967296 := zin (by omega) (by omega)
  refine ⟨SU + SL / 4294967296, SL % 4294967296, by rw [t3, t4], by omega, by omega, by omega, ?_⟩
  rw [t3, zshl32, t4, z_to (slZ F v n &&& 4294967295), zand32, t2, ← Int64.ofInt_add]
  congr 1
  omega
/-- the model's own way to a TONE's mask: what is turned so far, what is left -/
def mtT (i : Nat) : Nat → Int32 × Int32
  | 0 => (nI 0, grI i)
  | b + 1 => (nI 2 * (mtT i b).1 + ((mtT i b).2 &&& nI 1), (mtT i b).2 >>> (nI 1 &&& 31))
theorem mt_eq : ∀ p, p < 7 → ∀ i, i < 64 → (mtT i p).1 = tmF (grI i) p ∧ (tmF (grI i) p) = nI (tmF (grI i) p).toInt.toNat ∧ (tmF (grI i) p).toInt.toNat < 64 := by decide +kernel
def orX : Nat → Nat → Int32 → Int32
  | 0, _, o => o
  | m + 1, c, o => if c = 0 then o else orX m (c / 2) (o ^^^ (nI c &&& nI 1))
theorem or_eq : ∀ c, c < 64 → ((orX 7 c (nI 0)).toInt = 1 ↔ (bcI (nI c) &&& nI 1).toInt = 1) := by decide +kernel
theorem z_and : ∀ t, t < 64 → ∀ k, k < 64 → nI t &&& nI k = nI (t &&& k) ∧ t &&& k < 64 := by decide +kernel
theorem z_half : ∀ c, c < 64 → nI c >>> (nI 1 &&& 31) = nI (c / 2) := by decide +kernel
theorem p2_k : ∀ b, b ≤ 6 → nI 2 * nI (2 ^ b) = nI (2 ^ (b + 1)) := by decide
