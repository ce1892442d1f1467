/-! bits of a long, counted as Long.bitCount does -/
theorem and_256 {a b c d : Nat} (hb : b < 256) (hd : d < 256) : (a * 256 + b) &&& (c * 256 + d) = (a &&& c) * 256 + (b &&& d) := by
  apply Nat.eq_of_testBit_eq
  intro i
  have e : ∀ (x y : Nat), y < 256 → (x * 256 + y).testBit i = if i < 8 then y.testBit i else x.testBit (i - 8) := by
    intro x y hy
    have := Nat.testBit_two_pow_mul_add x (show y < 2 ^ 8 from hy) i
    rw [show (2 : Nat) ^ 8 = 256 by decide, Nat.mul_comm] at this
    exact this
  rw [Nat.testBit_and, e a b hb, e c d hd, e (a &&& c) (b &&& d) (Nat.lt_of_le_of_lt Nat.and_le_left hb)]
  split
  · rw [Nat.testBit_and]
  · rw [Nat.testBit_and]
/-- a byte, k times over -/
def msk (m : Nat) : Nat → Nat
  | 0 => 0
  | k + 1 => msk m k * 256 + m
def bc1 (k n : Nat) : Nat := n - (n / 2 &&& msk 85 k)
def bc2 (k x : Nat) : Nat := (x &&& msk 51 k) + (x / 4 &&& msk 51 k)
def bc3 (k x : Nat) : Nat := (x + x / 16) &&& msk 15 k
theorem bc_leak1 : ∀ h, h < 2 → ∀ r, r < 256 → (h * 128 + r / 2) &&& 85 = r / 2 &&& 85 ∧ (r / 2 &&& 85) ≤ r := by decide +kernel
theorem bc_byte1 : ∀ r, r < 256 → r - (r / 2 &&& 85) < 256 := by decide +kernel
theorem bc_leak2 : ∀ h, h < 4 → ∀ r, r < 256 → (h * 64 + r / 4) &&& 51 = r / 4 &&& 51 := by decide +kernel
theorem bc_byte2 : ∀ r, r < 256 → (r &&& 51) + (r / 4 &&& 51) < 256 := by decide +kernel
theorem bc_byte12 : ∀ r, r < 256 → ((r - (r / 2 &&& 85)) &&& 51) + ((r - (r / 2 &&& 85)) / 4 &&& 51) ≤ 68 ∧ (((r - (r / 2 &&& 85)) &&& 51) + ((r - (r / 2 &&& 85)) / 4 &&& 51)) % 16 ≤ 4 := by decide +kernel
theorem bc_leak3 : ∀ h, h < 5 → ∀ x, x < 69 → (x + (h * 16 + x / 16)) &&& 15 = (x + x / 16) &&& 15 := by decide +kernel
theorem bc_byte3 : ∀ r, r < 256 → (((r - (r / 2 &&& 85)) &&& 51) + ((r - (r / 2 &&& 85)) / 4 &&& 51) + (((r - (r / 2 &&& 85)) &&& 51) + ((r - (r / 2 &&& 85)) / 4 &&& 51)) / 16) &&& 15 = popN r 8 := by decide +kernel
theorem bc1_s (k q : Nat) {r : Nat} (hr : r < 256) : bc1 (k + 1) (q * 256 + r) = bc1 k q * 256 + (r - (r / 2 &&& 85)) := by
  obtain ⟨h1, h2⟩ := bc_leak1 (q % 2) (by omega) r hr
  have e : (q * 256 + r) / 2 = q / 2 * 256 + (q % 2 * 128 + r / 2) := by omega
  have hle : (q / 2 &&& msk 85 k) ≤ q := Nat.le_trans Nat.and_le_left (by omega)
  unfold bc1
  rw [msk, e, and_256 (by omega) (by omega), h1]
  have : (q / 2 &&& msk 85 k) * 256 ≤ q * 256 := Nat.mul_le_mul_right _ hle
  rw [Nat.sub_mul]
  omega
theorem bc2_s (k q : Nat) {r : Nat} (hr : r < 256) : bc2 (k + 1) (q * 256 + r) = bc2 k q * 256 + ((r &&& 51) + (r / 4 &&& 51)) := by
  have h1 := bc_leak2 (q % 4) (by omega) r hr
  have e : (q * 256 + r) / 4 = q / 4 * 256 + (q % 4 * 64 + r / 4) := by omega
  unfold bc2
  rw [msk, e, and_256 hr (by omega), and_256 (by omega) (by omega), h1, Nat.add_mul]
  omega
theorem bc3_s (k q : Nat) {x : Nat} (hx : x < 69) (hq : q % 16 ≤ 4) : bc3 (k + 1) (q * 256 + x) = bc3 k q * 256 + ((x + x / 16) &&& 15) := by
  have h1 := bc_leak3 (q % 16) (by omega) x hx
  have e : q * 256 + x + (q * 256 + x) / 16 = (q + q / 16) * 256 + (x + (q % 16 * 16 + x / 16)) := by omega
  unfold bc3
  rw [msk, e, and_256 (by omega) (by omega), h1]
/-- the bytes' counts, a byte each -/
def bcY : Nat → Nat → Nat
  | 0, _ => 0
  | k + 1, n => bcY k (n / 256) * 256 + popN (n % 256) 8
theorem bc_low : ∀ (k n : Nat), bc2 k (bc1 k n) % 16 ≤ 4 := by
  intro k n
  cases k with
  | zero => simp [bc2, msk]
  | succ k =>
    have e : n = n / 256 * 256 + n % 256 := by omega
    have hr : n % 256 < 256 := Nat.mod_lt _ (by omega)
    have h := (bc_byte12 _ hr).2
    rw [e, bc1_s k _ hr, bc2_s k _ (bc_byte1 _ hr)]
    omega
theorem bc_all : ∀ (k n : Nat), n < 256 ^ k → bc3 k (bc2 k (bc1 k n)) = bcY k n
  | 0, n, h => by simp [bc3, msk, bcY]
  | k + 1, n, h => by
    have e : n = n / 256 * 256 + n % 256 := by omega
    have hr : n % 256 < 256 := Nat.mod_lt _ (by omega)
    have hq : n / 256 < 256 ^ k := Nat.div_lt_of_lt_mul (by rw [Nat.mul_comm, ← Nat.pow_succ]; exact h)
    have h1 := (bc_byte12 _ hr).1
    have h2 : bc1 (k + 1) n = bc1 k (n / 256) * 256 + (n % 256 - (n % 256 / 2 &&& 85)) := by
      conv => lhs; rw [e]
      exact bc1_s k _ hr
    rw [h2, bc2_s k _ (bc_byte1 _ hr), bc3_s k _ (by omega) (bc_low k _), bc_byte3 _ hr, bc_all k _ hq, bcY]
theorem popN_add (n a : Nat) : ∀ m, popN n (a + m) = popN n a + popN (n / 2 ^ a) m
  | 0 => rfl
  | m + 1 => by
    rw [← Nat.add_assoc, popN, popN, popN_add n a m, Nat.div_div_eq_div_mul, ← Nat.pow_add]
    omega
theorem popN_mod (n : Nat) : ∀ m, popN (n % 2 ^ m) m = popN n m := by
  have key : ∀ (k m : Nat), m ≤ k → popN (n % 2 ^ k) m = popN n m := by
    intro k m
    induction m with
    | zero => intro _; rfl
    | succ m ih =>
      intro h
      rw [popN, popN, ih (by omega)]
      congr 1
      have h1 : (n % 2 ^ k).testBit m = n.testBit m := by rw [Nat.testBit_mod_two_pow]; simp [show m < k by omega]
      rw [Nat.testBit_eq_decide_div_mod_eq, Nat.testBit_eq_decide_div_mod_eq] at h1
      have h2 := decide_eq_decide.mp h1
      omega
  exact fun m => key m m (Nat.le_refl m)
theorem popN_le (n : Nat) : ∀ m, popN n m ≤ m
  | 0 => Nat.le_refl 0
  | m + 1 => by
    have := popN_le n m
    rw [popN]
    omega
/-- numbers of bytes, the lowest first -/
def dgs (p : Nat → Nat) : Nat → Nat
  | 0 => 0
  | k + 1 => dgs (fun i => p (i + 1)) k * 256 + p 0
theorem dgs_0 {p : Nat → Nat} {k : Nat} (h : p 0 < 256) (hz : k = 0 → p 0 = 0) : dgs p k % 256 = p 0 ∧ dgs p k / 256 = dgs (fun i => p (i + 1)) (k - 1) := by
  cases k with
  | zero =>
    rw [hz rfl]
    simp [dgs]
  | succ k =>
    rw [dgs, Nat.add_sub_cancel]
    generalize dgs (fun i => p (i + 1)) k = q
    omega
theorem ar_D (a b c : Nat) (h : a % 256 = c) : a * 256 + b + (a * 256 + b) / 256 = (a + a / 256) * 256 + (b + c) ∨ ¬ b < 256 := by omega
theorem ar_E (a b c : Nat) (h : a / 256 % 256 = c) : a * 256 + b + (a * 256 + b) / 65536 = (a + a / 65536) * 256 + (b + c) ∨ ¬ b < 256 := by omega
theorem dgs_D : ∀ (k : Nat) (p : Nat → Nat), (∀ i, p i < 256) → (∀ i, k ≤ i → p i = 0) → dgs p k + dgs p k / 256 = dgs (fun i => p i + p (i + 1)) k
  | 0, p, h, hz => by simp [dgs]
  | k + 1, p, h, hz => by
    have ih := dgs_D k (fun i => p (i + 1)) (fun i => h (i + 1)) (fun i hi => hz (i + 1) (by omega))
    have h0 := (dgs_0 (p := fun i => p (i + 1)) (k := k) (h 1) (fun e => hz 1 (by omega))).1
    rcases ar_D _ (p 0) _ h0 with e | e
    · rw [dgs, e, dgs, ih]
    · exact absurd (h 0) e
theorem dgs_E : ∀ (k : Nat) (p : Nat → Nat), (∀ i, p i < 256) → (∀ i, k ≤ i → p i = 0) → dgs p k + dgs p k / 65536 = dgs (fun i => p i + p (i + 2)) k
  | 0, p, h, hz => by simp [dgs]
  | k + 1, p, h, hz => by
    have ih := dgs_E k (fun i => p (i + 1)) (fun i => h (i + 1)) (fun i hi => hz (i + 1) (by omega))
    have h0 := (dgs_0 (p := fun i => p (i + 1)) (k := k) (h 1) (fun e => hz 1 (by omega))).2
    have h1 := (dgs_0 (p := fun i => p (i + 2)) (k := k - 1) (h 2) (fun e => hz 2 (by omega))).1
    have h2 : dgs (fun i => p (i + 1)) k / 256 % 256 = p 2 := by rw [h0]; exact h1
    rcases ar_E _ (p 0) _ h2 with e | e
    · rw [dgs, e, dgs, ih]
    · exact absurd (h 0) e
theorem d32 (z : Nat) : z / 4294967296 = z / 256 / 256 / 256 / 256 := by rw [Nat.div_div_eq_div_mul, Nat.div_div_eq_div_mul, Nat.div_div_eq_div_mul]
theorem mod128 {w u a b : Nat} (h1 : w % 256 = a) (h2 : u % 256 = b) (h : a + b < 128) : (w + u) % 128 = a + b := by omega
def bc6 (y : Nat) : Nat := (y + y / 256 + (y + y / 256) / 65536) + (y + y / 256 + (y + y / 256) / 65536) / 4294967296
theorem bc6_dgs (p : Nat → Nat) (h : ∀ i, p i ≤ 8) (hz : ∀ i, 8 ≤ i → p i = 0) : bc6 (dgs p 8) % 128 = (p 0 + p 1 + (p 2 + p 3)) + (p 4 + p 5 + (p 6 + p 7)) := by
  have hb : ∀ i, p i < 256 := fun i => by have := h i; omega
  have e1 := dgs_D 8 p hb hz
  have hb2 : ∀ i, p i + p (i + 1) < 256 := fun i => by have := h i; have := h (i + 1); omega
  have e2 := dgs_E 8 (fun i => p i + p (i + 1)) hb2 (fun i hi => by show p i + p (i + 1) = 0; rw [hz i hi, hz (i + 1) (by omega)])
  have hb3 : ∀ i, p i + p (i + 1) + (p (i + 2) + p (i + 2 + 1)) < 256 := fun i => by have := h i; have := h (i + 1); have := h (i + 2); have := h (i + 2 + 1); omega
  have hz3 : ∀ i, 8 ≤ i → p i + p (i + 1) + (p (i + 2) + p (i + 2 + 1)) = 0 := fun i hi => by rw [hz i hi, hz (i + 1) (by omega), hz (i + 2) (by omega), hz (i + 2 + 1) (by omega)]
  unfold bc6
  rw [e1, e2, d32]
  have f0 := dgs_0 (p := fun i => p i + p (i + 1) + (p (i + 2) + p (i + 2 + 1))) (k := 8) (hb3 0) (fun e => by omega)
  have f1 := dgs_0 (p := fun i => p (i + 1) + p (i + 1 + 1) + (p (i + 1 + 2) + p (i + 1 + 2 + 1))) (k := 7) (hb3 1) (fun e => by omega)
  have f2 := dgs_0 (p := fun i => p (i + 1 + 1) + p (i + 1 + 1 + 1) + (p (i + 1 + 1 + 2) + p (i + 1 + 1 + 2 + 1))) (k := 6) (hb3 2) (fun e => by omega)
  have f3 := dgs_0 (p := fun i => p (i + 1 + 1 + 1) + p (i + 1 + 1 + 1 + 1) + (p (i + 1 + 1 + 1 + 2) + p (i + 1 + 1 + 1 + 2 + 1))) (k := 5) (hb3 3) (fun e => by omega)
  have f4 := dgs_0 (p := fun i => p (i + 1 + 1 + 1 + 1) + p (i + 1 + 1 + 1 + 1 + 1) + (p (i + 1 + 1 + 1 + 1 + 2) + p (i + 1 + 1 + 1 + 1 + 2 + 1))) (k := 4) (hb3 4) (fun e => by omega)
  have g4 : dgs (fun i => p i + p (i + 1) + (p (i + 2) + p (i + 2 + 1))) 8 / 256 / 256 / 256 / 256 % 256 = p 4 + p 5 + (p 6 + p 7) := by
    rw [f0.2]
    show dgs (fun i => p (i + 1) + p (i + 1 + 1) + (p (i + 1 + 2) + p (i + 1 + 2 + 1))) 7 / 256 / 256 / 256 % 256 = _
    rw [f1.2]
    show dgs (fun i => p (i + 1 + 1) + p (i + 1 + 1 + 1) + (p (i + 1 + 1 + 2) + p (i + 1 + 1 + 2 + 1))) 6 / 256 / 256 % 256 = _
    rw [f2.2]
    show dgs (fun i => p (i + 1 + 1 + 1) + p (i + 1 + 1 + 1 + 1) + (p (i + 1 + 1 + 1 + 2) + p (i + 1 + 1 + 1 + 2 + 1))) 5 / 256 % 256 = _
    rw [f3.2]
    exact f4.1
  exact mod128 f0.1 g4 (by have := h 0; have := h 1; have := h 2; have := h 3; have := h 4; have := h 5; have := h 6; have := h 7; show p 0 + p 1 + (p 2 + p 3) + (p 4 + p 5 + (p 6 + p 7)) < 128; omega)
theorem bcY_dgs : ∀ (k n : Nat), bcY k n = dgs (fun i => popN (n / 256 ^ i) 8) k
  | 0, n => rfl
  | k + 1, n => by
    rw [bcY, dgs, bcY_dgs k (n / 256)]
    have e : (fun i => popN (n / 256 / 256 ^ i) 8) = (fun i => popN (n / 256 ^ (i + 1)) 8) := by
      funext i
      rw [Nat.div_div_eq_div_mul, Nat.pow_succ, Nat.mul_comm]
    have e2 : popN (n % 256) 8 = popN n 8 := popN_mod n 8
    rw [e, e2]
    simp
theorem popN_0 : ∀ m, popN 0 m = 0
  | 0 => rfl
  | m + 1 => by rw [popN, popN_0 m]; simp
theorem bc_pop {n : Nat} (hn : n < 256 ^ 8) : bc6 (bcY 8 n) % 128 = popN n 64 := by
  rw [bcY_dgs, bc6_dgs (fun i => popN (n / 256 ^ i) 8) (fun i => popN_le _ _) (fun i hi => by
    have : n / 256 ^ i = 0 := Nat.div_eq_of_lt (Nat.lt_of_lt_of_le hn (Nat.pow_le_pow_right (by omega) hi))
    show popN (n / 256 ^ i) 8 = 0
    rw [this, popN_0])]
  have s : ∀ i m, popN (n / 256 ^ i) (8 + m) = popN (n / 256 ^ i) 8 + popN (n / 256 ^ (i + 1)) m := fun i m => by
    rw [popN_add, Nat.div_div_eq_div_mul, show (2 : Nat) ^ 8 = 256 by decide, ← Nat.pow_succ]
  have e0 : popN n 64 = popN (n / 256 ^ 0) (8 + 56) := by simp
  rw [e0, s 0 56, s 1 48, s 2 40, s 3 32, s 4 24, s 5 16, s 6 8]
  simp only [Nat.add_assoc]
theorem msk_8 : msk 85 8 = 6148914691236517205 ∧ msk 51 8 = 3689348814741910323 ∧ msk 15 8 = 1085102592571150095 := by decide +kernel
