/-! what the garden is, as numbers: no machine here -/
def N (x : Int32) : Nat := x.toNatClampNeg
/-- a number from 0 to n -/
def sm (x : Int32) (n : Nat) : Prop := x = nI (N x) ∧ N x ≤ n
theorem N_nI {k : Nat} (h : k < 2 ^ 31) : N (nI k) = k := nI_clamp h
theorem sm_nI {k n : Nat} (h : k ≤ n) (hn : n < 2 ^ 31) : sm (nI k) n := by
  refine ⟨by rw [N_nI (by omega)], by rw [N_nI (by omega)]; exact h⟩
theorem sm_of {x : Int32} {n : Nat} (h1 : 0 ≤ x) (h2 : x ≤ nI n) (hn : n < 2 ^ 31) : sm x n := by
  obtain ⟨j, hj, rfl⟩ := nI_of (x := x) (by intro h; rw [Int32.lt_iff_toInt_lt] at h; rw [Int32.le_iff_toInt_le] at h1; omega)
  have := (nI_leI hj hn).mp h2
  exact sm_nI this hn
theorem sm.le {x : Int32} {n m : Nat} (h : sm x n) (hm : n ≤ m) : sm x m := ⟨h.1, Nat.le_trans h.2 hm⟩
def un {α : Type} (f : Nat → α) (k : Nat) (v : α) : Nat → α := fun j => if j = k then v else f j
theorem un_s {α : Type} (f : Nat → α) (k : Nat) (v : α) : un f k v k = v := by simp [un]
theorem un_n {α : Type} (f : Nat → α) {k j : Nat} (v : α) (h : j ≠ k) : un f k v j = f j := by simp [un, h]
def anyB (p : Nat → Bool) : Nat → Bool
  | 0 => false
  | n + 1 => anyB p n || p n
def allB (p : Nat → Bool) : Nat → Bool
  | 0 => true
  | n + 1 => allB p n && p n
theorem anyB_iff (p : Nat → Bool) : ∀ n, anyB p n = true ↔ ∃ k, k < n ∧ p k = true
  | 0 => by simp [anyB]
  | n + 1 => by
    rw [anyB, Bool.or_eq_true, anyB_iff p n]
    refine ⟨fun h => ?_, fun ⟨k, h1, h2⟩ => ?_⟩
    · rcases h with ⟨k, h1, h2⟩ | h
      · exact ⟨k, by omega, h2⟩
      · exact ⟨n, by omega, h⟩
    · by_cases hk : k = n
      · subst hk; exact Or.inr h2
      · exact Or.inl ⟨k, by omega, h2⟩
theorem allB_iff (p : Nat → Bool) : ∀ n, allB p n = true ↔ ∀ k, k < n → p k = true
  | 0 => by simp [allB]
  | n + 1 => by
    rw [allB, Bool.and_eq_true, allB_iff p n]
    refine ⟨fun ⟨h1, h2⟩ k hk => ?_, fun h => ⟨fun k hk => h k (by omega), h n (by omega)⟩⟩
    by_cases e : k = n
    · subst e; exact h2
    · exact h1 k (by omega)
theorem anyB_f {p : Nat → Bool} {n : Nat} (h : ∀ k, k < n → p k = false) : anyB p n = false := by
  cases e : anyB p n with
  | false => rfl
  | true =>
    obtain ⟨k, h1, h2⟩ := (anyB_iff p n).mp e
    rw [h k h1] at h2
    cases h2
theorem anyB_t {p : Nat → Bool} {n k : Nat} (hk : k < n) (h : p k = true) : anyB p n = true := (anyB_iff p n).mpr ⟨k, hk, h⟩
theorem allB_t {p : Nat → Bool} {n : Nat} (h : ∀ k, k < n → p k = true) : allB p n = true := (allB_iff p n).mpr h
theorem allB_f {p : Nat → Bool} {n k : Nat} (hk : k < n) (h : p k = false) : allB p n = false := by
  cases e : allB p n with
  | false => rfl
  | true =>
    have := (allB_iff p n).mp e k hk
    rw [h] at this
    cases this
theorem anyB_cong {p q : Nat → Bool} {n : Nat} (h : ∀ k, k < n → p k = q k) : anyB p n = anyB q n := by
  induction n with
  | zero => rfl
  | succ n ih => rw [anyB, anyB, ih (fun k hk => h k (by omega)), h n (by omega)]
theorem allB_cong {p q : Nat → Bool} {n : Nat} (h : ∀ k, k < n → p k = q k) : allB p n = allB q n := by
  induction n with
  | zero => rfl
  | succ n ih => rw [allB, allB, ih (fun k hk => h k (by omega)), h n (by omega)]
def sumI (f : Nat → Int32) : Nat → Int32
  | 0 => 0
  | n + 1 => sumI f n + f n
theorem sumI_cong {f g : Nat → Int32} : ∀ {n : Nat}, (∀ k, k < n → f k = g k) → sumI f n = sumI g n
  | 0, _ => rfl
  | n + 1, h => by rw [sumI, sumI, sumI_cong (fun k hk => h k (by omega)), h n (by omega)]
/-- a set of buckets as bits -/
def bitsN (K : Nat → Bool) : Nat → Nat
  | 0 => 0
  | n + 1 => bitsN K n + (if K n then 2 ^ n else 0)
theorem bitsN_lt (K : Nat → Bool) : ∀ n, bitsN K n < 2 ^ n
  | 0 => by simp [bitsN]
  | n + 1 => by
    have := bitsN_lt K n
    rw [bitsN, Nat.pow_succ]
    split <;> omega
theorem bitsN_cong {K L : Nat → Bool} : ∀ {n : Nat}, (∀ k, k < n → K k = L k) → bitsN K n = bitsN L n
  | 0, _ => rfl
  | n + 1, h => by rw [bitsN, bitsN, bitsN_cong (fun k hk => h k (by omega)), h n (by omega)]
theorem bitsN_bit (K : Nat → Bool) : ∀ (n b : Nat), (bitsN K n).testBit b = (decide (b < n) && K b)
  | 0, b => by simp [bitsN]
  | n + 1, b => by
    have hl := bitsN_lt K n
    have hl1 := bitsN_lt K (n + 1)
    have ih := bitsN_bit K n b
    rcases Nat.lt_trichotomy b n with h | h | h
    · have e : (bitsN K (n + 1)).testBit b = (bitsN K n).testBit b := by
        rw [bitsN]
        by_cases hk : K n = true
        · rw [if_pos hk, Nat.add_comm, Nat.testBit_two_pow_add_gt h]
        · rw [if_neg hk, Nat.add_zero]
      rw [e, ih]
      simp [h, Nat.lt_succ_of_lt h]
    · subst h
      have h0 : (bitsN K b).testBit b = false := Nat.testBit_lt_two_pow hl
      rw [bitsN]
      by_cases hk : K b = true
      · rw [if_pos hk, Nat.add_comm, Nat.testBit_two_pow_add_eq, h0]
        simp [hk]
      · rw [if_neg hk, Nat.add_zero, h0]
        simp at hk
        simp [hk]
    · have h0 : (bitsN K (n + 1)).testBit b = false := Nat.testBit_lt_two_pow (Nat.lt_of_lt_of_le hl1 (Nat.pow_le_pow_right (by omega) (by omega)))
      rw [h0]
      simp [show ¬ b < n + 1 by omega]
/-- the weather at a tick: the latest spell not above it so far, and what it is -/
def wetF (fr we : Nat → Int32) (t : Int32) : Nat → Int32 × Int32
  | 0 => (0, 0)
  | n + 1 => if (wetF fr we t n).1 ≤ fr n ∧ fr n ≤ t then (fr n, we n) else wetF fr we t n
/-! the state of a course: what buckets hold, how long they are still down, what comes (0: now .. 20), counts (dripped, brook, lost), knocks, last knocks -/
abbrev St : Type := (Nat → Int32) × (Nat → Nat) × (Nat → Nat → Int32) × (Nat → Int32) × (Nat → Int32) × (Nat → Int32)
abbrev sH (S : St) : Nat → Int32 := S.1
abbrev sD (S : St) : Nat → Nat := S.2.1
abbrev sC (S : St) : Nat → Nat → Int32 := S.2.2.1
abbrev sQ (S : St) : Nat → Int32 := S.2.2.2.1
abbrev sK (S : St) : Nat → Int32 := S.2.2.2.2.1
abbrev sL (S : St) : Nat → Int32 := S.2.2.2.2.2
abbrev mkS (h : Nat → Int32) (d : Nat → Nat) (c : Nat → Nat → Int32) (q k l : Nat → Int32) : St := (h, d, c, q, k, l)
def S0 : St := mkS (fun _ => 0) (fun _ => 0) (fun _ _ => 0) (fun _ => 0) (fun _ => 0) (fun _ => -1)
def frogB (c : MI) (s t : Nat) : Bool := anyB (fun k => decide (c 13 k = nI s) && (decide (c 14 k ≤ nI t) && decide (nI t ≤ c 15 k))) (N (c 12 0))
def dueB (c : MI) (s t : Nat) : Bool := decide (N (c 11 s) ≤ t) && decide ((t - N (c 11 s)) % N (c 10 s) = 0)
def wetP (c : MI) (t : Nat) : Int32 := (wetF (c 17) (c 18) (nI t) (N (c 16 0))).2
def heldB (c tw : MI) (s t : Nat) : Bool := decide (tw 2 s ≠ 0) || (decide (tw 0 0 = 0) && frogB c s t)
def waterP (c tw : MI) (t s : Nat) : Int32 := if 0 < c 9 s + tw 1 s + (if tw 0 0 = 0 then wetP c t else 0) then c 9 s + tw 1 s + (if tw 0 0 = 0 then wetP c t else 0) else 0
def pourP (b : Nat) (w : Int32) (S : St) : St := if sD S b = 0 then mkS (un (sH S) b (sH S b + w)) (sD S) (sC S) (sQ S) (sK S) (sL S) else mkS (sH S) (sD S) (sC S) (un (sQ S) 1 (sQ S 1 + w)) (sK S) (sL S)
def addQ (i : Nat) (w : Int32) (S : St) : St := mkS (sH S) (sD S) (sC S) (un (sQ S) i (sQ S i + w)) (sK S) (sL S)
def dripP (c tw : MI) (t s : Nat) (S : St) : St := if (dueB c s t && !(heldB c tw s t)) = true then pourP (N (c 8 s)) (waterP c tw t s) (addQ 0 (waterP c tw t s) S) else S
def dripsP (c tw : MI) (t : Nat) : Nat → St → St
  | 0, S => S
  | k + 1, S => dripP c tw t k (dripsP c tw t k S)
def setC (b j : Nat) (v : Int32) (S : St) : St := mkS (sH S) (sD S) (up2 (sC S) b j v) (sQ S) (sK S) (sL S)
def pipeP (b : Nat) (S : St) : St := setC b 0 0 (pourP b (sC S b 0) S)
def pipesP : Nat → St → St
  | 0, S => S
  | k + 1, S => pipeP k (pipesP k S)
def dryP (b : Nat) (S : St) : St := if sD S b = 0 ∧ 0 < sH S b then addQ 2 1 (mkS (un (sH S) b (sH S b - 1)) (sD S) (sC S) (sQ S) (sK S) (sL S)) else S
def driesP : Nat → St → St
  | 0, S => S
  | k + 1, S => dryP k (driesP k S)
def dryT (c : MI) (t : Nat) : Bool := decide (0 < N (c 1 4)) && decide (t % N (c 1 4) = 0)
def knB (c tw : MI) (b : Nat) (S : St) : Bool := decide (sD S b = 0) && (decide (c 3 b ≤ sH S b) && decide (tw 3 b = 0))
/-- where a knock's water goes: the brook, or a pipe -/
def brookB (c tw : MI) (b : Nat) : Bool := decide (tw 4 b ≠ 0) || decide (c 5 b < 0)
def fallP (c tw : MI) (b : Nat) (S : St) : St := if brookB c tw b = true then addQ 1 (sH S b) S else setC (N (c 5 b)) (N (c 6 b)) (sC S (N (c 5 b)) (N (c 6 b)) + sH S b) S
def tipP (c tw : MI) (t b : Nat) (S : St) : St := mkS (un (sH (fallP c tw b S)) b 0) (un (sD (fallP c tw b S)) b (N (c 4 b))) (sC (fallP c tw b S)) (sQ (fallP c tw b S)) (un (sK (fallP c tw b S)) b (sK (fallP c tw b S) b + 1)) (un (sL (fallP c tw b S)) b (nI t))
def turnP (c tw : MI) (t b : Nat) (S : St) : St := if 0 < sD S b then mkS (sH S) (un (sD S) b (sD S b - 1)) (sC S) (sQ S) (sK S) (sL S) else if knB c tw b S = true then tipP c tw t b S else S
def turnsP (c tw : MI) (t : Nat) : Nat → St → St
  | 0, S => S
  | k + 1, S => turnP c tw t k (turnsP c tw t k S)
def shiftP (S : St) : St := mkS (sH S) (sD S) (fun b j => sC S b (j + 1)) (sQ S) (sK S) (sL S)
/-- ahead of the knocks -/
def wateredP (c tw : MI) (t : Nat) (S : St) : St := if dryT c t = true then driesP (N (c 2 0)) (pipesP (N (c 2 0)) (dripsP c tw t (N (c 7 0)) S)) else pipesP (N (c 2 0)) (dripsP c tw t (N (c 7 0)) S)
def setP (c tw : MI) (t : Nat) (S : St) (b : Nat) : Bool := knB c tw b (turnsP c tw t b (wateredP c tw t S))
def stepP (c tw : MI) (t : Nat) (S : St) : St := shiftP (turnsP c tw t (N (c 2 0)) (wateredP c tw t S))
def runP (c tw : MI) : Nat → St
  | 0 => S0
  | t + 1 => stepP c tw t (runP c tw t)
/-- the knocks of a run's tick, as bits -/
def knockN (c tw : MI) (t : Nat) : Nat := bitsN (setP c tw t (runP c tw t)) (N (c 2 0))
/-- what was told, well-formed (the class's cells 1 .. 18) -/
def WC (c : MI) : Prop :=
  (sm (c 2 0) 8 ∧ ∀ b, b < N (c 2 0) → sm (c 4 b) 20 ∧ (c 5 b = -1 ∨ (sm (c 5 b) 7 ∧ N (c 5 b) < N (c 2 0) ∧ sm (c 6 b) 20 ∧ 0 < N (c 6 b)))) ∧
  (sm (c 7 0) 4 ∧ ∀ s, s < N (c 7 0) → (sm (c 8 s) 7 ∧ N (c 8 s) < N (c 2 0)) ∧ (sm (c 10 s) 30 ∧ 0 < N (c 10 s)) ∧ sm (c 11 s) 30) ∧
  sm (c 12 0) 10 ∧ (sm (c 16 0) 10 ∧ ∀ k, k < N (c 16 0) → sm (c 17 k) 2000) ∧ sm (c 1 4) 50
/-- the same was told -/
def CX (c μ : MI) : Prop := ∀ k, 1 ≤ k → k ≤ 18 → ∀ j, μ k j = c k j
theorem CX.rf (c : MI) : CX c c := fun _ _ _ _ => rfl
/-- a flow's cells (f ..) hold a course's state at tick t -/
def RX (f t : Nat) (S : St) (μ : MI) : Prop :=
  (μ f 2 = nI t ∧ μ f 3 = sQ S 0 ∧ μ f 4 = sQ S 1 ∧ μ f 5 = sQ S 2) ∧
  (∀ b, b < 8 → μ (f + 1) b = sH S b ∧ μ (f + 2) b = nI (sD S b) ∧ sD S b ≤ 20 ∧ μ (f + 3) b = sK S b ∧ μ (f + 4) b = sL S b) ∧
  (∀ b, b < 8 → μ (f + 6 + b) (t % 20) = sC S b 0 + sC S b 20 ∧ ∀ j, 0 < j → j < 20 → μ (f + 6 + b) ((t + j) % 20) = sC S b j)
/-- only cells lo .. lo + n - 1 changed -/
def Fr (lo n : Nat) (μ μ' : MI) : Prop := ∀ a, (a < lo ∨ lo + n ≤ a) → ∀ j, μ' a j = μ a j
theorem Fr.rf {lo n : Nat} {μ : MI} : Fr lo n μ μ := fun _ _ _ => rfl
theorem Fr.tr {lo n : Nat} {μ μ' μ'' : MI} (h : Fr lo n μ μ') (h2 : Fr lo n μ' μ'') : Fr lo n μ μ'' := fun a ha j => (h2 a ha j).trans (h a ha j)
theorem Fr.up {lo n k j : Nat} {μ : MI} {v : Int32} (h1 : lo ≤ k) (h2 : k < lo + n) : Fr lo n μ (up2 μ k j v) := fun a ha i => up2_a μ v (by omega)
