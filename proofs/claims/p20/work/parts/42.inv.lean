/-! ===== WHAT HOLDS BETWEEN THE CALLS OF A SCRIPT ===== -/
theorem RND_n {c : MI} (hC : WC c) {a n n' : Nat} (h : RND c a n) (hn1 : 1 ≤ n') (hb : beatB c n' = true) (hE : EQ c 1000 (1000 + n')) (hmin : ∀ m, 1 ≤ m → m < n' → beatB c m = true → ¬ EQ c 1000 (1000 + m)) : n = n' := by
  obtain ⟨r1, r2, r3, r4, r5, r6, r7, r8⟩ := h
  have hle : n' ≤ n := by
    rcases Nat.lt_or_ge n n' with q | q
    · refine absurd ?_ (hmin n r3 q r5)
      have := EQ_on hC (by omega) r5 r6 (1000 - a)
      rw [show a + (1000 - a) = 1000 by omega] at this
      exact this
    · exact q
  have hmid : EQ c a (a + n') := by
    have h1 := EQ_many hC (by omega) r5 r6 1000
    have hbig : 1000 ≤ a + 1000 * n := by have : 1000 * 1 ≤ 1000 * n := Nat.mul_le_mul_left _ r3; omega
    have h2 := EQ_on hC (by omega) hb hE (a + 1000 * n - 1000)
    rw [show 1000 + (a + 1000 * n - 1000) = a + 1000 * n by omega] at h2
    have h3 : EQ c (a + n') (a + n' + 1000 * n) := by
      have h4 := EQ_on hC (by omega) r5 r6 n'
      exact EQ_many hC (by omega) r5 h4 1000
    rw [show a + 1000 * n + n' = a + n' + 1000 * n by omega] at h2
    exact (h1.tr h2).tr h3.sy
  rcases Nat.lt_or_ge n' n with q | q
  · exact absurd hmid (r8 n' hn1 q hb)
  · omega
/-- the gardens that go on hold the same; nothing is turned, nothing at fault -/
def LIVE (t : Nat) (S : St) (μ : MI) : Prop := RX 33 t S μ ∧ LV t S μ ∧ μ 75 22 = sumI (sK S) 8 ∧ TW 19 zeP μ ∧ B0 μ
/-- both heard the same -/
def HR (μ : MI) (ν : ML) : Prop := μ 29 0 = nI (heaN μ (N (μ 2 0))) ∧ ∀ b, b < 8 → (μ 97 b = 0 ↔ μ 30 b = 0) ∧ (¬ μ 30 b = 0 → b < N (μ 2 0) ∧ ν 98 b = ν 31 b ∧ uL (ν 31 b) < 2 ^ 60)
def IV (t : Nat) (S : St) (μ : MI) (ν : ML) : Prop := t ≤ 2000 ∧ WC μ ∧ CM μ μ ∧ LIVE t S μ ∧ GC (N (μ 2 0)) S ∧ GN (N (μ 2 0)) S ∧ HR μ ν
def INV (μ : MI) (ν : ML) : Prop := ∃ (t : Nat) (S : St), IV t S μ ν
theorem LIVE.ext {t : Nat} {S : St} {μ μ' : MI} (h : LIVE t S μ) (e1 : ∀ a, 19 ≤ a → a ≤ 23 → ∀ j, μ' a j = μ a j) (e2 : ∀ a, 33 ≤ a → a ≤ 46 → ∀ j, μ' a j = μ a j) (e3 : ∀ j, 21 ≤ j → j ≤ 25 → μ' 75 j = μ 75 j) (e4 : ∀ a j, (a = 89 ∨ a = 90) → j < 8 → μ' a j = μ a j) (e5 : ∀ j, j < 168 → μ' 91 j = μ 91 j) (e6 : ∀ a j, (a = 92 ∨ a = 93) → μ' a j = μ a j) (hB : B0 μ') : LIVE t S μ' := by
  obtain ⟨h1, h2, h3, h4, h5⟩ := h
  refine ⟨h1.ext (fun a ha j => e2 (33 + a) (by omega) (by omega) j), ⟨⟨⟨fun b hb => ?_, fun b hb => ?_, fun b hb j hj => ?_⟩, fun q => ?_⟩, ?_, fun b hb => ?_⟩, ?_, ?_, hB⟩
  · rw [e4 89 _ (Or.inl rfl) (by omega)]
    exact h2.1.1.1 b hb
  · rw [e4 90 _ (Or.inr rfl) (by omega)]
    exact h2.1.1.2.1 b hb
  · have := Nat.mod_lt (t + j) (show 0 < 21 by omega)
    rw [e5 _ (by omega)]
    exact h2.1.1.2.2 b hb j hj
  · obtain ⟨k1, k2, k3⟩ := h2.1.2 q
    exact ⟨(e3 23 (by omega) (by omega)).trans k1, (e3 24 (by omega) (by omega)).trans k2, (e3 25 (by omega) (by omega)).trans k3⟩
  · exact (e3 21 (by omega) (by omega)).trans h2.2.1
  · rw [e6 92 b (Or.inl rfl), e6 93 b (Or.inr rfl)]
    exact h2.2.2 b hb
  · exact (e3 22 (by omega) (by omega)).trans h3
  · exact ⟨(e1 19 (by omega) (by omega) 0).trans h4.1, fun s hs => ⟨(e1 20 (by omega) (by omega) s).trans (h4.2.1 s hs).1, (e1 21 (by omega) (by omega) s).trans (h4.2.1 s hs).2⟩, fun b hb => ⟨(e1 22 (by omega) (by omega) b).trans (h4.2.2 b hb).1, (e1 23 (by omega) (by omega) b).trans (h4.2.2 b hb).2⟩⟩
/-- the reference's scratch alone changed -/
def Ms (μ μ' : MI) : Prop := ∀ a j, ¬ ((a = 89 ∨ a = 90) ∧ 8 ≤ j) → ¬ (a = 91 ∧ 168 ≤ j) → a ≠ 94 → a ≠ 96 → a ≠ 99 → μ' a j = μ a j
theorem Ms.rf {μ : MI} : Ms μ μ := fun _ _ _ _ _ _ _ => rfl
theorem Ms.mr {μ μ' : MI} (h : Mr 1 μ μ') : Ms μ μ' := fun a j q1 q2 q3 q4 q5 => h a j (by omega) (by omega) (by omega)
theorem Ms.mk {μ μ' : MI} (h : Mk μ μ') : Ms μ μ' := fun a j q1 q2 q3 q4 q5 => h a j (by omega) (by omega) q4
theorem Ms.mf {μ μ' : MI} (h : Mf μ μ') : Ms μ μ' := fun a j q1 q2 q3 q4 q5 => h a j (by omega) (by omega) q3 q5
theorem WC.row {c μ : MI} (h : WC c) (e : ∀ a, 1 ≤ a → a ≤ 18 → ∀ j, μ a j = c a j) : WC μ := h.cx (fun k h1 h2 j => e k h1 h2 j)
/-- the same was told, in both -/
theorem CM.ext {c μ c' μ' : MI} (h : CM c μ) (e1 : ∀ a, 1 ≤ a → a ≤ 18 → ∀ j, c' a j = c a j) (e2 : ∀ j, j < 18 → μ' 75 j = μ 75 j) (e3 : ∀ a, 76 ≤ a → a ≤ 88 → ∀ j, μ' a j = μ a j) : CM c' μ' := by
  unfold CM at h ⊢
  have r : ∀ a, 1 ≤ a → a ≤ 18 → c' a = c a := fun a h1 h2 => funext (fun j => e1 a h1 h2 j)
  have s : ∀ a, 76 ≤ a → a ≤ 88 → μ' a = μ a := fun a h1 h2 => funext (fun j => e3 a h1 h2 j)
  rw [e2 0 (by omega), e2 5 (by omega), e2 10 (by omega), e2 14 (by omega), e2 17 (by omega), r 1 (by omega) (by omega), r 2 (by omega) (by omega), r 3 (by omega) (by omega), r 4 (by omega) (by omega), r 5 (by omega) (by omega), r 6 (by omega) (by omega), r 7 (by omega) (by omega), r 8 (by omega) (by omega), r 9 (by omega) (by omega), r 10 (by omega) (by omega), r 11 (by omega) (by omega), r 12 (by omega) (by omega), r 13 (by omega) (by omega), r 14 (by omega) (by omega), r 15 (by omega) (by omega), r 16 (by omega) (by omega), r 17 (by omega) (by omega), r 18 (by omega) (by omega), s 76 (by omega) (by omega), s 77 (by omega) (by omega), s 78 (by omega) (by omega), s 79 (by omega) (by omega), s 80 (by omega) (by omega), s 81 (by omega) (by omega), s 82 (by omega) (by omega), s 83 (by omega) (by omega), s 84 (by omega) (by omega), s 85 (by omega) (by omega), s 86 (by omega) (by omega), s 87 (by omega) (by omega), s 88 (by omega) (by omega)]
  exact h
theorem CM.sc {c μ μ' : MI} (h : CM c μ) (hS : Sc μ μ') : CM c μ' := h.ext (fun _ _ _ _ => rfl) (fun j _ => hS 75 (Or.inr (Or.inr (by omega))) j) (fun a h1 _ j => hS a (Or.inr (Or.inr (by omega))) j)
theorem B0.sc {μ μ' : MI} (h : B0 μ) (hS : Sc μ μ') : B0 μ' := ⟨fun s hs => (hS 94 (Or.inr (Or.inr (by omega))) s).trans (h.1 s hs), (hS 75 (Or.inr (Or.inr (by omega))) 28).trans h.2.1, (hS 75 (Or.inr (Or.inr (by omega))) 29).trans h.2.2⟩
theorem B0.mr {μ μ' : MI} (h : B0 μ) (hM : Mr 1 μ μ') : B0 μ' := h.mk (Mk.mr hM)
theorem heaN_ext {μ μ' : MI} (e : ∀ j, μ' 97 j = μ 97 j) (n : Nat) : heaN μ' n = heaN μ n := cntB_cong (fun k _ => by rw [e k])
theorem HR.ext {μ μ' : MI} {ν ν' : ML} (h : HR μ ν) (e1 : μ' 29 0 = μ 29 0) (e2 : μ' 2 0 = μ 2 0) (e3 : ∀ j, μ' 97 j = μ 97 j) (e4 : ∀ j, μ' 30 j = μ 30 j) (e5 : ∀ j, ν' 98 j = ν 98 j) (e6 : ∀ j, ν' 31 j = ν 31 j) : HR μ' ν' := by
  unfold HR
  rw [e1, e2, heaN_ext e3]
  refine ⟨h.1, fun b hb => ?_⟩
  rw [e3, e4, e5, e6]
  exact h.2 b hb
/-- after a look of both -/
theorem IV.look {t : Nat} {S : St} {μ μ1 μ2 : MI} {ν ν2 : ML} (h : IV t S μ ν) (hS : Sc μ μ1) (hM : Ms μ1 μ2) (hv : Sv ν ν2) (hB : B0 μ2) : IV t S μ2 ν2 := by
  obtain ⟨h1, h2, h3, h4, h5, h6, h7⟩ := h
  have c1 : ∀ a, a < 24 → ∀ j, μ2 a j = μ a j := fun a ha j => (hM a j (by omega) (by omega) (by omega) (by omega) (by omega)).trans (hS a (Or.inl ha) j)
  have c2 : ∀ a, 29 ≤ a → a ≠ 32 → a < 47 → ∀ j, μ2 a j = μ a j := fun a h1 h2 h3 j => (hM a j (by omega) (by omega) (by omega) (by omega) (by omega)).trans (hS a (Or.inr (Or.inl ⟨h1, h2, h3⟩)) j)
  have c3 : ∀ a, 75 ≤ a → a ≤ 88 → ∀ j, μ2 a j = μ a j := fun a h1 h2 j => (hM a j (by omega) (by omega) (by omega) (by omega) (by omega)).trans (hS a (Or.inr (Or.inr h1)) j)
  have c4 : ∀ a, (a = 92 ∨ a = 93 ∨ a = 97) → ∀ j, μ2 a j = μ a j := fun a h1 j => (hM a j (by omega) (by omega) (by omega) (by omega) (by omega)).trans (hS a (Or.inr (Or.inr (by omega))) j)
  have e20 := c1 2 (by omega) 0
  refine ⟨h1, h2.row (fun a k1 k2 j => c1 a (by omega) j), h3.ext (fun a k1 k2 j => c1 a (by omega) j) (fun j _ => c3 75 (by omega) (by omega) j) (fun a k1 k2 j => c3 a (by omega) (by omega) j), h4.ext (fun a k1 k2 j => c1 a (by omega) j) (fun a k1 k2 j => c2 a (by omega) (by omega) (by omega) j) (fun j _ _ => c3 75 (by omega) (by omega) j) (fun a j k1 k2 => ?_) (fun j k1 => ?_) (fun a j k1 => c4 a (by omega) j) hB, by rw [e20]; exact h5, by rw [e20]; exact h6, h7.ext (c2 29 (by omega) (by omega) (by omega) 0) e20 (fun j => c4 97 (by omega) j) (fun j => c2 30 (by omega) (by omega) (by omega) j) (fun j => hv 98 j (by omega)) (fun j => hv 31 j (by omega))⟩
  · exact (hM a j (by omega) (by omega) (by omega) (by omega) (by omega)).trans (hS a (Or.inr (Or.inr (by omega))) j)
  · exact (hM 91 j (by omega) (by omega) (by omega) (by omega) (by omega)).trans (hS 91 (Or.inr (Or.inr (by omega))) j)
theorem pipes_eq {t : Nat} {S : St} {μ : MI} (hR : RX 33 t S μ) (hG : ∀ b, b < 8 → sC S b 20 = 0) {k : Nat} (hk : k < 8) : sumI (μ (33 + 6 + k)) 20 = sumI (sC S k) 21 := by
  obtain ⟨h1, h2⟩ := hR.2.2 k hk
  rw [hG k hk, i32_add0] at h1
  have e : sumI (fun j => μ (33 + 6 + k) ((t + j) % 20)) 20 = sumI (sC S k) 20 := sumI_cong (fun j hj => by
    rcases Nat.eq_zero_or_pos j with q | q
    · subst q
      exact h1
    · exact h2 j q hj)
  rw [sumI_rot (μ (33 + 6 + k)) (by omega) t] at e
  rw [e]
  show _ = sumI (sC S k) 20 + sC S k 20
  rw [hG k hk, i32_add0]
/-- what is told, counted: the class's own words and the reference's -/
theorem told_eq {t : Nat} {S : St} {μ : MI} (hR : RX 33 t S μ) (hG : ∀ b, b < 8 → sC S b 20 = 0) {k j : Nat} (hk : k < 8) (hj : j < 9) : toldN μ k j = tolS μ S k j := by
  obtain ⟨h1, h2, h3, h4, h5⟩ := hR.2.1 k hk
  rcases (show j = 0 ∨ j = 1 ∨ j = 2 ∨ j = 3 ∨ j = 4 ∨ j = 5 ∨ j = 6 ∨ j = 7 ∨ j = 8 by omega) with rfl | rfl | rfl | rfl | rfl | rfl | rfl | rfl | rfl
  · rfl
  · rfl
  · rfl
  · rfl
  · exact h1
  · exact h2
  · exact h4
  · exact h5
  · exact pipes_eq hR hG hk
theorem sumI_more (f : Nat → Int32) (n : Nat) : ∀ m, (∀ k, n ≤ k → k < n + m → f k = 0) → sumI f (n + m) = sumI f n
  | 0, _ => rfl
  | m + 1, h => by
    rw [← Nat.add_assoc, sumI, sumI_more f n m (fun k h1 h2 => h k h1 (by omega)), h (n + m) (by omega) (by omega), i32_add0]
theorem sumI_8 (f : Nat → Int32) {n : Nat} (hn : n ≤ 8) (h : ∀ k, n ≤ k → k < 8 → f k = 0) : sumI f 8 = sumI f n := by
  have := sumI_more f n (8 - n) (fun k h1 h2 => h k h1 (by omega))
  rwa [show n + (8 - n) = 8 by omega] at this
theorem count_eq {t : Nat} {S : St} {μ : MI} {ν : ML} (h : IV t S μ ν) {j : Nat} (hj : j < 12) : countN μ j = couM S (N (μ 2 0)) μ j := by
  obtain ⟨h1, h2, h3, ⟨l1, l2, l3, l4, l5⟩, h5, h6, h7⟩ := h
  have hnb := h2.1.1.2
  have hG : ∀ b, b < 8 → sC S b 20 = 0 := fun b hb => h5.1 b 20 hb (by omega)
  obtain ⟨q1, q2, q3⟩ := l2.1.2 rfl
  rcases (show j = 0 ∨ j = 1 ∨ j = 2 ∨ j = 3 ∨ j = 4 ∨ j = 5 ∨ j = 6 ∨ j = 7 ∨ j = 8 ∨ j = 9 ∨ j = 10 ∨ j = 11 by omega) with rfl | rfl | rfl | rfl | rfl | rfl | rfl | rfl | rfl | rfl | rfl | rfl
  · exact l1.1.1.trans l2.2.1.symm
  · exact h3.1.1.symm
  · exact h3.1.2.1.symm
  · exact h3.1.2.2.1.symm
  · exact h3.1.2.2.2.1.symm
  · show sumI (μ 36) 8 = μ 75 22
    rw [l3]
    exact sumI_cong (fun b hb => (l1.2.1 b hb).2.2.2.1)
  · exact l1.1.2.1.trans q1.symm
  · show sumI (μ 34) 8 = sumI (sH S) (N (μ 2 0))
    rw [← sumI_8 (sH S) hnb (fun k k1 k2 => (h6 k k1).1)]
    exact sumI_cong (fun b hb => (l1.2.1 b hb).1)
  · show sumI (fun b => sumI (μ (33 + 6 + b)) 20) 8 = sumI (fun b => sumI (sC S b) 21) (N (μ 2 0))
    rw [← sumI_8 (fun b => sumI (sC S b) 21) hnb (fun k k1 k2 => by
      have : sumI (sC S k) 21 = sumI (sC S k) 0 := by
        have := sumI_more (sC S k) 0 21 (fun j _ _ => (h6 k k1).2.2 j)
        exact this
      exact this)]
    exact sumI_cong (fun b hb => pipes_eq l1 hG hb)
  · exact l1.1.2.2.1.trans q2.symm
  · exact l1.1.2.2.2.trans q3.symm
  · exact h7.1
/-- the blame's eyes -/
theorem bits_of {r : Int64} {K : Nat → Bool} (hr : uL r < 2 ^ 60) : (∀ t, t < 60 → uL r / 2 ^ t % 2 = if K t = true then 1 else 0) ↔ lN (bitsN K 60) = r := by
  have hb := bitsN_lt K 60
  have hbit : ∀ t, t < 60 → bitsN K 60 / 2 ^ t % 2 = if K t = true then 1 else 0 := fun t ht => by
    rw [bitsN_div]
    by_cases q : K t = true
    · rw [if_pos ⟨ht, q⟩, if_pos q]
    · rw [if_neg (fun z => q z.2), if_neg q]
  constructor
  · intro h
    rw [← lN_uL r]
    congr 1
    apply Nat.eq_of_testBit_eq
    intro i
    rcases Nat.lt_or_ge i 60 with q | q
    · rw [Nat.testBit_eq_decide_div_mod_eq, Nat.testBit_eq_decide_div_mod_eq, h i q, hbit i q]
    · rw [Nat.testBit_lt_two_pow (Nat.lt_of_lt_of_le hb (Nat.pow_le_pow_right (by omega) q)), Nat.testBit_lt_two_pow (Nat.lt_of_lt_of_le hr (Nat.pow_le_pow_right (by omega) q))]
  · intro h t ht
    rw [← h, uL_lN (Nat.lt_trans hb (by decide))]
    exact hbit t ht
theorem fit_eq {t : Nat} {S : St} {μ : MI} {ν : ML} (h : IV t S μ ν) : fitX μ μ ν = fitM μ μ ν := by
  obtain ⟨h1, h2, h3, h4, h5, h6, h7⟩ := h
  have hnb := h2.1.1.2
  funext f g
  rw [Bool.eq_iff_iff]
  unfold fitX fitM
  rw [allB_iff, allB_iff]
  have kn : ∀ u b, knockN μ (twF f g) u / 2 ^ b % 2 = if b < N (μ 2 0) ∧ kb μ (twF f g) b u = true then 1 else 0 := fun u b => bitsN_div _ _ _
  constructor
  · intro h b hb
    obtain ⟨k1, k2⟩ := h7.2 b (by omega)
    unfold hitM
    by_cases q : μ 30 b = 0
    · rw [decide_eq_true (k1.mpr q)]
      rfl
    · obtain ⟨k3, k4, k5⟩ := k2 q
      rw [decide_eq_true (show lN (bitsN (fun t => kb μ (twF f g) b t) 60) = ν 98 b from by
        rw [k4]
        refine (bits_of k5).mp (fun u hu => ?_)
        have z := (allB_iff _ _).mp (h u hu) b (by omega)
        rw [decide_eq_false q, Bool.false_or] at z
        have z2 := of_decide_eq_true z
        rw [kn u b] at z2
        rw [z2]
        by_cases y : kb μ (twF f g) b u = true
        · rw [if_pos ⟨hb, y⟩, if_pos y]
        · rw [if_neg (fun x => y x.2), if_neg y]), Bool.or_true]
  · intro h u hu
    unfold agreeB
    refine allB_t (fun b hb => ?_)
    obtain ⟨k1, k2⟩ := h7.2 b hb
    by_cases q : μ 30 b = 0
    · rw [decide_eq_true q]
      rfl
    · obtain ⟨k3, k4, k5⟩ := k2 q
      have z := h b k3
      unfold hitM at z
      rw [decide_eq_false (fun y => q (k1.mp y)), Bool.false_or] at z
      have z2 := of_decide_eq_true z
      rw [k4] at z2
      have z3 := (bits_of k5).mpr z2 u hu
      rw [decide_eq_true (show uL (ν 31 b) / 2 ^ u % 2 = knockN μ (twF f g) u / 2 ^ b % 2 from by
        rw [z3, kn u b]
        by_cases y : kb μ (twF f g) b u = true
        · rw [if_pos y, if_pos ⟨k3, y⟩]
        · rw [if_neg y, if_neg (fun x => y x.2)]), Bool.or_true]
theorem LeastW_uniq {c : MI} {b n T x y : Nat} (hx : LeastW c b n T x) (hy : LeastW c b n T y) : x = y := by
  have h1 := hx.2.2 y hy.1 hy.2.1
  have h2 := hy.2.2 x hx.1 hx.2.1
  omega
