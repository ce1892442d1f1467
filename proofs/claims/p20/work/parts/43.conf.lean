/-! what a call that tells changes, in both -/
theorem heaN_more {μ : MI} {n n' : Nat} (hn : n ≤ n') (h : ∀ b, n ≤ b → b < n' → μ 97 b = 0) : heaN μ n' = heaN μ n := by
  have key : ∀ m, (∀ b, n ≤ b → b < n + m → μ 97 b = 0) → heaN μ (n + m) = heaN μ n := by
    intro m
    induction m with
    | zero => intro _; rfl
    | succ m ih =>
      intro h
      show cntB _ (n + m + 1) = _
      rw [cntB, decide_eq_false (fun q => q (h (n + m) (by omega) (by omega)))]
      exact ih (fun b h1 h2 => h b h1 (by omega))
  have := key (n' - n) (fun b h1 h2 => h b h1 (by omega))
  rwa [show n + (n' - n) = n' by omega] at this
theorem IV.cfg {t : Nat} {S : St} {μ μ' : MI} {ν : ML} (h : IV t S μ ν) (hW : WC μ') (hC : CM μ' μ') (hn : N (μ 2 0) ≤ N (μ' 2 0)) (e : ∀ a j, ¬ (1 ≤ a ∧ a ≤ 18) → ¬ (76 ≤ a ∧ a ≤ 88) → ¬ (a = 75 ∧ j < 18) → μ' a j = μ a j) : IV t S μ' ν := by
  obtain ⟨h1, h2, h3, h4, h5, h6, h7⟩ := h
  have h8 := hW.1.1.2
  have hB := h4.2.2.2.2
  refine ⟨h1, hW, hC, h4.ext (fun a k1 k2 j => e a j (by omega) (by omega) (by omega)) (fun a k1 k2 j => e a j (by omega) (by omega) (by omega)) (fun j k1 k2 => e 75 j (by omega) (by omega) (by omega)) (fun a j k1 k2 => e a j (by omega) (by omega) (by omega)) (fun j k1 => e 91 j (by omega) (by omega) (by omega)) (fun a j k1 => e a j (by omega) (by omega) (by omega)) ⟨fun s hs => (e 94 s (by omega) (by omega) (by omega)).trans (hB.1 s hs), (e 75 28 (by omega) (by omega) (by omega)).trans hB.2.1, (e 75 29 (by omega) (by omega) (by omega)).trans hB.2.2⟩, ⟨h5.1, fun b hb => h5.2 b (by omega)⟩, h6.le hn, ?_⟩
  have hz : heaN μ' (N (μ' 2 0)) = heaN μ (N (μ 2 0)) := by
    rw [heaN_ext (fun j => e 97 j (by omega) (by omega) (by omega)), heaN_more hn (fun b k1 k2 => ?_)]
    refine (h7.2 b (by omega)).1.mpr ?_
    by_cases q : μ 30 b = 0
    · exact q
    · have := ((h7.2 b (by omega)).2 q).1
      omega
  refine ⟨by rw [e 29 0 (by omega) (by omega) (by omega), hz]; exact h7.1, fun b hb => ?_⟩
  obtain ⟨k1, k2⟩ := h7.2 b hb
  rw [e 97 b (by omega) (by omega) (by omega), e 30 b (by omega) (by omega) (by omega)]
  exact ⟨k1, fun q => ⟨Nat.lt_of_lt_of_le (k2 q).1 hn, (k2 q).2⟩⟩
theorem N_1 {m : Nat} {x : Int32} (h : x = nI m) (hm : m < 1000) : N x = m := by rw [h]; exact N_nI (by omega)
theorem WC_bucket {μ μ' : MI} {x y : Int32} {m : Nat} (h : WC μ) (hm : μ 2 0 = nI m) (hm8 : m < 8) (hx : okB x y) (e2 : μ' 2 0 = nI (m + 1)) (e4 : μ' 4 m = y) (e5 : μ' 5 m = -1) (f4 : ∀ j, j ≠ m → μ' 4 j = μ 4 j) (f5 : ∀ j, j ≠ m → μ' 5 j = μ 5 j) (f : ∀ a, (a = 1 ∨ (6 ≤ a ∧ a ≤ 18)) → ∀ j, μ' a j = μ a j) : WC μ' := by
  have r : ∀ a, (a = 1 ∨ (6 ≤ a ∧ a ≤ 18)) → μ' a = μ a := fun a ha => funext (f a ha)
  unfold WC at h ⊢
  rw [N_1 hm (by omega)] at h
  rw [r 6 (by omega), r 7 (by omega), r 8 (by omega), r 10 (by omega), r 11 (by omega), r 12 (by omega), r 16 (by omega), r 17 (by omega), r 1 (by omega), N_1 e2 (by omega)]
  obtain ⟨⟨h1, h2⟩, ⟨h3, h4⟩, h5⟩ := h
  refine ⟨⟨by rw [e2]; exact sm_nI (by omega) (by omega), fun b hb => ?_⟩, ⟨h3, fun s hs => ?_⟩, h5⟩
  · by_cases e : b = m
    · subst e
      rw [e4, e5]
      exact ⟨sm_of hx.2.1 hx.2.2 (by omega), Or.inl rfl⟩
    · rw [f4 b e, f5 b e]
      obtain ⟨k1, k2⟩ := h2 b (by omega)
      refine ⟨k1, ?_⟩
      rcases k2 with k2 | ⟨k2, k3, k4⟩
      · exact Or.inl k2
      · exact Or.inr ⟨k2, by omega, k4⟩
  · obtain ⟨⟨k1, k2⟩, k3⟩ := h4 s hs
    exact ⟨⟨k1, by omega⟩, k3⟩
theorem CM_bucket {μ μ' : MI} {x y : Int32} {m : Nat} (h : CM μ μ) (hm : μ 2 0 = nI m) (hm8 : m < 8) (e2 : μ' 2 0 = nI (m + 1)) (g2 : μ' 75 0 = nI (m + 1)) (e3 : μ' 3 m = x ∧ μ' 4 m = y ∧ μ' 5 m = -1) (g3 : μ' 76 m = x ∧ μ' 77 m = y ∧ μ' 78 m = -1 ∧ μ' 79 m = -1) (f3 : ∀ j, j ≠ m → μ' 3 j = μ 3 j ∧ μ' 4 j = μ 4 j ∧ μ' 5 j = μ 5 j) (i3 : ∀ j, j ≠ m → μ' 76 j = μ 76 j ∧ μ' 77 j = μ 77 j ∧ μ' 78 j = μ 78 j ∧ μ' 79 j = μ 79 j) (f : ∀ a, (a = 1 ∨ (6 ≤ a ∧ a ≤ 18) ∨ (80 ≤ a ∧ a ≤ 88)) → ∀ j, μ' a j = μ a j) (i : ∀ j, 0 < j → j < 18 → μ' 75 j = μ 75 j) : CM μ' μ' := by
  have r : ∀ a, (a = 1 ∨ (6 ≤ a ∧ a ≤ 18) ∨ (80 ≤ a ∧ a ≤ 88)) → μ' a = μ a := fun a ha => funext (f a ha)
  unfold CM at h ⊢
  rw [N_1 hm (by omega)] at h
  rw [r 6 (by omega), r 7 (by omega), r 8 (by omega), r 9 (by omega), r 10 (by omega), r 11 (by omega), r 12 (by omega), r 13 (by omega), r 14 (by omega), r 15 (by omega), r 16 (by omega), r 17 (by omega), r 18 (by omega), r 1 (by omega), r 80 (by omega), r 81 (by omega), r 82 (by omega), r 83 (by omega), r 84 (by omega), r 85 (by omega), r 86 (by omega), r 87 (by omega), r 88 (by omega), i 5 (by omega) (by omega), i 10 (by omega) (by omega), i 14 (by omega) (by omega), i 17 (by omega) (by omega), N_1 e2 (by omega), g2, e2]
  obtain ⟨⟨h1, h2⟩, h3, h4⟩ := h
  refine ⟨⟨rfl, h2⟩, fun b hb => ?_, h4⟩
  by_cases e : b = m
  · subst e
    rw [g3.1, g3.2.1, g3.2.2.1, g3.2.2.2, e3.1, e3.2.1, e3.2.2, if_pos rfl]
    exact ⟨rfl, rfl, rfl, rfl⟩
  · obtain ⟨k1, k2, k3⟩ := f3 b e
    obtain ⟨j1, j2, j3, j4⟩ := i3 b e
    rw [k1, k2, k3, j1, j2, j3, j4]
    exact h3 b (by omega)
theorem WC_pipe {μ μ' : MI} {to dl : Int32} {m k : Nat} (h : WC μ) (hm : μ 2 0 = nI m) (hm8 : m ≤ 8) (hd : okD dl) (ht : to = -1 ∨ inR to m) (e5 : μ' 5 k = to) (e6 : μ' 6 k = dl) (f5 : ∀ j, j ≠ k → μ' 5 j = μ 5 j) (f6 : ∀ j, j ≠ k → μ' 6 j = μ 6 j) (f : ∀ a, a ≠ 5 → a ≠ 6 → a ≤ 18 → ∀ j, μ' a j = μ a j) : WC μ' := by
  have r : ∀ a, a ≠ 5 → a ≠ 6 → a ≤ 18 → μ' a = μ a := fun a h1 h2 h3 => funext (f a h1 h2 h3)
  unfold WC at h ⊢
  rw [N_1 hm (by omega)] at h
  rw [r 2 (by omega) (by omega) (by omega), r 4 (by omega) (by omega) (by omega), r 7 (by omega) (by omega) (by omega), r 8 (by omega) (by omega) (by omega), r 10 (by omega) (by omega) (by omega), r 11 (by omega) (by omega) (by omega), r 12 (by omega) (by omega) (by omega), r 16 (by omega) (by omega) (by omega), r 17 (by omega) (by omega) (by omega), r 1 (by omega) (by omega) (by omega), N_1 hm (by omega)]
  obtain ⟨⟨h1, h2⟩, h3⟩ := h
  refine ⟨⟨h1, fun b hb => ?_⟩, h3⟩
  obtain ⟨k1, k2⟩ := h2 b hb
  refine ⟨k1, ?_⟩
  by_cases e : b = k
  · subst e
    rw [e5, e6]
    rcases ht with ht | ⟨j, ht, hj⟩
    · exact Or.inl ht
    · have hs := sm_of (x := dl) (n := 20) (Int32.le_trans (show (0 : Int32) ≤ nI 1 by decide +kernel) hd.1) hd.2 (by omega)
      refine Or.inr ⟨by rw [ht]; exact sm_nI (by omega) (by omega), by rw [N_1 ht (by omega)]; exact hj, hs, ?_⟩
      have h9 := hd.1
      have hs2 := hs.2
      rw [hs.1] at h9
      have := (nI_leI (a := 1) (by omega) (by omega)).mp h9
      omega
  · rw [f5 b e, f6 b e]
    exact k2
theorem CM_pipe {μ μ' : MI} {to dl : Int32} {m k : Nat} (h : CM μ μ) (ht : to = -1 ∨ inR to m) (hm8 : m ≤ 8) (e5 : μ' 5 k = to) (e6 : μ' 6 k = dl) (g5 : μ' 78 k = to) (g6 : μ' 79 k = if to < 0 then -1 else dl) (f5 : ∀ j, j ≠ k → μ' 5 j = μ 5 j ∧ μ' 6 j = μ 6 j ∧ μ' 78 j = μ 78 j ∧ μ' 79 j = μ 79 j) (f : ∀ a, a ≠ 5 → a ≠ 6 → a ≤ 18 → ∀ j, μ' a j = μ a j) (i : ∀ a, 75 ≤ a → a ≤ 88 → a ≠ 78 → a ≠ 79 → ∀ j, μ' a j = μ a j) : CM μ' μ' := by
  have r : ∀ a, a ≠ 5 → a ≠ 6 → a ≤ 18 → μ' a = μ a := fun a h1 h2 h3 => funext (f a h1 h2 h3)
  have s : ∀ a, 75 ≤ a → a ≤ 88 → a ≠ 78 → a ≠ 79 → μ' a = μ a := fun a h1 h2 h3 h4 => funext (i a h1 h2 h3 h4)
  unfold CM at h ⊢
  rw [r 2 (by omega) (by omega) (by omega), r 3 (by omega) (by omega) (by omega), r 4 (by omega) (by omega) (by omega), r 7 (by omega) (by omega) (by omega), r 8 (by omega) (by omega) (by omega), r 9 (by omega) (by omega) (by omega), r 10 (by omega) (by omega) (by omega), r 11 (by omega) (by omega) (by omega), r 12 (by omega) (by omega) (by omega), r 13 (by omega) (by omega) (by omega), r 14 (by omega) (by omega) (by omega), r 15 (by omega) (by omega) (by omega), r 16 (by omega) (by omega) (by omega), r 17 (by omega) (by omega) (by omega), r 18 (by omega) (by omega) (by omega), r 1 (by omega) (by omega) (by omega), s 75 (by omega) (by omega) (by omega) (by omega), s 76 (by omega) (by omega) (by omega) (by omega), s 77 (by omega) (by omega) (by omega) (by omega), s 80 (by omega) (by omega) (by omega) (by omega), s 81 (by omega) (by omega) (by omega) (by omega), s 82 (by omega) (by omega) (by omega) (by omega), s 83 (by omega) (by omega) (by omega) (by omega), s 84 (by omega) (by omega) (by omega) (by omega), s 85 (by omega) (by omega) (by omega) (by omega), s 86 (by omega) (by omega) (by omega) (by omega), s 87 (by omega) (by omega) (by omega) (by omega), s 88 (by omega) (by omega) (by omega) (by omega)]
  obtain ⟨h1, h2, h3⟩ := h
  refine ⟨h1, fun b hb => ?_, h3⟩
  obtain ⟨k1, k2, k3, k4⟩ := h2 b hb
  refine ⟨k1, k2, ?_⟩
  by_cases e : b = k
  · subst e
    rw [e5, e6, g5, g6]
    refine ⟨rfl, ?_⟩
    rcases ht with ht | ⟨j, ht, hj⟩
    · rw [if_pos ht, if_pos (by rw [ht]; decide +kernel)]
    · rw [if_neg (show ¬ to < 0 by rw [ht]; exact nI_pos (n := j) (by omega)), if_neg (show ¬ to = -1 by rw [ht]; exact nI_nm1 (x := j) (by omega))]
  · obtain ⟨j1, j2, j3, j4⟩ := f5 b e
    rw [j1, j2, j3, j4]
    exact ⟨k3, k4⟩
theorem sm_1 {x : Int32} {n : Nat} (h1 : nI 1 ≤ x) (h2 : x ≤ nI n) (hn : n < 2 ^ 31) : sm x n ∧ 0 < N x := by
  have hs := sm_of (x := x) (n := n) (Int32.le_trans (show (0 : Int32) ≤ nI 1 by decide +kernel) h1) h2 hn
  have hs2 := hs.2
  rw [hs.1] at h1
  have := (nI_leI (a := 1) (by omega) (by omega)).mp h1
  exact ⟨hs, by omega⟩
theorem WC_spout {μ μ' : MI} {to v e f0 : Int32} {m n : Nat} (h : WC μ) (hm : μ 2 0 = nI m) (hm8 : m ≤ 8) (hn : μ 7 0 = nI n) (hn4 : n < 4) (ht : inR to m) (hk : okS4 v e f0) (e7 : μ' 7 0 = nI (n + 1)) (e8 : μ' 8 n = to ∧ μ' 10 n = e ∧ μ' 11 n = f0) (f8 : ∀ j, j ≠ n → μ' 8 j = μ 8 j ∧ μ' 10 j = μ 10 j ∧ μ' 11 j = μ 11 j) (f : ∀ a, ¬ (7 ≤ a ∧ a ≤ 11) → a ≤ 18 → ∀ j, μ' a j = μ a j) : WC μ' := by
  have r : ∀ a, ¬ (7 ≤ a ∧ a ≤ 11) → a ≤ 18 → μ' a = μ a := fun a h1 h2 => funext (f a h1 h2)
  unfold WC at h ⊢
  rw [N_1 hm (by omega), N_1 hn (by omega)] at h
  rw [r 2 (by omega) (by omega), r 4 (by omega) (by omega), r 5 (by omega) (by omega), r 6 (by omega) (by omega), r 12 (by omega) (by omega), r 16 (by omega) (by omega), r 17 (by omega) (by omega), r 1 (by omega) (by omega), N_1 hm (by omega), N_1 e7 (by omega)]
  obtain ⟨h1, ⟨h2, h3⟩, h4⟩ := h
  refine ⟨h1, ⟨by rw [e7]; exact sm_nI (by omega) (by omega), fun s hs => ?_⟩, h4⟩
  by_cases q : s = n
  · subst q
    obtain ⟨j, ht, hj⟩ := ht
    rw [e8.1, e8.2.1, e8.2.2]
    exact ⟨⟨by rw [ht]; exact sm_nI (by omega) (by omega), by rw [N_1 ht (by omega)]; exact hj⟩, sm_1 hk.2.1.1 hk.2.1.2 (by omega), sm_of hk.2.2.1 hk.2.2.2 (by omega)⟩
  · obtain ⟨j1, j2, j3⟩ := f8 s q
    rw [j1, j2, j3]
    exact h3 s (by omega)
theorem CM_spout {μ μ' : MI} {to v e f0 : Int32} {n : Nat} (h : CM μ μ) (hn : μ 7 0 = nI n) (hn4 : n < 4) (e7 : μ' 7 0 = nI (n + 1)) (g7 : μ' 75 5 = nI (n + 1)) (e8 : μ' 8 n = to ∧ μ' 9 n = v ∧ μ' 10 n = e ∧ μ' 11 n = f0) (g8 : μ' 80 n = to ∧ μ' 81 n = v ∧ μ' 82 n = e ∧ μ' 83 n = f0) (f8 : ∀ j, j ≠ n → μ' 8 j = μ 8 j ∧ μ' 9 j = μ 9 j ∧ μ' 10 j = μ 10 j ∧ μ' 11 j = μ 11 j) (i8 : ∀ j, j ≠ n → μ' 80 j = μ 80 j ∧ μ' 81 j = μ 81 j ∧ μ' 82 j = μ 82 j ∧ μ' 83 j = μ 83 j) (f : ∀ a, ¬ (7 ≤ a ∧ a ≤ 11) → a ≤ 18 → ∀ j, μ' a j = μ a j) (i : ∀ a, 76 ≤ a → a ≤ 88 → ¬ (80 ≤ a ∧ a ≤ 83) → ∀ j, μ' a j = μ a j) (ii : ∀ j, j ≠ 5 → μ' 75 j = μ 75 j) : CM μ' μ' := by
  have r : ∀ a, ¬ (7 ≤ a ∧ a ≤ 11) → a ≤ 18 → μ' a = μ a := fun a h1 h2 => funext (f a h1 h2)
  have s : ∀ a, 76 ≤ a → a ≤ 88 → ¬ (80 ≤ a ∧ a ≤ 83) → μ' a = μ a := fun a h1 h2 h3 => funext (i a h1 h2 h3)
  unfold CM at h ⊢
  rw [N_1 hn (by omega)] at h
  rw [r 2 (by omega) (by omega), r 3 (by omega) (by omega), r 4 (by omega) (by omega), r 5 (by omega) (by omega), r 6 (by omega) (by omega), r 12 (by omega) (by omega), r 13 (by omega) (by omega), r 14 (by omega) (by omega), r 15 (by omega) (by omega), r 16 (by omega) (by omega), r 17 (by omega) (by omega), r 18 (by omega) (by omega), r 1 (by omega) (by omega), s 76 (by omega) (by omega) (by omega), s 77 (by omega) (by omega) (by omega), s 78 (by omega) (by omega) (by omega), s 79 (by omega) (by omega) (by omega), s 84 (by omega) (by omega) (by omega), s 85 (by omega) (by omega) (by omega), s 86 (by omega) (by omega) (by omega), s 87 (by omega) (by omega) (by omega), s 88 (by omega) (by omega) (by omega), ii 0 (by omega), ii 10 (by omega), ii 14 (by omega), ii 17 (by omega), N_1 e7 (by omega), g7, e7]
  obtain ⟨⟨h1, h2, h3⟩, h4, h5, h6⟩ := h
  refine ⟨⟨h1, rfl, h3⟩, h4, fun q hq => ?_, h6⟩
  by_cases z : q = n
  · subst z
    rw [g8.1, g8.2.1, g8.2.2.1, g8.2.2.2, e8.1, e8.2.1, e8.2.2.1, e8.2.2.2]
    exact ⟨rfl, rfl, rfl, rfl⟩
  · obtain ⟨k1, k2, k3, k4⟩ := f8 q z
    obtain ⟨j1, j2, j3, j4⟩ := i8 q z
    rw [k1, k2, k3, k4, j1, j2, j3, j4]
    exact h5 q (by omega)
theorem WC_keep {μ μ' : MI} (h : WC μ) (f : ∀ a, a ≤ 18 → a ≠ 3 → a ≠ 9 → a ≠ 13 → a ≠ 14 → a ≠ 15 → a ≠ 18 → ∀ j, μ' a j = μ a j) : WC μ' := by
  have r : ∀ a, a ≤ 18 → a ≠ 3 → a ≠ 9 → a ≠ 13 → a ≠ 14 → a ≠ 15 → a ≠ 18 → μ' a = μ a := fun a h1 h2 h3 h4 h5 h6 h7 => funext (f a h1 h2 h3 h4 h5 h6 h7)
  unfold WC at h ⊢
  rw [r 1 (by omega) (by omega) (by omega) (by omega) (by omega) (by omega) (by omega), r 2 (by omega) (by omega) (by omega) (by omega) (by omega) (by omega) (by omega), r 4 (by omega) (by omega) (by omega) (by omega) (by omega) (by omega) (by omega), r 5 (by omega) (by omega) (by omega) (by omega) (by omega) (by omega) (by omega), r 6 (by omega) (by omega) (by omega) (by omega) (by omega) (by omega) (by omega), r 7 (by omega) (by omega) (by omega) (by omega) (by omega) (by omega) (by omega), r 8 (by omega) (by omega) (by omega) (by omega) (by omega) (by omega) (by omega), r 10 (by omega) (by omega) (by omega) (by omega) (by omega) (by omega) (by omega), r 11 (by omega) (by omega) (by omega) (by omega) (by omega) (by omega) (by omega), r 12 (by omega) (by omega) (by omega) (by omega) (by omega) (by omega) (by omega), r 16 (by omega) (by omega) (by omega) (by omega) (by omega) (by omega) (by omega), r 17 (by omega) (by omega) (by omega) (by omega) (by omega) (by omega) (by omega)]
  exact h
theorem CM_turn {μ μ' : MI} {v : Int32} {k : Nat} (h : CM μ μ) (e : μ' 9 k = v) (g : μ' 81 k = v) (f9 : ∀ j, j ≠ k → μ' 9 j = μ 9 j ∧ μ' 81 j = μ 81 j) (f : ∀ a, a ≠ 9 → a ≠ 81 → ∀ j, μ' a j = μ a j) : CM μ' μ' := by
  have r : ∀ a, a ≠ 9 → a ≠ 81 → μ' a = μ a := fun a h1 h2 => funext (f a h1 h2)
  unfold CM at h ⊢
  rw [r 1 (by omega) (by omega), r 2 (by omega) (by omega), r 3 (by omega) (by omega), r 4 (by omega) (by omega), r 5 (by omega) (by omega), r 6 (by omega) (by omega), r 7 (by omega) (by omega), r 8 (by omega) (by omega), r 10 (by omega) (by omega), r 11 (by omega) (by omega), r 12 (by omega) (by omega), r 13 (by omega) (by omega), r 14 (by omega) (by omega), r 15 (by omega) (by omega), r 16 (by omega) (by omega), r 17 (by omega) (by omega), r 18 (by omega) (by omega), r 75 (by omega) (by omega), r 76 (by omega) (by omega), r 77 (by omega) (by omega), r 78 (by omega) (by omega), r 79 (by omega) (by omega), r 80 (by omega) (by omega), r 82 (by omega) (by omega), r 83 (by omega) (by omega), r 84 (by omega) (by omega), r 85 (by omega) (by omega), r 86 (by omega) (by omega), r 87 (by omega) (by omega), r 88 (by omega) (by omega)]
  obtain ⟨h1, h2, h3, h4⟩ := h
  refine ⟨h1, h2, fun s hs => ?_, h4⟩
  obtain ⟨k1, k2, k3⟩ := h3 s hs
  refine ⟨k1, ?_, k3⟩
  by_cases q : s = k
  · subst q
    rw [e, g]
  · obtain ⟨j1, j2⟩ := f9 s q
    rw [j1, j2]
    exact k2
theorem WC_frog {μ μ' : MI} {q : Nat} (h : WC μ) (hq : q < 10) (e : μ' 12 0 = nI (q + 1)) (f : ∀ a, ¬ (12 ≤ a ∧ a ≤ 15) → a ≤ 18 → ∀ j, μ' a j = μ a j) : WC μ' := by
  have r : ∀ a, ¬ (12 ≤ a ∧ a ≤ 15) → a ≤ 18 → μ' a = μ a := fun a h1 h2 => funext (f a h1 h2)
  unfold WC at h ⊢
  rw [r 1 (by omega) (by omega), r 2 (by omega) (by omega), r 4 (by omega) (by omega), r 5 (by omega) (by omega), r 6 (by omega) (by omega), r 7 (by omega) (by omega), r 8 (by omega) (by omega), r 10 (by omega) (by omega), r 11 (by omega) (by omega), r 16 (by omega) (by omega), r 17 (by omega) (by omega), e]
  exact ⟨h.1, h.2.1, sm_nI (by omega) (by omega), h.2.2.2⟩
theorem CM_frog {μ μ' : MI} {s f0 t : Int32} {q : Nat} (h : CM μ μ) (hq : μ 12 0 = nI q) (hq10 : q < 10) (e : μ' 12 0 = nI (q + 1)) (g : μ' 75 10 = nI (q + 1)) (e8 : μ' 13 q = s ∧ μ' 14 q = f0 ∧ μ' 15 q = t) (g8 : μ' 84 q = s ∧ μ' 85 q = f0 ∧ μ' 86 q = t) (f8 : ∀ j, j ≠ q → (μ' 13 j = μ 13 j ∧ μ' 14 j = μ 14 j ∧ μ' 15 j = μ 15 j) ∧ μ' 84 j = μ 84 j ∧ μ' 85 j = μ 85 j ∧ μ' 86 j = μ 86 j) (f : ∀ a, ¬ (12 ≤ a ∧ a ≤ 15) → ¬ (84 ≤ a ∧ a ≤ 86) → a ≠ 75 → ∀ j, μ' a j = μ a j) (ii : ∀ j, j ≠ 10 → μ' 75 j = μ 75 j) : CM μ' μ' := by
  have r : ∀ a, ¬ (12 ≤ a ∧ a ≤ 15) → ¬ (84 ≤ a ∧ a ≤ 86) → a ≠ 75 → μ' a = μ a := fun a h1 h2 h3 => funext (f a h1 h2 h3)
  unfold CM at h ⊢
  rw [N_1 hq (by omega)] at h
  rw [r 1 (by omega) (by omega) (by omega), r 2 (by omega) (by omega) (by omega), r 3 (by omega) (by omega) (by omega), r 4 (by omega) (by omega) (by omega), r 5 (by omega) (by omega) (by omega), r 6 (by omega) (by omega) (by omega), r 7 (by omega) (by omega) (by omega), r 8 (by omega) (by omega) (by omega), r 9 (by omega) (by omega) (by omega), r 10 (by omega) (by omega) (by omega), r 11 (by omega) (by omega) (by omega), r 16 (by omega) (by omega) (by omega), r 17 (by omega) (by omega) (by omega), r 18 (by omega) (by omega) (by omega), r 76 (by omega) (by omega) (by omega), r 77 (by omega) (by omega) (by omega), r 78 (by omega) (by omega) (by omega), r 79 (by omega) (by omega) (by omega), r 80 (by omega) (by omega) (by omega), r 81 (by omega) (by omega) (by omega), r 82 (by omega) (by omega) (by omega), r 83 (by omega) (by omega) (by omega), r 87 (by omega) (by omega) (by omega), r 88 (by omega) (by omega) (by omega), ii 0 (by omega), ii 5 (by omega), ii 14 (by omega), ii 17 (by omega), N_1 e (by omega), g, e]
  obtain ⟨⟨h1, h2, h3, h4⟩, h5, h6, h7, h8⟩ := h
  refine ⟨⟨h1, h2, rfl, h4⟩, h5, h6, fun k hk => ?_, h8⟩
  by_cases z : k = q
  · subst z
    rw [g8.1, g8.2.1, g8.2.2, e8.1, e8.2.1, e8.2.2]
    exact ⟨rfl, rfl, rfl⟩
  · obtain ⟨⟨k1, k2, k3⟩, j1, j2, j3⟩ := f8 k z
    rw [k1, k2, k3, j1, j2, j3]
    exact h7 k (by omega)
theorem WC_spell {μ μ' : MI} {f0 : Int32} {q : Nat} (h : WC μ) (hq : μ 16 0 = nI q) (hq10 : q < 10) (hf : nI 0 ≤ f0 ∧ f0 ≤ nI 2000) (e : μ' 16 0 = nI (q + 1)) (e7 : μ' 17 q = f0) (f7 : ∀ j, j ≠ q → μ' 17 j = μ 17 j) (f : ∀ a, ¬ (16 ≤ a ∧ a ≤ 18) → a ≤ 18 → ∀ j, μ' a j = μ a j) : WC μ' := by
  have r : ∀ a, ¬ (16 ≤ a ∧ a ≤ 18) → a ≤ 18 → μ' a = μ a := fun a h1 h2 => funext (f a h1 h2)
  unfold WC at h ⊢
  rw [N_1 hq (by omega)] at h
  rw [r 1 (by omega) (by omega), r 2 (by omega) (by omega), r 4 (by omega) (by omega), r 5 (by omega) (by omega), r 6 (by omega) (by omega), r 7 (by omega) (by omega), r 8 (by omega) (by omega), r 10 (by omega) (by omega), r 11 (by omega) (by omega), r 12 (by omega) (by omega), N_1 e (by omega)]
  obtain ⟨h1, h2, h3, ⟨h4, h5⟩, h6⟩ := h
  refine ⟨h1, h2, h3, ⟨by rw [e]; exact sm_nI (by omega) (by omega), fun k hk => ?_⟩, h6⟩
  by_cases z : k = q
  · subst z
    rw [e7]
    exact sm_of hf.1 hf.2 (by omega)
  · rw [f7 k z]
    exact h5 k (by omega)
theorem CM_spell {μ μ' : MI} {f0 w : Int32} {q : Nat} (h : CM μ μ) (hq : μ 16 0 = nI q) (hq10 : q < 10) (e : μ' 16 0 = nI (q + 1)) (g : μ' 75 14 = nI (q + 1)) (e8 : μ' 17 q = f0 ∧ μ' 18 q = w) (g8 : μ' 87 q = f0 ∧ μ' 88 q = w) (f8 : ∀ j, j ≠ q → (μ' 17 j = μ 17 j ∧ μ' 18 j = μ 18 j) ∧ μ' 87 j = μ 87 j ∧ μ' 88 j = μ 88 j) (f : ∀ a, ¬ (16 ≤ a ∧ a ≤ 18) → ¬ (87 ≤ a ∧ a ≤ 88) → a ≠ 75 → ∀ j, μ' a j = μ a j) (ii : ∀ j, j ≠ 14 → μ' 75 j = μ 75 j) : CM μ' μ' := by
  have r : ∀ a, ¬ (16 ≤ a ∧ a ≤ 18) → ¬ (87 ≤ a ∧ a ≤ 88) → a ≠ 75 → μ' a = μ a := fun a h1 h2 h3 => funext (f a h1 h2 h3)
  unfold CM at h ⊢
  rw [N_1 hq (by omega)] at h
  rw [r 1 (by omega) (by omega) (by omega), r 2 (by omega) (by omega) (by omega), r 3 (by omega) (by omega) (by omega), r 4 (by omega) (by omega) (by omega), r 5 (by omega) (by omega) (by omega), r 6 (by omega) (by omega) (by omega), r 7 (by omega) (by omega) (by omega), r 8 (by omega) (by omega) (by omega), r 9 (by omega) (by omega) (by omega), r 10 (by omega) (by omega) (by omega), r 11 (by omega) (by omega) (by omega), r 12 (by omega) (by omega) (by omega), r 13 (by omega) (by omega) (by omega), r 14 (by omega) (by omega) (by omega), r 15 (by omega) (by omega) (by omega), r 76 (by omega) (by omega) (by omega), r 77 (by omega) (by omega) (by omega), r 78 (by omega) (by omega) (by omega), r 79 (by omega) (by omega) (by omega), r 80 (by omega) (by omega) (by omega), r 81 (by omega) (by omega) (by omega), r 82 (by omega) (by omega) (by omega), r 83 (by omega) (by omega) (by omega), r 84 (by omega) (by omega) (by omega), r 85 (by omega) (by omega) (by omega), r 86 (by omega) (by omega) (by omega), ii 0 (by omega), ii 5 (by omega), ii 10 (by omega), ii 17 (by omega), N_1 e (by omega), g, e]
  obtain ⟨⟨h1, h2, h3, h4, h4b⟩, h5, h6, h7, h8⟩ := h
  refine ⟨⟨h1, h2, h3, rfl, h4b⟩, h5, h6, h7, fun k hk => ?_⟩
  by_cases z : k = q
  · subst z
    rw [g8.1, g8.2, e8.1, e8.2]
    exact ⟨rfl, rfl⟩
  · obtain ⟨⟨k1, k2⟩, j1, j2⟩ := f8 k z
    rw [k1, k2, j1, j2]
    exact h8 k (by omega)
theorem WC_dry {μ μ' : MI} {v : Int32} (h : WC μ) (hv : okR v) (e : μ' 1 4 = v) (f : ∀ a, 1 < a → a ≤ 18 → ∀ j, μ' a j = μ a j) : WC μ' := by
  have r : ∀ a, 1 < a → a ≤ 18 → μ' a = μ a := fun a h1 h2 => funext (f a h1 h2)
  unfold WC at h ⊢
  rw [r 2 (by omega) (by omega), r 4 (by omega) (by omega), r 5 (by omega) (by omega), r 6 (by omega) (by omega), r 7 (by omega) (by omega), r 8 (by omega) (by omega), r 10 (by omega) (by omega), r 11 (by omega) (by omega), r 12 (by omega) (by omega), r 16 (by omega) (by omega), r 17 (by omega) (by omega), e]
  exact ⟨h.1, h.2.1, h.2.2.1, h.2.2.2.1, sm_of hv.1 hv.2 (by omega)⟩
theorem CM_dry {μ μ' : MI} {v : Int32} (h : CM μ μ) (e : μ' 1 4 = v) (g : μ' 75 17 = v) (f : ∀ a, 1 < a → a ≠ 75 → ∀ j, μ' a j = μ a j) (ii : ∀ j, j ≠ 17 → μ' 75 j = μ 75 j) : CM μ' μ' := by
  have r : ∀ a, 1 < a → a ≠ 75 → μ' a = μ a := fun a h1 h2 => funext (f a h1 h2)
  unfold CM at h ⊢
  rw [r 2 (by omega) (by omega), r 3 (by omega) (by omega), r 4 (by omega) (by omega), r 5 (by omega) (by omega), r 6 (by omega) (by omega), r 7 (by omega) (by omega), r 8 (by omega) (by omega), r 9 (by omega) (by omega), r 10 (by omega) (by omega), r 11 (by omega) (by omega), r 12 (by omega) (by omega), r 13 (by omega) (by omega), r 14 (by omega) (by omega), r 15 (by omega) (by omega), r 16 (by omega) (by omega), r 17 (by omega) (by omega), r 18 (by omega) (by omega), r 76 (by omega) (by omega), r 77 (by omega) (by omega), r 78 (by omega) (by omega), r 79 (by omega) (by omega), r 80 (by omega) (by omega), r 81 (by omega) (by omega), r 82 (by omega) (by omega), r 83 (by omega) (by omega), r 84 (by omega) (by omega), r 85 (by omega) (by omega), r 86 (by omega) (by omega), r 87 (by omega) (by omega), r 88 (by omega) (by omega), ii 0 (by omega), ii 5 (by omega), ii 10 (by omega), ii 14 (by omega), e, g]
  exact ⟨⟨h.1.1, h.1.2.1, h.1.2.2.1, h.1.2.2.2.1, rfl⟩, h.2⟩
