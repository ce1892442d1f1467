/-! the reference's two gardens hold a course's state -/
/-- what is written of a bucket that is down for d ticks more, ahead of tick t -/
def UD (x : Int32) (t d : Nat) : Prop := (d = 0 → x < nI t) ∧ (0 < d → x = nI (t + d - 1))
theorem UD.ge {x : Int32} {t d : Nat} (h : UD x t d) (ht : t < 10000) (hd : d ≤ 20) : nI t ≤ x ↔ 0 < d := by
  constructor
  · intro q
    rcases Nat.eq_zero_or_pos d with e | e
    · exact absurd q (i_lt_n (h.1 e))
    · exact e
  · intro q
    rw [h.2 q]
    exact nI_le (by omega) (by omega)
theorem UD.dec {x : Int32} {t d : Nat} (h : UD x t d) (ht : t < 10000) (hd : 0 < d) (hd2 : d ≤ 20) : UD x (t + 1) (d - 1) := by
  refine ⟨fun q => ?_, fun q => ?_⟩
  · rw [h.2 hd]
    exact nI_lt (by omega) (by omega)
  · rw [h.2 hd]
    congr 1
    omega
theorem UD.idle {x : Int32} {t : Nat} (h : UD x t 0) (ht : t < 10000) : UD x (t + 1) 0 := by
  refine ⟨fun q => ?_, fun q => by omega⟩
  have h1 := h.1 rfl
  have h2 := nI_lt (a := t) (b := t + 1) (by omega) (by omega)
  rw [fa_lt] at *
  omega
theorem UD.rest (t r : Nat) (ht : t < 10000) (hr : r ≤ 20) : UD (nI (t + r)) (t + 1) r := by
  refine ⟨fun q => ?_, fun q => ?_⟩
  · exact nI_lt (by omega) (by omega)
  · congr 1
    omega
def RA (g t k : Nat) (S : St) (μ : MI) : Prop :=
  (∀ b, b < 8 → μ 89 (8 * g + b) = sH S b) ∧
  (∀ b, b < 8 → UD (μ 90 (8 * g + b)) (if b < k then t + 1 else t) (sD S b) ∧ sD S b ≤ 20) ∧
  ∀ b, b < 8 → ∀ j, j ≤ 20 → μ 91 (21 * (8 * g + b) + (t + j) % 21) = sC S b j
def RQ (S : St) (μ : MI) : Prop := μ 75 23 = sQ S 0 ∧ μ 75 24 = sQ S 1 ∧ μ 75 25 = sQ S 2
def RM (g t k : Nat) (S : St) (μ : MI) : Prop := RA g t k S μ ∧ (g = 0 → RQ S μ)
/-- only the garden g changed (and what is counted of it) -/
def Mr (g : Nat) (μ μ' : MI) : Prop := ∀ a j, ¬ ((a = 89 ∨ a = 90) ∧ 8 * g ≤ j ∧ j < 8 * g + 8) → ¬ (a = 91 ∧ 168 * g ≤ j ∧ j < 168 * g + 168) → ¬ (g = 0 ∧ a = 75 ∧ 23 ≤ j ∧ j ≤ 25) → μ' a j = μ a j
theorem Mr.rf {g : Nat} {μ : MI} : Mr g μ μ := fun _ _ _ _ _ => rfl
theorem Mr.tr {g : Nat} {μ μ' μ'' : MI} (h : Mr g μ μ') (h2 : Mr g μ' μ'') : Mr g μ μ'' := fun a j q1 q2 q3 => (h2 a j q1 q2 q3).trans (h a j q1 q2 q3)
theorem Mr.far {g : Nat} {μ μ' : MI} (h : Mr g μ μ') {a : Nat} (ha : a ≠ 89 ∧ a ≠ 90 ∧ a ≠ 91 ∧ a ≠ 75) (j : Nat) : μ' a j = μ a j := h a j (by omega) (by omega) (by omega)
theorem Mr.m {g : Nat} {μ μ' : MI} (h : Mr g μ μ') {j : Nat} (hj : j < 23 ∨ 25 < j) : μ' 75 j = μ 75 j := h 75 j (by omega) (by omega) (by omega)
theorem CM.mr {g : Nat} {c μ μ' : MI} (hc : CM c μ) (h : Mr g μ μ') : CM c μ' := by
  refine ⟨⟨?_, ?_, ?_, ?_, ?_⟩, fun b hb => ?_, fun s hs => ?_, fun k hk => ?_, fun k hk => ?_⟩
  · rw [h.m (by omega)]; exact hc.1.1
  · rw [h.m (by omega)]; exact hc.1.2.1
  · rw [h.m (by omega)]; exact hc.1.2.2.1
  · rw [h.m (by omega)]; exact hc.1.2.2.2.1
  · rw [h.m (by omega)]; exact hc.1.2.2.2.2
  · rw [h.far (by omega), h.far (by omega), h.far (by omega), h.far (by omega)]; exact hc.2.1 b hb
  · rw [h.far (by omega), h.far (by omega), h.far (by omega), h.far (by omega)]; exact hc.2.2.1 s hs
  · rw [h.far (by omega), h.far (by omega), h.far (by omega)]; exact hc.2.2.2.1 k hk
  · rw [h.far (by omega), h.far (by omega)]; exact hc.2.2.2.2 k hk
theorem fauB_mr {g : Nat} {μ μ' : MI} (h : Mr g μ μ') (f : Nat) : fauB μ' f = fauB μ f := by
  unfold fauB
  rw [h.m (by omega), h.m (by omega)]
theorem TM.mr {g q : Nat} {tw μ μ' : MI} (hT : TM q tw μ) (h : Mr g μ μ') : TM q tw μ' := by
  refine ⟨fun s hs => ?_, fun b hb => ?_⟩
  · rw [fauB_mr h, h.far (by omega)]; exact hT.1 s hs
  · rw [fauB_mr h, fauB_mr h]; exact hT.2 b hb
theorem RM.lev {g t k b : Nat} {S : St} {μ : MI} {v : Int32} (h : RM g t k S μ) (hb : b < 8) : RM g t k (setH b v S) (up2 μ 89 (8 * g + b) v) ∧ Mr g μ (up2 μ 89 (8 * g + b) v) := by
  refine ⟨⟨⟨fun a ha => ?_, fun a ha => ?_, fun a ha j hj => ?_⟩, fun q => ?_⟩, fun a j q1 q2 q3 => ?_⟩
  · by_cases e : a = b
    · subst e
      rw [up2_s]
      exact (un_s _ _ _).symm
    · rw [up2_b _ _ (by omega)]
      exact (h.1.1 a ha).trans (un_n _ _ e).symm
  · rw [up2_a _ _ (by omega)]
    exact h.1.2.1 a ha
  · rw [up2_a _ _ (by omega)]
    exact h.1.2.2 a ha j hj
  · have := h.2 q
    unfold RQ at this ⊢
    rw [up2_a _ _ (by omega), up2_a _ _ (by omega), up2_a _ _ (by omega)]
    exact this
  · exact up2_ne _ _ (by omega)
theorem i32_add0 (x : Int32) : x + 0 = x := by simp
theorem RM.q {g t k i : Nat} {S : St} {μ : MI} {w x : Int32} (h : RM g t k S μ) (hi : i < 3) (hx : x = if g = 0 then w else 0) : RM g t k (addQ i w S) (up2 μ 75 (23 + i) (μ 75 (23 + i) + x)) ∧ Mr g μ (up2 μ 75 (23 + i) (μ 75 (23 + i) + x)) := by
  refine ⟨⟨⟨fun a ha => ?_, fun a ha => ?_, fun a ha j hj => ?_⟩, fun q => ?_⟩, fun a j q1 q2 q3 => ?_⟩
  · rw [up2_a _ _ (by omega)]
    exact h.1.1 a ha
  · rw [up2_a _ _ (by omega)]
    exact h.1.2.1 a ha
  · rw [up2_a _ _ (by omega)]
    exact h.1.2.2 a ha j hj
  · obtain ⟨h1, h2, h3⟩ := h.2 q
    rw [if_pos q] at hx
    subst hx
    refine ⟨?_, ?_, ?_⟩
    · show _ = un (sQ S) i (sQ S i + x) 0
      by_cases e : i = 0
      · subst e
        rw [un_s, show 23 + 0 = 23 by rfl, up2_s, h1]
      · rw [un_n _ _ (by omega), up2_b _ _ (by omega), h1]
    · show _ = un (sQ S) i (sQ S i + x) 1
      by_cases e : i = 1
      · subst e
        rw [un_s, show 23 + 1 = 24 by rfl, up2_s, h2]
      · rw [un_n _ _ (by omega), up2_b _ _ (by omega), h2]
    · show _ = un (sQ S) i (sQ S i + x) 2
      by_cases e : i = 2
      · subst e
        rw [un_s, show 23 + 2 = 25 by rfl, up2_s, h3]
      · rw [un_n _ _ (by omega), up2_b _ _ (by omega), h3]
  · by_cases q : g = 0
    · exact up2_ne _ _ (by omega)
    · rw [if_neg q] at hx
      subst hx
      rw [i32_add0]
      by_cases e : a = 75 ∧ j = 23 + i
      · rw [e.1, e.2, up2_s]
      · exact up2_ne _ _ e
theorem RM.add {g t k b j : Nat} {S : St} {μ : MI} {v : Int32} (h : RM g t k S μ) (hb : b < 8) (hj : j ≤ 20) : RM g t k (setC b j v S) (up2 μ 91 (21 * (8 * g + b) + (t + j) % 21) v) ∧ Mr g μ (up2 μ 91 (21 * (8 * g + b) + (t + j) % 21) v) := by
  refine ⟨⟨⟨fun a ha => ?_, fun a ha => ?_, fun a ha i hi => ?_⟩, fun q => ?_⟩, fun a i q1 q2 q3 => ?_⟩
  · rw [up2_a _ _ (by omega)]
    exact h.1.1 a ha
  · rw [up2_a _ _ (by omega)]
    exact h.1.2.1 a ha
  · show _ = up2 (sC S) b j v a i
    by_cases e : a = b ∧ i = j
    · obtain ⟨rfl, rfl⟩ := e
      rw [up2_s, up2_s]
    · rw [up2_ne _ _ e, up2_b _ _ (by
        intro z
        apply e
        have h1 := Nat.mod_lt (t + i) (show 0 < 21 by omega)
        have h2 := Nat.mod_lt (t + j) (show 0 < 21 by omega)
        have e2 : a = b := by omega
        subst e2
        exact ⟨rfl, by omega⟩)]
      exact h.1.2.2 a ha i hi
  · have := h.2 q
    unfold RQ at this ⊢
    rw [up2_a _ _ (by omega), up2_a _ _ (by omega), up2_a _ _ (by omega)]
    exact this
  · have h2 := Nat.mod_lt (t + j) (show 0 < 21 by omega)
    exact up2_ne _ _ (by omega)
theorem RM.kl {g t k : Nat} {S S' : St} {μ : MI} (h : RM g t k S μ) (h1 : sH S' = sH S) (h2 : sD S' = sD S) (h3 : sC S' = sC S) (h4 : sQ S' = sQ S) : RM g t k S' μ := by
  unfold RM RA RQ at h ⊢
  rw [h1, h2, h3, h4]
  exact h
theorem RM.kn {g t k r : Nat} {S : St} {μ : MI} (h : RM g t k S μ) (hk : k < 8) (ht : t < 10000) (hr : r ≤ 20) : RM g t (k + 1) (setD k r S) (up2 μ 90 (8 * g + k) (nI (t + r))) ∧ Mr g μ (up2 μ 90 (8 * g + k) (nI (t + r))) := by
  refine ⟨⟨⟨fun a ha => ?_, fun a ha => ?_, fun a ha i hi => ?_⟩, fun q => ?_⟩, fun a i q1 q2 q3 => ?_⟩
  · rw [up2_a _ _ (by omega)]
    exact h.1.1 a ha
  · by_cases e : a = k
    · subst e
      rw [up2_s, if_pos (by omega)]
      show UD _ _ (un (sD S) a r a) ∧ un (sD S) a r a ≤ 20
      rw [un_s]
      exact ⟨UD.rest t r ht hr, hr⟩
    · rw [up2_b _ _ (by omega)]
      show UD _ _ (un (sD S) k r a) ∧ un (sD S) k r a ≤ 20
      rw [un_n _ _ e]
      have := h.1.2.1 a ha
      by_cases q : a < k
      · rw [if_pos q] at this
        rw [if_pos (by omega)]
        exact this
      · rw [if_neg q] at this
        rw [if_neg (by omega)]
        exact this
  · rw [up2_a _ _ (by omega)]
    exact h.1.2.2 a ha i hi
  · have := h.2 q
    unfold RQ at this ⊢
    rw [up2_a _ _ (by omega), up2_a _ _ (by omega), up2_a _ _ (by omega)]
    exact this
  · exact up2_ne _ _ (by omega)
theorem RM.kd {g t k : Nat} {S : St} {μ : MI} (h : RM g t k S μ) (hk : k < 8) (ht : t < 10000) : RM g t (k + 1) (setD k (sD S k - 1) S) μ := by
  refine ⟨⟨h.1.1, fun a ha => ?_, h.1.2.2⟩, h.2⟩
  have h1 := h.1.2.1 a ha
  by_cases e : a = k
  · subst e
    rw [if_neg (by omega)] at h1
    rw [if_pos (by omega)]
    show UD _ _ (un (sD S) a (sD S a - 1) a) ∧ un (sD S) a (sD S a - 1) a ≤ 20
    rw [un_s]
    refine ⟨?_, by omega⟩
    rcases Nat.eq_zero_or_pos (sD S a) with q | q
    · rw [q] at h1 ⊢
      exact h1.1.idle ht
    · exact h1.1.dec ht q h1.2
  · show UD _ _ (un (sD S) k (sD S k - 1) a) ∧ un (sD S) k (sD S k - 1) a ≤ 20
    rw [un_n _ _ e]
    by_cases q : a < k
    · rw [if_pos q] at h1
      rw [if_pos (by omega)]
      exact h1
    · rw [if_neg q] at h1
      rw [if_neg (by omega)]
      exact h1
theorem RM.k0 {g t k : Nat} {S : St} {μ : MI} (h : RM g t k S μ) (hk : k < 8) (ht : t < 10000) (h0 : sD S k = 0) : RM g t (k + 1) S μ := by
  refine (h.kd hk ht).kl rfl ?_ rfl rfl
  funext a
  show sD S a = un (sD S) k (sD S k - 1) a
  by_cases e : a = k
  · subst e
    rw [un_s, h0]
  · rw [un_n _ _ e]
theorem RM.sh {g t nb : Nat} {S : St} {μ : MI} (h : RM g t nb S μ) (ht : t < 10000) (h0 : ∀ b, b < 8 → sC S b 0 = 0) (h1 : ∀ b, b < 8 → sC S b 21 = 0) (hd : ∀ b, nb ≤ b → sD S b = 0) : RM g (t + 1) 0 (shiftP S) μ := by
  refine ⟨⟨h.1.1, fun a ha => ?_, fun a ha j hj => ?_⟩, h.2⟩
  · have h2 := h.1.2.1 a ha
    rw [if_neg (by omega)]
    by_cases q : a < nb
    · rw [if_pos q] at h2
      exact h2
    · rw [if_neg q] at h2
      show UD _ _ (sD S a) ∧ sD S a ≤ 20
      rw [hd a (by omega)] at h2 ⊢
      exact ⟨h2.1.idle ht, h2.2⟩
  · show _ = sC S a (j + 1)
    by_cases e : j = 20
    · subst e
      have h3 := h.1.2.2 a ha 0 (by omega)
      rw [h1 a ha, ← h0 a ha, ← h3]
      congr 2
      omega
    · rw [← h.1.2.2 a ha (j + 1) (by omega)]
      congr 2
      omega
/-- no bucket that isn't there is down -/
def GD (nb : Nat) (S : St) : Prop := ∀ b, nb ≤ b → sD S b = 0
theorem pourP_D (b : Nat) (v : Int32) (S : St) : sD (pourP b v S) = sD S := by
  unfold pourP
  split <;> rfl
theorem dripsP_D (c tw : MI) (t : Nat) (S : St) : ∀ k, sD (dripsP c tw t k S) = sD S
  | 0 => rfl
  | k + 1 => by
    rw [dripsP, dripP]
    split
    · rw [pourP_D]
      exact dripsP_D c tw t S k
    · exact dripsP_D c tw t S k
theorem pipesP_D (S : St) : ∀ k, sD (pipesP k S) = sD S
  | 0 => rfl
  | k + 1 => by
    rw [pipesP]
    show sD (pourP _ _ _) = _
    rw [pourP_D]
    exact pipesP_D S k
theorem driesP_D (S : St) : ∀ k, sD (driesP k S) = sD S
  | 0 => rfl
  | k + 1 => by
    rw [driesP, dryP]
    split <;> exact driesP_D S k
theorem wateredP_D (c tw : MI) (t : Nat) (S : St) : sD (wateredP c tw t S) = sD S := by
  unfold wateredP
  split
  · rw [driesP_D, pipesP_D, dripsP_D]
  · rw [pipesP_D, dripsP_D]
theorem fallP_D (c tw : MI) (b : Nat) (S : St) : sD (fallP c tw b S) = sD S := by
  unfold fallP
  split <;> rfl
theorem turnP_D {c tw : MI} {t b a : Nat} {S : St} (h : a ≠ b) : sD (turnP c tw t b S) a = sD S a := by
  unfold turnP
  split
  · exact un_n _ _ h
  · split
    · show un (sD (fallP c tw b S)) b (N (c 4 b)) a = _
      rw [un_n _ _ h, fallP_D]
    · rfl
theorem turnsP_D {c tw : MI} {t a : Nat} {S : St} : ∀ k, k ≤ a → sD (turnsP c tw t k S) a = sD S a
  | 0, _ => rfl
  | k + 1, h => by
    rw [turnsP, turnP_D (by omega)]
    exact turnsP_D k (by omega)
theorem GD_step {c tw : MI} {t : Nat} {S : St} (h : GD (N (c 2 0)) S) : GD (N (c 2 0)) (stepP c tw t S) := by
  intro b hb
  show sD (turnsP c tw t (N (c 2 0)) (wateredP c tw t S)) b = 0
  rw [turnsP_D _ hb, wateredP_D]
  exact h b hb
theorem GD_S0 (nb : Nat) : GD nb S0 := fun _ _ => rfl
theorem GD_run {c tw : MI} : ∀ t, GD (N (c 2 0)) (runP c tw t)
  | 0 => GD_S0 _
  | t + 1 => GD_step (GD_run t)
