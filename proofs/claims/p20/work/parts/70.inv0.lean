/-! ===== what holds between the calls holds at the start ===== -/
theorem mu0_nb : N (mu0 2 0) = 0 := by decide +kernel
theorem mu0_ns : N (mu0 7 0) = 0 := by decide +kernel
theorem mu0_nf : N (mu0 12 0) = 0 := by decide +kernel
theorem mu0_nw : N (mu0 16 0) = 0 := by decide +kernel
theorem sm_0 {n : Nat} : sm (0 : Int32) n := ⟨by decide +kernel, by rw [show N (0 : Int32) = 0 by decide +kernel]; exact Nat.zero_le n⟩
theorem M1_in {n j : Nat} (h : j < n) : M1 n j = -1 := if_pos h
theorem wc0 : WC mu0 := by
  refine ⟨⟨sm_0, fun b hb => ?_⟩, ⟨sm_0, fun s hs => ?_⟩, sm_0, ⟨sm_0, fun k hk => ?_⟩, sm_0⟩
  · rw [mu0_nb] at hb
    exact absurd hb (Nat.not_lt_zero b)
  · rw [mu0_ns] at hs
    exact absurd hs (Nat.not_lt_zero s)
  · rw [mu0_nw] at hk
    exact absurd hk (Nat.not_lt_zero k)
theorem cm0 : CM mu0 mu0 := by
  refine ⟨⟨rfl, rfl, rfl, rfl, rfl⟩, fun b hb => ?_, fun s hs => ?_, fun k hk => ?_, fun k hk => ?_⟩
  · rw [mu0_nb] at hb
    exact absurd hb (Nat.not_lt_zero b)
  · rw [mu0_ns] at hs
    exact absurd hs (Nat.not_lt_zero s)
  · rw [mu0_nf] at hk
    exact absurd hk (Nat.not_lt_zero k)
  · rw [mu0_nw] at hk
    exact absurd hk (Nat.not_lt_zero k)
theorem mu0_row {b : Nat} (hb : b < 8) : mu0 (33 + 6 + b) = zf := by
  rcases (show b = 0 ∨ b = 1 ∨ b = 2 ∨ b = 3 ∨ b = 4 ∨ b = 5 ∨ b = 6 ∨ b = 7 by omega) with rfl | rfl | rfl | rfl | rfl | rfl | rfl | rfl <;> rfl
theorem rx0 : RX 33 0 S0 mu0 := by
  refine ⟨⟨by decide +kernel, by decide +kernel, by decide +kernel, by decide +kernel⟩, fun b hb => ⟨rfl, ?_, Nat.zero_le 20, rfl, M1_in hb⟩, fun b hb => ?_⟩
  · show (0 : Int32) = nI 0
    decide +kernel
  · rw [mu0_row hb]
    refine ⟨?_, fun j _ _ => rfl⟩
    show (0 : Int32) = 0 + 0
    decide +kernel
theorem lv0 : LV 0 S0 mu0 := by
  refine ⟨⟨⟨fun b hb => rfl, fun b hb => ⟨?_, Nat.zero_le 20⟩, fun b hb j hj => rfl⟩, fun _ => ⟨by decide +kernel, by decide +kernel, by decide +kernel⟩⟩, by decide +kernel, fun b hb => ⟨rfl, M1_in hb⟩⟩
  have e : mu0 90 (8 * 0 + b) = -1 := M1_in (n := 8) (j := 8 * 0 + b) (by omega)
  rw [e]
  refine ⟨fun _ => ?_, fun q => absurd q (by show ¬ 0 < 0; omega)⟩
  rw [if_neg (Nat.not_lt_zero b)]
  decide +kernel
theorem hr0 : HR mu0 nu0 := by
  refine ⟨by decide +kernel, fun b hb => ⟨⟨fun _ => rfl, fun _ => rfl⟩, fun h => absurd rfl h⟩⟩
theorem inv0 : IV 0 S0 mu0 nu0 := by
  refine ⟨Nat.zero_le 2000, wc0, cm0, ⟨rx0, lv0, by decide +kernel, ⟨?_, fun s hs => ⟨?_, ?_⟩, fun b hb => ⟨?_, ?_⟩⟩, ⟨fun s hs => rfl, by decide +kernel, by decide +kernel⟩⟩, ⟨fun b j _ _ => rfl, fun b _ _ j => rfl⟩, fun b _ => ⟨rfl, rfl, fun j => rfl⟩, hr0⟩
  all_goals simp [zeP, tw0, mu0, muL, zf, nI]
