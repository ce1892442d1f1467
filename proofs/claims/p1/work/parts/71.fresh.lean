/-! ===== a fresh object: all stays as it is, from the first tick on ===== -/
theorem EQ_fresh {c : MI} (hC : WC c) (h0 : N (c 2 0) = 0) (a b : Nat) : EQ c a b := by
  have ha := GN_run (tw := plP) hC a
  have hb := GN_run (tw := plP) hC b
  rw [h0] at ha hb
  exact ⟨funext fun k => (ha k (Nat.zero_le k)).1.trans (hb k (Nat.zero_le k)).1.symm, funext fun k => (ha k (Nat.zero_le k)).2.1.trans (hb k (Nat.zero_le k)).2.1.symm, funext fun k => funext fun j => ((ha k (Nat.zero_le k)).2.2 j).trans ((hb k (Nat.zero_le k)).2.2 j).symm⟩
theorem fresh0 : beatB mu0 1 = true ∧ ∀ a b, EQ mu0 a b :=
  ⟨(beatB_iff wc0 1).mpr ⟨fun s hs => by rw [mu0_ns] at hs; exact absurd hs (Nat.not_lt_zero s), Or.inl (by decide +kernel)⟩, fun a b => EQ_fresh wc0 mu0_nb a b⟩
