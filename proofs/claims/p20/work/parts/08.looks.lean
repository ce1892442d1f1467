/-! the class's looks: due, held, wet; the twist; what was heard; the blame -/
theorem c_isDue {s t f e : Nat} (hs : s < 4) (ht : t < 10000) {μ : MI} {ν : ML} {P : Po} (hf : μ 11 s = nI f) (hf3 : f ≤ 30) (he : μ 10 s = nI e) (he3 : e ≤ 30) (h0e : 0 < e) (h1 : dueB μ s t = true → P (some (.int (nI 1))) μ ν) (h0 : dueB μ s t = false → P (some (.int (nI 0))) μ ν) : Ct mX7_isDue 1 [.ref 7, .int (nI s), .int (nI t)] μ ν P := by
  have eq : dueB μ s t = (decide (f ≤ t) && decide ((t - f) % e = 0)) := by
    unfold dueB
    rw [hf, he, N_nI (by omega), N_nI (by omega)]
  rw [eq] at h1 h0
  refine Ct.of (ls0 := [_, _, _]) (by decide) rfl (Nat.le_of_ble_eq_true rfl) rfl ?_
  refine A_iload_n dX7_isDue_0 rfl ?_
  refine A_aload_n dX7_isDue_1 rfl ?_
  refine A_getR dX7_isDue_2 flX7_21 rfl rfl ?_
  refine A_iload_n dX7_isDue_5 rfl ?_
  refine A_ialdN (j := s) dX7_isDue_6 rfl rfl hs (by decide) ?_
  rw [hf]
  refine A_icmp_ltN (tgt := 34) dX7_isDue_7 (by decide) (by omega) (by omega) (fun b7 => ?_) (fun b7 => ?_)
  · refine A_iconst (v := nI 0) dX7_isDue_34 (by decide +kernel) ?_
    refine A_iret dX7_isDue_35 rfl (by decide +kernel) ?_
    exact h0 (by simp [show ¬ f ≤ t by omega])
  · refine A_aload_n dX7_isDue_10 rfl ?_
    refine A_getR dX7_isDue_11 flX7_18 rfl rfl ?_
    refine A_iload_n dX7_isDue_14 rfl ?_
    refine A_ialdN (j := s) dX7_isDue_15 rfl rfl hs (by decide) ?_
    rw [he]
    refine A_iload_n dX7_isDue_16 rfl ?_
    refine A_aload_n dX7_isDue_17 rfl ?_
    refine A_getR dX7_isDue_18 flX7_21 rfl rfl ?_
    refine A_iload_n dX7_isDue_21 rfl ?_
    refine A_ialdN (j := s) dX7_isDue_22 rfl rfl hs (by decide) ?_
    rw [hf]
    refine A_isub dX7_isDue_23 ?_
    rw [pk_sub b7]
    refine A_callN2 dX7_isDue_24 mlX7_28 (by decide) (Nat.le_of_ble_eq_true rfl) (c_goesInto (by omega) (by omega) (fun g1 g2 => ?_) (fun g0 => ?_))
    · refine Kn.s ?_
      refine A_if_eq (tgt := 34) dX7_isDue_27 (by decide) (fun h => absurd h (by decide +kernel)) (fun _ => ?_)
      refine A_iconst (v := nI 1) dX7_isDue_30 (by decide +kernel) ?_
      refine A_goto (tgt := 35) dX7_isDue_31 (by decide) ?_
      refine A_iret dX7_isDue_35 rfl (by decide +kernel) ?_
      exact h1 (by simp [b7, g2])
    · refine Kn.s ?_
      refine A_if_eq (tgt := 34) dX7_isDue_27 (by decide) (fun _ => ?_) (fun h => absurd h (by decide +kernel))
      refine A_iconst (v := nI 0) dX7_isDue_34 (by decide +kernel) ?_
      refine A_iret dX7_isDue_35 rfl (by decide +kernel) ?_
      exact h0 (by simp only [Bool.and_eq_false_iff, decide_eq_false_iff_not]; exact Or.inr (fun q => g0 ⟨h0e, q⟩))
def sitQ (μ : MI) (s t k : Nat) : Bool := decide (μ 13 k = nI s) && (decide (μ 14 k ≤ nI t) && decide (nI t ≤ μ 15 k))
theorem c_sitOn {s t m : Nat} {μ : MI} {ν : ML} {P : Po} (hm : μ 12 0 = nI m) (hm8 : m ≤ 10) (h1 : frogB μ s t = true → P (some (.int (nI 1))) μ ν) (h0 : frogB μ s t = false → P (some (.int (nI 0))) μ ν) : Ct mX3_sitOn 0 [.ref 12, .int (nI s), .int (nI t)] μ ν P := by
  have eq : frogB μ s t = anyB (sitQ μ s t) m := by
    unfold frogB
    rw [hm, N_nI (by omega)]
    rfl
  rw [eq] at h1 h0
  refine Ct.of (ls0 := [_, _, _, _]) (by decide) rfl (Nat.le_of_ble_eq_true rfl) rfl ?_
  have loop : ∀ (n i : Nat), m - i < n → i ≤ m → anyB (sitQ μ s t) i = false → AW mX3_sitOn (0, none) P 2 [some (.ref 12), some (.int (nI s)), some (.int (nI t)), some (.int (nI i))] [] μ ν := by
    intro n
    induction n with
    | zero => intro i h; omega
    | succ n ih =>
      intro i hn hi ha
      refine A_iload_n dX3_sitOn_2 rfl ?_
      refine A_aload_n dX3_sitOn_3 rfl ?_
      refine A_getI dX3_sitOn_4 flX3_21 rfl rfl ?_
      rw [hm]
      refine A_icmp_geN (tgt := 48) dX3_sitOn_7 (by decide) (by omega) (by omega) (fun b7 => ?_) (fun b7 => ?_)
      · refine A_iconst (v := nI 0) dX3_sitOn_48 (by decide +kernel) ?_
        refine A_iret dX3_sitOn_49 rfl (by decide +kernel) ?_
        exact h0 (by rw [show m = i by omega]; exact ha)
      · refine A_aload_n dX3_sitOn_10 rfl ?_
        refine A_getR dX3_sitOn_11 flX3_9 rfl rfl ?_
        refine A_iload_n dX3_sitOn_14 rfl ?_
        refine A_ialdN (j := i) dX3_sitOn_15 rfl rfl (by omega) (by decide) ?_
        refine A_iload_n dX3_sitOn_16 rfl ?_
        refine A_icmp_ne (tgt := 42) dX3_sitOn_17 (by decide) (fun b17 => ?_) (fun b17 => ?_)
        · refine A_iincN (ls1 := [_, _, _, _]) dX3_sitOn_42 rfl (by decide) rfl rfl ?_
          refine A_goto (tgt := 2) dX3_sitOn_45 (by decide) ?_
          exact ih (i + 1) (by omega) (by omega) (by rw [anyB, ha]; simp [sitQ, b17])
        · refine A_aload_n dX3_sitOn_20 rfl ?_
          refine A_getR dX3_sitOn_21 flX3_15 rfl rfl ?_
          refine A_iload_n dX3_sitOn_24 rfl ?_
          refine A_ialdN (j := i) dX3_sitOn_25 rfl rfl (by omega) (by decide) ?_
          refine A_iload_n dX3_sitOn_26 rfl ?_
          refine A_icmp_gt (tgt := 42) dX3_sitOn_27 (by decide) (fun b27 => ?_) (fun b27 => ?_)
          · refine A_iincN (ls1 := [_, _, _, _]) dX3_sitOn_42 rfl (by decide) rfl rfl ?_
            refine A_goto (tgt := 2) dX3_sitOn_45 (by decide) ?_
            exact ih (i + 1) (by omega) (by omega) (by rw [anyB, ha]; simp [sitQ, i_lt_n b27])
          · refine A_iload_n dX3_sitOn_30 rfl ?_
            refine A_aload_n dX3_sitOn_31 rfl ?_
            refine A_getR dX3_sitOn_32 flX3_18 rfl rfl ?_
            refine A_iload_n dX3_sitOn_35 rfl ?_
            refine A_ialdN (j := i) dX3_sitOn_36 rfl rfl (by omega) (by decide) ?_
            refine A_icmp_gt (tgt := 42) dX3_sitOn_37 (by decide) (fun b37 => ?_) (fun b37 => ?_)
            · refine A_iincN (ls1 := [_, _, _, _]) dX3_sitOn_42 rfl (by decide) rfl rfl ?_
              refine A_goto (tgt := 2) dX3_sitOn_45 (by decide) ?_
              exact ih (i + 1) (by omega) (by omega) (by rw [anyB, ha]; simp [sitQ, i_lt_n b37])
            · refine A_iconst (v := nI 1) dX3_sitOn_40 (by decide +kernel) ?_
              refine A_iret dX3_sitOn_41 rfl (by decide +kernel) ?_
              exact h1 (anyB_t (k := i) (by omega) (by simp [sitQ, b17, i_nlt b27, i_nlt b37]))
  refine A_iconst (v := nI 0) dX3_sitOn_0 (by decide +kernel) ?_
  refine A_istore_n (ls1 := [_, _, _, _]) dX3_sitOn_1 (by decide) rfl rfl ?_
  exact loop (m + 1) 0 (by omega) (by omega) rfl
theorem c_wetAt {t m : Nat} {μ : MI} {ν : ML} {P : Po} (hm : μ 16 0 = nI m) (hm8 : m ≤ 10) (hP : P (some (.int (wetP μ t))) μ ν) : Ct mX6_wetAt 1 [.ref 16, .int (nI t)] μ ν P := by
  unfold wetP at hP
  rw [hm, N_nI (by omega)] at hP
  refine Ct.of (ls0 := [_, _, _, _, _]) (by decide) rfl (Nat.le_of_ble_eq_true rfl) rfl ?_
  have loop : ∀ (n i : Nat), m - i < n → i ≤ m → AW mX6_wetAt (1, none) P 7 [some (.ref 16), some (.int (nI t)), some (.int (wetF (μ 17) (μ 18) (nI t) i).1), some (.int (wetF (μ 17) (μ 18) (nI t) i).2), some (.int (nI i))] [] μ ν := by
    intro n
    induction n with
    | zero => intro i h; omega
    | succ n ih =>
      intro i hn hi
      refine A_iload dX6_wetAt_7 rfl ?_
      refine A_aload_n dX6_wetAt_9 rfl ?_
      refine A_getI dX6_wetAt_10 flX6_18 rfl rfl ?_
      rw [hm]
      refine A_icmp_geN (tgt := 53) dX6_wetAt_13 (by decide) (by omega) (by omega) (fun b13 => ?_) (fun b13 => ?_)
      · refine A_iload_n dX6_wetAt_53 rfl ?_
        refine A_iret dX6_wetAt_54 rfl rfl ?_
        rw [show m = i by omega] at hP; exact hP
      · refine A_aload_n dX6_wetAt_16 rfl ?_
        refine A_getR dX6_wetAt_17 flX6_9 rfl rfl ?_
        refine A_iload dX6_wetAt_20 rfl ?_
        refine A_ialdN (j := i) dX6_wetAt_22 rfl rfl (by omega) (by decide) ?_
        refine A_iload_n dX6_wetAt_23 rfl ?_
        refine A_iload_n dX6_wetAt_24 rfl ?_
        refine A_callN3 dX6_wetAt_25 mlX6_22 (by decide) (Nat.le_of_ble_eq_true rfl) (c_within _ _ _ (fun g1 g2 => ?_) (fun g0 => ?_))
        · refine Kn.s ?_
          refine A_if_eq (tgt := 47) dX6_wetAt_28 (by decide) (fun h => absurd h (by decide +kernel)) (fun _ => ?_)
          refine A_aload_n dX6_wetAt_31 rfl ?_
          refine A_getR dX6_wetAt_32 flX6_9 rfl rfl ?_
          refine A_iload dX6_wetAt_35 rfl ?_
          refine A_ialdN (j := i) dX6_wetAt_37 rfl rfl (by omega) (by decide) ?_
          refine A_istore_n (ls1 := [_, _, _, _, _]) dX6_wetAt_38 (by decide) rfl rfl ?_
          refine A_aload_n dX6_wetAt_39 rfl ?_
          refine A_getR dX6_wetAt_40 flX6_15 rfl rfl ?_
          refine A_iload dX6_wetAt_43 rfl ?_
          refine A_ialdN (j := i) dX6_wetAt_45 rfl rfl (by omega) (by decide) ?_
          refine A_istore_n (ls1 := [_, _, _, _, _]) dX6_wetAt_46 (by decide) rfl rfl ?_
          refine A_iincN (ls1 := [_, _, _, _, _]) dX6_wetAt_47 rfl (by decide) rfl rfl ?_
          refine A_goto (tgt := 7) dX6_wetAt_50 (by decide) ?_
          have e : wetF (μ 17) (μ 18) (nI t) (i + 1) = (μ 17 i, μ 18 i) := if_pos ⟨g1, g2⟩
          have h9 := ih (i + 1) (by omega) (by omega)
          rw [e] at h9
          exact h9
        · refine Kn.s ?_
          refine A_if_eq (tgt := 47) dX6_wetAt_28 (by decide) (fun _ => ?_) (fun h => absurd h (by decide +kernel))
          refine A_iincN (ls1 := [_, _, _, _, _]) dX6_wetAt_47 rfl (by decide) rfl rfl ?_
          refine A_goto (tgt := 7) dX6_wetAt_50 (by decide) ?_
          have e : wetF (μ 17) (μ 18) (nI t) (i + 1) = wetF (μ 17) (μ 18) (nI t) i := if_neg g0
          have h9 := ih (i + 1) (by omega) (by omega)
          rw [e] at h9
          exact h9
  refine A_iconst (v := nI 0) dX6_wetAt_0 (by decide +kernel) ?_
  refine A_istore_n (ls1 := [_, _, _, _, _]) dX6_wetAt_1 (by decide) rfl rfl ?_
  refine A_iconst (v := nI 0) dX6_wetAt_2 (by decide +kernel) ?_
  refine A_istore_n (ls1 := [_, _, _, _, _]) dX6_wetAt_3 (by decide) rfl rfl ?_
  refine A_iconst (v := nI 0) dX6_wetAt_4 (by decide +kernel) ?_
  refine A_istore (ls1 := [_, _, _, _, _]) dX6_wetAt_5 (by decide) rfl rfl ?_
  exact loop (m + 1) 0 (by omega) (by omega)
/-- the twist's cells hold tw -/
def TW (w : Nat) (tw μ : MI) : Prop := μ w 0 = tw 0 0 ∧ (∀ s, s < 4 → μ (w + 1) s = tw 1 s ∧ μ (w + 2) s = tw 2 s) ∧ ∀ b, b < 8 → μ (w + 3) b = tw 3 b ∧ μ (w + 4) b = tw 4 b
def tw0 (p : Int32) : MI := fun k _ => if k = 0 then p else 0
theorem c_reset (p : Int32) {μ : MI} {ν : ML} {P : Po} (hp : p = nI 0 ∨ p = nI 1) (hP : ∀ μ', TW 24 (tw0 p) μ' → Fr 24 5 μ μ' → P none μ' ν) : Ct mX8_reset 0 [.ref 24, .int p] μ ν P := by
  refine Ct.of (ls0 := [_, _, _]) (by decide) rfl (Nat.le_of_ble_eq_true rfl) rfl ?_
  have loop2 : ∀ (n i : Nat) (μ1 : MI), 8 - i < n → i ≤ 8 → Fr 24 5 μ μ1 → μ1 24 0 = p → (∀ s, s < 4 → μ1 25 s = 0 ∧ μ1 26 s = 0) → (∀ b, b < i → μ1 27 b = 0 ∧ μ1 28 b = 0) → AW mX8_reset (0, none) P 34 [some (.ref 24), some (.int p), some (.int (nI i))] [] μ1 ν := by
    intro n
    induction n with
    | zero => intro i μ1 h; omega
    | succ n ih =>
      intro i μ1 hn hi hF h0 h1 h2
      refine A_iload_n dX8_reset_34 rfl ?_
      refine A_bipush (v := nI 8) dX8_reset_35 (by decide +kernel) ?_
      refine A_icmp_geN (tgt := 60) dX8_reset_37 (by decide) (by omega) (by omega) (fun b37 => ?_) (fun b37 => ?_)
      · refine A_vret dX8_reset_60 rfl ?_
        exact hP μ1 ⟨h0, h1, fun b hb => h2 b (by omega)⟩ hF
      · refine A_aload_n dX8_reset_40 rfl ?_
        refine A_getR dX8_reset_41 flX8_19 rfl rfl ?_
        refine A_iload_n dX8_reset_44 rfl ?_
        refine A_iconst (v := nI 0) dX8_reset_45 (by decide +kernel) ?_
        refine A_zastN (j := i) dX8_reset_46 rfl rfl b37 (by decide) rfl ?_
        refine A_aload_n dX8_reset_47 rfl ?_
        refine A_getR dX8_reset_48 flX8_22 rfl rfl ?_
        refine A_iload_n dX8_reset_51 rfl ?_
        refine A_iconst (v := nI 0) dX8_reset_52 (by decide +kernel) ?_
        refine A_zastN (j := i) dX8_reset_53 rfl rfl b37 (by decide) rfl ?_
        refine A_iincN (ls1 := [_, _, _]) dX8_reset_54 rfl (by decide) rfl rfl ?_
        refine A_goto (tgt := 34) dX8_reset_57 (by decide) ?_
        refine ih (i + 1) _ (by omega) (by omega) ((hF.tr (Fr.up (by omega) (by omega))).tr (Fr.up (by omega) (by omega))) ?_ (fun s hs => ?_) (fun b hb => ?_)
        · simp (disch := omega) only [up2_a]; exact h0
        · simp (disch := omega) only [up2_a]; exact h1 s hs
        · by_cases e : b = i
          · subst e
            simp (disch := omega) only [up2_a, up2_s]
            exact ⟨rfl, rfl⟩
          · simp (disch := omega) only [up2_a, up2_b]
            exact h2 b (by omega)
  have loop1 : ∀ (n i : Nat) (μ1 : MI), 4 - i < n → i ≤ 4 → Fr 24 5 μ μ1 → μ1 24 0 = p → (∀ s, s < i → μ1 25 s = 0 ∧ μ1 26 s = 0) → AW mX8_reset (0, none) P 7 [some (.ref 24), some (.int p), some (.int (nI i))] [] μ1 ν := by
    intro n
    induction n with
    | zero => intro i μ1 h; omega
    | succ n ih =>
      intro i μ1 hn hi hF h0 h1
      refine A_iload_n dX8_reset_7 rfl ?_
      refine A_iconst (v := nI 4) dX8_reset_8 (by decide +kernel) ?_
      refine A_icmp_geN (tgt := 32) dX8_reset_9 (by decide) (by omega) (by omega) (fun b9 => ?_) (fun b9 => ?_)
      · refine A_iconst (v := nI 0) dX8_reset_32 (by decide +kernel) ?_
        refine A_istore_n (ls1 := [_, _, _]) dX8_reset_33 (by decide) rfl rfl ?_
        exact loop2 9 0 μ1 (by omega) (by omega) hF h0 (fun s hs => h1 s (by omega)) (fun b hb => by omega)
      · refine A_aload_n dX8_reset_12 rfl ?_
        refine A_getR dX8_reset_13 flX8_9 rfl rfl ?_
        refine A_iload_n dX8_reset_16 rfl ?_
        refine A_iconst (v := nI 0) dX8_reset_17 (by decide +kernel) ?_
        refine A_iastN (j := i) dX8_reset_18 rfl rfl b9 (by decide) ?_
        refine A_aload_n dX8_reset_19 rfl ?_
        refine A_getR dX8_reset_20 flX8_15 rfl rfl ?_
        refine A_iload_n dX8_reset_23 rfl ?_
        refine A_iconst (v := nI 0) dX8_reset_24 (by decide +kernel) ?_
        refine A_zastN (j := i) dX8_reset_25 rfl rfl b9 (by decide) rfl ?_
        refine A_iincN (ls1 := [_, _, _]) dX8_reset_26 rfl (by decide) rfl rfl ?_
        refine A_goto (tgt := 7) dX8_reset_29 (by decide) ?_
        refine ih (i + 1) _ (by omega) (by omega) ((hF.tr (Fr.up (by omega) (by omega))).tr (Fr.up (by omega) (by omega))) ?_ (fun s hs => ?_)
        · simp (disch := omega) only [up2_a]; exact h0
        · by_cases e : s = i
          · subst e
            simp (disch := omega) only [up2_a, up2_s]
            exact ⟨rfl, rfl⟩
          · simp (disch := omega) only [up2_a, up2_b]
            exact h1 s (by omega)
  refine A_aload_n dX8_reset_0 rfl ?_
  refine A_iload_n dX8_reset_1 rfl ?_
  refine A_put dX8_reset_2 fpX8_25 rfl rfl (by rcases hp with rfl | rfl <;> decide +kernel) (by rcases hp with rfl | rfl <;> decide +kernel) ?_
  refine A_iconst (v := nI 0) dX8_reset_5 (by decide +kernel) ?_
  refine A_istore_n (ls1 := [_, _, _]) dX8_reset_6 (by decide) rfl rfl ?_
  exact loop1 5 0 _ (by omega) (by omega) (Fr.up (by omega) (by omega)) (up2_s _ _ _ _) (fun s hs => by omega)
theorem c_fail (f : Int32) {μ : MI} {ν : ML} {P : Po} (h1 : ∀ k, f = nI k → k < 4 → P none (up2 μ 26 k (nI 1)) ν) (h2 : ∀ k, f = nI (k + 10) → k < 8 → P none (up2 μ 27 k (nI 1)) ν) (h3 : ∀ k, f = nI (k + 20) → k < 8 → P none (up2 μ 28 k (nI 1)) ν) (h4 : (¬ (nI 0 ≤ f ∧ f ≤ nI 3)) → ¬ (nI 10 ≤ f ∧ f ≤ nI 17) → ¬ (nI 20 ≤ f ∧ f ≤ nI 27) → P none μ ν) : Ct mX8_fail 1 [.ref 24, .int f] μ ν P := by
  refine Ct.of (ls0 := [_, _]) (by decide) rfl (Nat.le_of_ble_eq_true rfl) rfl ?_
  refine A_iload_n dX8_fail_0 rfl ?_
  refine A_iconst (v := nI 0) dX8_fail_1 (by decide +kernel) ?_
  refine A_iconst (v := nI 3) dX8_fail_2 (by decide +kernel) ?_
  refine A_callN3 dX8_fail_3 mlX8_29 (by decide) (Nat.le_of_ble_eq_true rfl) (c_within _ _ _ (fun g1 g2 => ?_) (fun g3 => ?_))
  · refine Kn.s ?_
    refine A_if_eq (tgt := 19) dX8_fail_6 (by decide) (fun h => absurd h (by decide +kernel)) (fun _ => ?_)
    obtain ⟨k, hk, rfl⟩ := nI_of2 (M := nI 3) (n := 3) rfl (i_le_n g1) g2
    refine A_aload_n dX8_fail_9 rfl ?_
    refine A_getR dX8_fail_10 flX8_15 rfl rfl ?_
    refine A_iload_n dX8_fail_13 rfl ?_
    refine A_iconst (v := nI 1) dX8_fail_14 (by decide +kernel) ?_
    refine A_zastN (j := k) dX8_fail_15 rfl rfl (by omega) (by decide) rfl ?_
    refine A_goto (tgt := 64) dX8_fail_16 (by decide) ?_
    refine A_vret dX8_fail_64 rfl ?_
    exact h1 k rfl (by omega)
  · refine Kn.s ?_
    refine A_if_eq (tgt := 19) dX8_fail_6 (by decide) (fun _ => ?_) (fun h => absurd h (by decide +kernel))
    refine A_iload_n dX8_fail_19 rfl ?_
    refine A_bipush (v := nI 10) dX8_fail_20 (by decide +kernel) ?_
    refine A_bipush (v := nI 17) dX8_fail_22 (by decide +kernel) ?_
    refine A_callN3 dX8_fail_24 mlX8_29 (by decide) (Nat.le_of_ble_eq_true rfl) (c_within _ _ _ (fun g4 g5 => ?_) (fun g6 => ?_))
    · refine Kn.s ?_
      refine A_if_eq (tgt := 43) dX8_fail_27 (by decide) (fun h => absurd h (by decide +kernel)) (fun _ => ?_)
      obtain ⟨k0, hk, rfl⟩ := nI_of2 (M := nI 17) (n := 17) rfl (i_le_n (Int32.le_trans (by decide +kernel) g4)) g5
      have g4' := (nI_leI (by omega) (by omega)).mp g4
      obtain ⟨k, rfl⟩ : ∃ k, k0 = k + 10 := ⟨k0 - 10, by omega⟩
      refine A_aload_n dX8_fail_30 rfl ?_
      refine A_getR dX8_fail_31 flX8_19 rfl rfl ?_
      refine A_iload_n dX8_fail_34 rfl ?_
      refine A_bipush (v := nI 10) dX8_fail_35 (by decide +kernel) ?_
      refine A_isub dX8_fail_37 ?_
      rw [pk_sub (by omega), show k + 10 - 10 = k by omega]
      refine A_iconst (v := nI 1) dX8_fail_38 (by decide +kernel) ?_
      refine A_zastN (j := k) dX8_fail_39 rfl rfl (by omega) (by decide) rfl ?_
      refine A_goto (tgt := 64) dX8_fail_40 (by decide) ?_
      refine A_vret dX8_fail_64 rfl ?_
      exact h2 k rfl (by omega)
    · refine Kn.s ?_
      refine A_if_eq (tgt := 43) dX8_fail_27 (by decide) (fun _ => ?_) (fun h => absurd h (by decide +kernel))
      refine A_iload_n dX8_fail_43 rfl ?_
      refine A_bipush (v := nI 20) dX8_fail_44 (by decide +kernel) ?_
      refine A_bipush (v := nI 27) dX8_fail_46 (by decide +kernel) ?_
      refine A_callN3 dX8_fail_48 mlX8_29 (by decide) (Nat.le_of_ble_eq_true rfl) (c_within _ _ _ (fun g7 g8 => ?_) (fun g9 => ?_))
      · refine Kn.s ?_
        refine A_if_eq (tgt := 64) dX8_fail_51 (by decide) (fun h => absurd h (by decide +kernel)) (fun _ => ?_)
        obtain ⟨k0, hk, rfl⟩ := nI_of2 (M := nI 27) (n := 27) rfl (i_le_n (Int32.le_trans (by decide +kernel) g7)) g8
        have g7' := (nI_leI (by omega) (by omega)).mp g7
        obtain ⟨k, rfl⟩ : ∃ k, k0 = k + 20 := ⟨k0 - 20, by omega⟩
        refine A_aload_n dX8_fail_54 rfl ?_
        refine A_getR dX8_fail_55 flX8_22 rfl rfl ?_
        refine A_iload_n dX8_fail_58 rfl ?_
        refine A_bipush (v := nI 20) dX8_fail_59 (by decide +kernel) ?_
        refine A_isub dX8_fail_61 ?_
        rw [pk_sub (by omega), show k + 20 - 20 = k by omega]
        refine A_iconst (v := nI 1) dX8_fail_62 (by decide +kernel) ?_
        refine A_zastN (j := k) dX8_fail_63 rfl rfl (by omega) (by decide) rfl ?_
        refine A_vret dX8_fail_64 rfl ?_
        exact h3 k rfl (by omega)
      · refine Kn.s ?_
        refine A_if_eq (tgt := 64) dX8_fail_51 (by decide) (fun _ => ?_) (fun h => absurd h (by decide +kernel))
        refine A_vret dX8_fail_64 rfl ?_
        exact h4 g3 g6 g9
def beatB (c : MI) (n : Nat) : Bool := allB (fun s => decide (0 < N (c 10 s)) && decide (n % N (c 10 s) = 0)) (N (c 7 0)) && (decide (N (c 1 4) = 0) || decide (n % N (c 1 4) = 0))
theorem c_isBeat {n m dr : Nat} (hn : n < 10000) {μ : MI} {ν : ML} {P : Po} (hm : μ 7 0 = nI m) (hm4 : m ≤ 4) (he : ∀ s, s < m → sm (μ 10 s) 30) (hd : μ 1 4 = nI dr) (hd5 : dr ≤ 50) (h1 : beatB μ n = true → P (some (.int (nI 1))) μ ν) (h0 : beatB μ n = false → P (some (.int (nI 0))) μ ν) : Ct mX5_isBeat 1 [.ref 1, .int (nI n)] μ ν P := by
  have eq : beatB μ n = (allB (fun s => decide (0 < N (μ 10 s)) && decide (n % N (μ 10 s) = 0)) m && (decide (dr = 0) || decide (n % dr = 0))) := by
    unfold beatB
    rw [hm, hd, N_nI (by omega), N_nI (by omega)]
  rw [eq] at h1 h0
  refine Ct.of (ls0 := [_, _, _]) (by decide) rfl (Nat.le_of_ble_eq_true rfl) rfl ?_
  have loop : ∀ (k i : Nat), m - i < k → i ≤ m → allB (fun s => decide (0 < N (μ 10 s)) && decide (n % N (μ 10 s) = 0)) i = true → AW mX5_isBeat (1, none) P 2 [some (.ref 1), some (.int (nI n)), some (.int (nI i))] [] μ ν := by
    intro k
    induction k with
    | zero => intro i h; omega
    | succ k ih =>
      intro i hk hi ha
      refine A_iload_n dX5_isBeat_2 rfl ?_
      refine A_aload_n dX5_isBeat_3 rfl ?_
      refine A_getR dX5_isBeat_4 flX5_21 rfl rfl ?_
      refine A_getI dX5_isBeat_7 flX5_39 rfl rfl ?_
      rw [hm]
      refine A_icmp_geN (tgt := 37) dX5_isBeat_10 (by decide) (by omega) (by omega) (fun b10 => ?_) (fun b10 => ?_)
      · have e : i = m := by omega
        subst e
        refine A_aload_n dX5_isBeat_37 rfl ?_
        refine A_getI dX5_isBeat_38 flX5_51 rfl rfl ?_
        rw [hd]
        refine A_if_eq (tgt := 55) dX5_isBeat_41 (by decide) (fun b41 => ?_) (fun b41 => ?_)
        · refine A_iconst (v := nI 1) dX5_isBeat_55 (by decide +kernel) ?_
          refine A_goto (tgt := 60) dX5_isBeat_56 (by decide) ?_
          refine A_iret dX5_isBeat_60 rfl (by decide +kernel) ?_
          refine h1 ?_
          have e0 : dr = 0 := (nI_eq (a := dr) (b := 0) (by omega) (by omega)).mp b41
          simp [ha, e0]
        · refine A_aload_n dX5_isBeat_44 rfl ?_
          refine A_getI dX5_isBeat_45 flX5_51 rfl rfl ?_
          rw [hd]
          refine A_iload_n dX5_isBeat_48 rfl ?_
          refine A_callN2 dX5_isBeat_49 mlX5_47 (by decide) (Nat.le_of_ble_eq_true rfl) (c_goesInto (by omega) (by omega) (fun g1 g2 => ?_) (fun g0 => ?_))
          · refine Kn.s ?_
            refine A_if_eq (tgt := 59) dX5_isBeat_52 (by decide) (fun h => absurd h (by decide +kernel)) (fun _ => ?_)
            refine A_iconst (v := nI 1) dX5_isBeat_55 (by decide +kernel) ?_
            refine A_goto (tgt := 60) dX5_isBeat_56 (by decide) ?_
            refine A_iret dX5_isBeat_60 rfl (by decide +kernel) ?_
            exact h1 (by simp [ha, g2])
          · refine Kn.s ?_
            refine A_if_eq (tgt := 59) dX5_isBeat_52 (by decide) (fun _ => ?_) (fun h => absurd h (by decide +kernel))
            refine A_iconst (v := nI 0) dX5_isBeat_59 (by decide +kernel) ?_
            refine A_iret dX5_isBeat_60 rfl (by decide +kernel) ?_
            refine h0 ?_
            have e0 : ¬ dr = 0 := fun q => b41 (by rw [q]; rfl)
            have e1 : ¬ n % dr = 0 := fun q => g0 ⟨by omega, q⟩
            simp [e0, e1]
      · refine A_aload_n dX5_isBeat_13 rfl ?_
        refine A_getR dX5_isBeat_14 flX5_21 rfl rfl ?_
        refine A_getR dX5_isBeat_17 flX5_43 rfl rfl ?_
        refine A_iload_n dX5_isBeat_20 rfl ?_
        refine A_ialdN (j := i) dX5_isBeat_21 rfl rfl (by omega) (by decide) ?_
        rw [(he i b10).1]
        refine A_iload_n dX5_isBeat_22 rfl ?_
        have hs := (he i b10).2
        refine A_callN2 dX5_isBeat_23 mlX5_47 (by decide) (Nat.le_of_ble_eq_true rfl) (c_goesInto (by omega) (by omega) (fun g1 g2 => ?_) (fun g0 => ?_))
        · refine Kn.s ?_
          refine A_if_ne (tgt := 31) dX5_isBeat_26 (by decide) (fun _ => ?_) (fun h => absurd h (by decide +kernel))
          refine A_iincN (ls1 := [_, _, _]) dX5_isBeat_31 rfl (by decide) rfl rfl ?_
          refine A_goto (tgt := 2) dX5_isBeat_34 (by decide) ?_
          exact ih (i + 1) (by omega) (by omega) (by rw [allB, ha]; simp [g1, g2])
        · refine Kn.s ?_
          refine A_if_ne (tgt := 31) dX5_isBeat_26 (by decide) (fun h => absurd h (by decide +kernel)) (fun _ => ?_)
          refine A_iconst (v := nI 0) dX5_isBeat_29 (by decide +kernel) ?_
          refine A_iret dX5_isBeat_30 rfl (by decide +kernel) ?_
          refine h0 ?_
          rw [allB_f (k := i) b10 (by simp only [Bool.and_eq_false_iff, decide_eq_false_iff_not]; rcases Nat.eq_zero_or_pos (N (μ 10 i)) with q | q; exact Or.inl (by omega); exact Or.inr (fun q2 => g0 ⟨q, q2⟩))]
          rfl
  refine A_iconst (v := nI 0) dX5_isBeat_0 (by decide +kernel) ?_
  refine A_istore_n (ls1 := [_, _, _]) dX5_isBeat_1 (by decide) rfl rfl ?_
  exact loop (m + 1) 0 (by omega) (by omega) rfl
/-- a fault that there may be -/
def canF (nb ns k : Nat) : Bool := if k < 10 then decide (k < ns) else if k < 20 then decide (k - 10 < nb) else decide (k - 20 < nb)
theorem c_canFail {k nb ns : Nat} (hk : k < 30) {μ : MI} {ν : ML} {P : Po} (hb : μ 2 0 = nI nb) (hb8 : nb ≤ 8) (hs : μ 7 0 = nI ns) (hs4 : ns ≤ 4) (h1 : canF nb ns k = true → P (some (.int (nI 1))) μ ν) (h0 : canF nb ns k = false → P (some (.int (nI 0))) μ ν) : Ct mX5_canFail 1 [.ref 1, .int (nI k)] μ ν P := by
  have hin : ∀ {j n : Nat}, j < 30 → n ≤ 8 → (inR (nI j) n ↔ j < n) := by
    intro j n hj hn
    refine ⟨fun ⟨i, h, hi⟩ => ?_, fun h => ⟨j, rfl, h⟩⟩
    have := (nI_eq (a := j) (b := i) (by omega) (by omega)).mp h
    omega
  refine Ct.of (ls0 := [_, _]) (by decide) rfl (Nat.le_of_ble_eq_true rfl) rfl ?_
  refine A_iload_n dX5_canFail_0 rfl ?_
  refine A_bipush (v := nI 10) dX5_canFail_1 (by decide +kernel) ?_
  refine A_icmp_geN (tgt := 15) dX5_canFail_3 (by decide) (by omega) (by omega) (fun b3 => ?_) (fun b3 => ?_)
  · refine A_aload_n dX5_canFail_15 rfl ?_
    refine A_getR dX5_canFail_16 flX5_12 rfl rfl ?_
    refine A_iload_n dX5_canFail_19 rfl ?_
    refine A_bipush (v := nI 20) dX5_canFail_20 (by decide +kernel) ?_
    refine A_icmp_geN (tgt := 32) dX5_canFail_22 (by decide) (by omega) (by omega) (fun b22 => ?_) (fun b22 => ?_)
    · refine A_iload_n dX5_canFail_32 rfl ?_
      refine A_bipush (v := nI 20) dX5_canFail_33 (by decide +kernel) ?_
      refine A_isub dX5_canFail_35 ?_
      rw [pk_sub b22]
      refine A_callV1 dX5_canFail_36 mlX5_58 (by decide) rfl rfl (Nat.le_of_ble_eq_true rfl) (c_has _ hb hb8 (fun g => ?_) (fun g => ?_))
      · refine Kn.s ?_
        refine A_iret dX5_canFail_39 rfl (by decide +kernel) ?_
        exact h1 (by rw [hin (by omega) (by omega)] at g; simp [canF, show ¬ k < 10 by omega, show ¬ k < 20 by omega, g])
      · refine Kn.s ?_
        refine A_iret dX5_canFail_39 rfl (by decide +kernel) ?_
        exact h0 (by rw [hin (by omega) (by omega)] at g; simp [canF, show ¬ k < 10 by omega, show ¬ k < 20 by omega]; omega)
    · refine A_iload_n dX5_canFail_25 rfl ?_
      refine A_bipush (v := nI 10) dX5_canFail_26 (by decide +kernel) ?_
      refine A_isub dX5_canFail_28 ?_
      rw [pk_sub b3]
      refine A_goto (tgt := 36) dX5_canFail_29 (by decide) ?_
      refine A_callV1 dX5_canFail_36 mlX5_58 (by decide) rfl rfl (Nat.le_of_ble_eq_true rfl) (c_has _ hb hb8 (fun g => ?_) (fun g => ?_))
      · refine Kn.s ?_
        refine A_iret dX5_canFail_39 rfl (by decide +kernel) ?_
        exact h1 (by rw [hin (by omega) (by omega)] at g; simp [canF, show ¬ k < 10 by omega, b22, g])
      · refine Kn.s ?_
        refine A_iret dX5_canFail_39 rfl (by decide +kernel) ?_
        exact h0 (by rw [hin (by omega) (by omega)] at g; simp [canF, show ¬ k < 10 by omega, b22]; omega)
  · refine A_aload_n dX5_canFail_6 rfl ?_
    refine A_getR dX5_canFail_7 flX5_21 rfl rfl ?_
    refine A_iload_n dX5_canFail_10 rfl ?_
    refine A_callV1 dX5_canFail_11 mlX5_54 (by decide) rfl rfl (Nat.le_of_ble_eq_true rfl) (c_hasS _ hs hs4 (fun g => ?_) (fun g => ?_))
    · refine Kn.s ?_
      refine A_iret dX5_canFail_14 rfl (by decide +kernel) ?_
      exact h1 (by rw [hin (by omega) (by omega)] at g; simp [canF, b3, g])
    · refine Kn.s ?_
      refine A_iret dX5_canFail_14 rfl (by decide +kernel) ?_
      exact h0 (by rw [hin (by omega) (by omega)] at g; simp only [canF, b3, if_true]; simpa using g)
