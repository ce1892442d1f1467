/-! the class's small methods, on: adds, looks, the twist, what was heard, the blame -/
theorem c_hasS (b : Int32) {m : Nat} {μ : MI} {ν : ML} {P : Po} (hm : μ 7 0 = nI m) (hm8 : m ≤ 4) (h1 : inR b m → P (some (.int (nI 1))) μ ν) (h0 : ¬ inR b m → P (some (.int (nI 0))) μ ν) : Ct mX7_has 0 [.ref 7, .int b] μ ν P := by
  refine Ct.of (ls0 := [_, _]) (by decide) rfl (Nat.le_of_ble_eq_true rfl) rfl ?_
  refine A_iload_n dX7_has_0 rfl ?_
  refine A_if_lt (tgt := 16) dX7_has_1 (by decide) (fun b1 => ?_) (fun b1 => ?_)
  · refine A_iconst (v := nI 0) dX7_has_16 (by decide +kernel) ?_
    refine A_iret dX7_has_17 rfl (by decide +kernel) ?_
    exact h0 (inR_0 b1 (by omega))
  · refine A_iload_n dX7_has_4 rfl ?_
    refine A_aload_n dX7_has_5 rfl ?_
    refine A_getI dX7_has_6 flX7_24 rfl rfl ?_
    rw [hm]
    refine A_icmp_ge (tgt := 16) dX7_has_9 (by decide) (fun b9 => ?_) (fun b9 => ?_)
    · refine A_iconst (v := nI 0) dX7_has_16 (by decide +kernel) ?_
      refine A_iret dX7_has_17 rfl (by decide +kernel) ?_
      exact h0 (inR_1 b9 (by omega))
    · refine A_iconst (v := nI 1) dX7_has_12 (by decide +kernel) ?_
      refine A_goto (tgt := 17) dX7_has_13 (by decide) ?_
      refine A_iret dX7_has_17 rfl (by decide +kernel) ?_
      exact h1 (inR_of b1 b9 (by omega))
/-- a row of n places, all x -/
def fillX (μ : MI) (a n : Nat) (x : Int32) : MI := fun b j => if b = a ∧ j < n then x else μ b j
theorem fillX_0 (μ : MI) (a : Nat) (x : Int32) : fillX μ a 0 x = μ := by
  funext b j
  simp [fillX]
theorem fillX_up (μ : MI) (a n : Nat) (x : Int32) : up2 (fillX μ a n x) a n x = fillX μ a (n + 1) x := by
  funext b j
  unfold up2 fillX
  by_cases h1 : b = a
  · by_cases h2 : j = n
    · simp [h1, h2]
    · by_cases h3 : j < n
      · simp [h1, h2, h3, Nat.lt_succ_of_lt h3]
      · simp [h1, h2, h3, show ¬ j < n + 1 by omega]
  · simp [h1]
theorem fillX_in (μ : MI) {a n j : Nat} (x : Int32) (h : j < n) : fillX μ a n x a j = x := by simp [fillX, h]
theorem fillX_a (μ : MI) {a n b : Nat} (x : Int32) (j : Nat) (h : b ≠ a) : fillX μ a n x b j = μ b j := by simp [fillX, h]
theorem fillX_o (μ : MI) {a n b j : Nat} (x : Int32) (h : n ≤ j) : fillX μ a n x b j = μ b j := by simp [fillX, show ¬ j < n by omega]
theorem c_fill {a n : Nat} (x : Int32) {μ : MI} {ν : ML} {P : Po} (hy : lay a = (1, n, [])) (hn : n < 1000) (hP : P none (fillX μ a n x) ν) : Ct mJ7_fill_53178 0 [.ref a, .int x] μ ν P := by
  refine Ct.of (ls0 := [_, _, _, _]) (by decide) rfl (Nat.le_of_ble_eq_true rfl) rfl ?_
  have loop : ∀ (k i : Nat), n - i < k → i ≤ n → AW mJ7_fill_53178 (0, none) P 5 [some (.ref a), some (.int x), some (.int (nI i)), some (.int (nI n))] [] (fillX μ a i x) ν := by
    intro k
    induction k with
    | zero => intro i h; omega
    | succ k ih =>
      intro i hk hi
      refine A_iload_n dJ7_fill_53178_5 rfl ?_
      refine A_iload_n dJ7_fill_53178_6 rfl ?_
      refine A_icmp_geN (tgt := 20) dJ7_fill_53178_7 (by decide) (by omega) (by omega) (fun b7 => ?_) (fun b7 => ?_)
      · refine A_vret dJ7_fill_53178_20 rfl ?_
        rw [show n = i by omega] at hP; exact hP
      · refine A_aload_n dJ7_fill_53178_10 rfl ?_
        refine A_iload_n dJ7_fill_53178_11 rfl ?_
        refine A_iload_n dJ7_fill_53178_12 rfl ?_
        refine A_iastN (j := i) dJ7_fill_53178_13 hy rfl b7 (by omega) ?_
        refine A_iincN (ls1 := [_, _, _, _]) dJ7_fill_53178_14 rfl (by decide) rfl rfl ?_
        refine A_goto (tgt := 5) dJ7_fill_53178_17 (by decide) ?_
        rw [fillX_up]; exact ih (i + 1) (by omega) (by omega)
  refine A_iconst (v := nI 0) dJ7_fill_53178_0 (by decide +kernel) ?_
  refine A_istore_n (ls1 := [_, _, _, _]) dJ7_fill_53178_1 (by decide) rfl rfl ?_
  refine A_aload_n dJ7_fill_53178_2 rfl ?_
  refine A_alen dJ7_fill_53178_3 hy ?_
  refine A_istore_n (ls1 := [_, _, _, _]) dJ7_fill_53178_4 (by decide) rfl rfl ?_
  rw [show μ = fillX μ a 0 x from (fillX_0 μ a x).symm]; exact loop (n + 1) 0 (by omega) (by omega)
theorem c_sum {a n : Nat} {μ : MI} {ν : ML} {P : Po} (hy : lay a = (1, n, [])) (hn : n < 1000) (hP : P (some (.int (sumI (μ a) n))) μ ν) : Ct mX9_sum 0 [.ref a] μ ν P := by
  refine Ct.of (ls0 := [_, _, _, _, _, _]) (by decide) rfl (Nat.le_of_ble_eq_true rfl) rfl ?_
  have loop : ∀ (k i : Nat), n - i < k → i ≤ n → AW mX9_sum (0, none) P 10 [some (.ref a), some (.int (sumI (μ a) i)), some (.ref a), some (.int (nI n)), some (.int (nI i)), none] [] μ ν := by
    intro k
    induction k with
    | zero => intro i h; omega
    | succ k ih =>
      intro i hk hi
      refine A_iload dX9_sum_10 rfl ?_
      refine A_iload_n dX9_sum_12 rfl ?_
      refine A_icmp_geN (tgt := 33) dX9_sum_13 (by decide) (by omega) (by omega) (fun b13 => ?_) (fun b13 => ?_)
      · refine A_iload_n dX9_sum_33 rfl ?_
        refine A_iret dX9_sum_34 rfl rfl ?_
        rw [show n = i by omega] at hP; exact hP
      · refine A_aload_n dX9_sum_16 rfl ?_
        refine A_iload dX9_sum_17 rfl ?_
        refine A_ialdN (j := i) dX9_sum_19 hy rfl b13 (by omega) ?_
        refine A_istore (ls1 := [_, _, _, _, _, _]) dX9_sum_20 (by decide) rfl rfl ?_
        refine A_iload_n dX9_sum_22 rfl ?_
        refine A_iload dX9_sum_23 rfl ?_
        refine A_iadd dX9_sum_25 ?_
        refine A_istore_n (ls1 := [_, _, _, _, _, _]) dX9_sum_26 (by decide) rfl rfl ?_
        refine A_iincN (ls1 := [_, _, _, _, _, _]) dX9_sum_27 rfl (by decide) rfl rfl ?_
        refine A_goto (tgt := 10) dX9_sum_30 (by decide) ?_
        exact A_weak (ih (i + 1) (by omega) (by omega)) (by repeat first | exact fw_0 | refine fw_s ?_ | refine fw_n ?_)
  refine A_iconst (v := nI 0) dX9_sum_0 (by decide +kernel) ?_
  refine A_istore_n (ls1 := [_, _, _, _, _, _]) dX9_sum_1 (by decide) rfl rfl ?_
  refine A_aload_n dX9_sum_2 rfl ?_
  refine A_astore_n (ls1 := [_, _, _, _, _, _]) dX9_sum_3 (by decide) rfl rfl ?_
  refine A_aload_n dX9_sum_4 rfl ?_
  refine A_alen dX9_sum_5 hy ?_
  refine A_istore_n (ls1 := [_, _, _, _, _, _]) dX9_sum_6 (by decide) rfl rfl ?_
  refine A_iconst (v := nI 0) dX9_sum_7 (by decide +kernel) ?_
  refine A_istore (ls1 := [_, _, _, _, _, _]) dX9_sum_8 (by decide) rfl rfl ?_
  exact A_weak (loop (n + 1) 0 (by omega) (by omega)) (by repeat first | exact fw_0 | refine fw_s ?_ | refine fw_n ?_)
theorem c_bucketsAdd (x y : Int32) {m : Nat} {μ : MI} {ν : ML} {P : Po} (hm : μ 2 0 = nI m) (hm8 : m ≤ 8) (h0 : m = 8 → P (some (.int (-1004))) μ ν) (h1 : m < 8 → P (some (.int (nI m))) (up2 (up2 (up2 (up2 μ 3 m x) 4 m y) 5 m (-1)) 2 0 (nI (m + 1))) ν) : Ct mX1_add 0 [.ref 2, .int x, .int y] μ ν P := by
  refine Ct.of (ls0 := [_, _, _]) (by decide) rfl (Nat.le_of_ble_eq_true rfl) rfl ?_
  refine A_aload_n dX1_add_0 rfl ?_
  refine A_getI dX1_add_1 flX1_24 rfl rfl ?_
  rw [hm]
  refine A_bipush (v := nI 8) dX1_add_4 (by decide +kernel) ?_
  refine A_icmp_ltN (tgt := 13) dX1_add_6 (by decide) (by omega) (by omega) (fun b6 => ?_) (fun b6 => ?_)
  · refine A_aload_n dX1_add_13 rfl ?_
    refine A_getR dX1_add_14 flX1_9 rfl rfl ?_
    refine A_aload_n dX1_add_17 rfl ?_
    refine A_getI dX1_add_18 flX1_24 rfl rfl ?_
    rw [hm]
    refine A_iload_n dX1_add_21 rfl ?_
    refine A_iastN (j := m) dX1_add_22 rfl rfl b6 (by decide) ?_
    refine A_aload_n dX1_add_23 rfl ?_
    refine A_getR dX1_add_24 flX1_15 rfl rfl ?_
    refine A_aload_n dX1_add_27 rfl ?_
    refine A_getI dX1_add_28 flX1_24 rfl rfl ?_
    simp (disch := omega) only [up2_a, hm]
    refine A_iload_n dX1_add_31 rfl ?_
    refine A_iastN (j := m) dX1_add_32 rfl rfl b6 (by decide) ?_
    refine A_aload_n dX1_add_33 rfl ?_
    refine A_getR dX1_add_34 flX1_18 rfl rfl ?_
    refine A_aload_n dX1_add_37 rfl ?_
    refine A_getI dX1_add_38 flX1_24 rfl rfl ?_
    simp (disch := omega) only [up2_a, hm]
    refine A_iconst (v := (-1)) dX1_add_41 (by decide +kernel) ?_
    refine A_iastN (j := m) dX1_add_42 rfl rfl b6 (by decide) ?_
    refine A_aload_n dX1_add_43 rfl ?_
    refine A_dup dX1_add_44 rfl ?_
    refine A_getI dX1_add_45 flX1_24 rfl rfl ?_
    simp (disch := omega) only [up2_a, hm]
    refine A_dup_x1 dX1_add_48 rfl rfl ?_
    refine A_iconst (v := nI 1) dX1_add_49 (by decide +kernel) ?_
    refine A_iaddN dX1_add_50 ?_
    refine A_put dX1_add_51 fpX1_24 rfl rfl rfl rfl ?_
    refine A_iret dX1_add_54 rfl rfl ?_
    exact h1 b6
  · refine A_sipush (v := (-1004)) dX1_add_9 (by decide +kernel) ?_
    refine A_iret dX1_add_12 rfl rfl ?_
    exact h0 (by omega)
theorem c_lead {b : Nat} (hb : b < 8) (to dl : Int32) {μ : MI} {ν : ML} {P : Po} (hP : P none (up2 (up2 μ 5 b to) 6 b dl) ν) : Ct mX1_lead 0 [.ref 2, .int (nI b), .int to, .int dl] μ ν P := by
  refine Ct.of (ls0 := [_, _, _, _]) (by decide) rfl (Nat.le_of_ble_eq_true rfl) rfl ?_
  refine A_aload_n dX1_lead_0 rfl ?_
  refine A_getR dX1_lead_1 flX1_18 rfl rfl ?_
  refine A_iload_n dX1_lead_4 rfl ?_
  refine A_iload_n dX1_lead_5 rfl ?_
  refine A_iastN (j := b) dX1_lead_6 rfl rfl hb (by decide) ?_
  refine A_aload_n dX1_lead_7 rfl ?_
  refine A_getR dX1_lead_8 flX1_21 rfl rfl ?_
  refine A_iload_n dX1_lead_11 rfl ?_
  refine A_iload_n dX1_lead_12 rfl ?_
  refine A_iastN (j := b) dX1_lead_13 rfl rfl hb (by decide) ?_
  refine A_vret dX1_lead_14 rfl ?_
  exact hP
theorem c_spoutsAdd (x1 x2 x3 x4 : Int32) {m : Nat} {μ : MI} {ν : ML} {P : Po} (hm : μ 7 0 = nI m) (hm8 : m ≤ 4) (h0 : m = 4 → P (some (.int (-1004))) μ ν) (h1 : m < 4 → P (some (.int (nI m))) (up2 (up2 (up2 (up2 (up2 μ 8 m x1) 9 m x2) 10 m x3) 11 m x4) 7 0 (nI (m + 1))) ν) : Ct mX7_add 0 [.ref 7, .int x1, .int x2, .int x3, .int x4] μ ν P := by
  refine Ct.of (ls0 := [_, _, _, _, _]) (by decide) rfl (Nat.le_of_ble_eq_true rfl) rfl ?_
  refine A_aload_n dX7_add_0 rfl ?_
  refine A_getI dX7_add_1 flX7_24 rfl rfl ?_
  rw [hm]
  refine A_iconst (v := nI 4) dX7_add_4 (by decide +kernel) ?_
  refine A_icmp_ltN (tgt := 12) dX7_add_5 (by decide) (by omega) (by omega) (fun b5 => ?_) (fun b5 => ?_)
  · refine A_aload_n dX7_add_12 rfl ?_
    refine A_getR dX7_add_13 flX7_9 rfl rfl ?_
    refine A_aload_n dX7_add_16 rfl ?_
    refine A_getI dX7_add_17 flX7_24 rfl rfl ?_
    rw [hm]
    refine A_iload_n dX7_add_20 rfl ?_
    refine A_iastN (j := m) dX7_add_21 rfl rfl b5 (by decide) ?_
    refine A_aload_n dX7_add_22 rfl ?_
    refine A_getR dX7_add_23 flX7_15 rfl rfl ?_
    refine A_aload_n dX7_add_26 rfl ?_
    refine A_getI dX7_add_27 flX7_24 rfl rfl ?_
    simp (disch := omega) only [up2_a, hm]
    refine A_iload_n dX7_add_30 rfl ?_
    refine A_iastN (j := m) dX7_add_31 rfl rfl b5 (by decide) ?_
    refine A_aload_n dX7_add_32 rfl ?_
    refine A_getR dX7_add_33 flX7_18 rfl rfl ?_
    refine A_aload_n dX7_add_36 rfl ?_
    refine A_getI dX7_add_37 flX7_24 rfl rfl ?_
    simp (disch := omega) only [up2_a, hm]
    refine A_iload_n dX7_add_40 rfl ?_
    refine A_iastN (j := m) dX7_add_41 rfl rfl b5 (by decide) ?_
    refine A_aload_n dX7_add_42 rfl ?_
    refine A_getR dX7_add_43 flX7_21 rfl rfl ?_
    refine A_aload_n dX7_add_46 rfl ?_
    refine A_getI dX7_add_47 flX7_24 rfl rfl ?_
    simp (disch := omega) only [up2_a, hm]
    refine A_iload dX7_add_50 rfl ?_
    refine A_iastN (j := m) dX7_add_52 rfl rfl b5 (by decide) ?_
    refine A_aload_n dX7_add_53 rfl ?_
    refine A_dup dX7_add_54 rfl ?_
    refine A_getI dX7_add_55 flX7_24 rfl rfl ?_
    simp (disch := omega) only [up2_a, hm]
    refine A_dup_x1 dX7_add_58 rfl rfl ?_
    refine A_iconst (v := nI 1) dX7_add_59 (by decide +kernel) ?_
    refine A_iaddN dX7_add_60 ?_
    refine A_put dX7_add_61 fpX7_24 rfl rfl rfl rfl ?_
    refine A_iret dX7_add_64 rfl rfl ?_
    exact h1 b5
  · refine A_sipush (v := (-1004)) dX7_add_8 (by decide +kernel) ?_
    refine A_iret dX7_add_11 rfl rfl ?_
    exact h0 (by omega)
theorem c_frogsAdd (x1 x2 x3 : Int32) {m : Nat} {μ : MI} {ν : ML} {P : Po} (hm : μ 12 0 = nI m) (hm8 : m ≤ 10) (h0 : m = 10 → P (some (.int (-1004))) μ ν) (h1 : m < 10 → P (some (.int (nI (m + 1)))) (up2 (up2 (up2 (up2 μ 13 m x1) 14 m x2) 15 m x3) 12 0 (nI (m + 1))) ν) : Ct mX3_add 0 [.ref 12, .int x1, .int x2, .int x3] μ ν P := by
  refine Ct.of (ls0 := [_, _, _, _]) (by decide) rfl (Nat.le_of_ble_eq_true rfl) rfl ?_
  refine A_aload_n dX3_add_0 rfl ?_
  refine A_getI dX3_add_1 flX3_21 rfl rfl ?_
  rw [hm]
  refine A_bipush (v := nI 10) dX3_add_4 (by decide +kernel) ?_
  refine A_icmp_ltN (tgt := 13) dX3_add_6 (by decide) (by omega) (by omega) (fun b6 => ?_) (fun b6 => ?_)
  · refine A_aload_n dX3_add_13 rfl ?_
    refine A_getR dX3_add_14 flX3_9 rfl rfl ?_
    refine A_aload_n dX3_add_17 rfl ?_
    refine A_getI dX3_add_18 flX3_21 rfl rfl ?_
    rw [hm]
    refine A_iload_n dX3_add_21 rfl ?_
    refine A_iastN (j := m) dX3_add_22 rfl rfl b6 (by decide) ?_
    refine A_aload_n dX3_add_23 rfl ?_
    refine A_getR dX3_add_24 flX3_15 rfl rfl ?_
    refine A_aload_n dX3_add_27 rfl ?_
    refine A_getI dX3_add_28 flX3_21 rfl rfl ?_
    simp (disch := omega) only [up2_a, hm]
    refine A_iload_n dX3_add_31 rfl ?_
    refine A_iastN (j := m) dX3_add_32 rfl rfl b6 (by decide) ?_
    refine A_aload_n dX3_add_33 rfl ?_
    refine A_getR dX3_add_34 flX3_18 rfl rfl ?_
    refine A_aload_n dX3_add_37 rfl ?_
    refine A_getI dX3_add_38 flX3_21 rfl rfl ?_
    simp (disch := omega) only [up2_a, hm]
    refine A_iload_n dX3_add_41 rfl ?_
    refine A_iastN (j := m) dX3_add_42 rfl rfl b6 (by decide) ?_
    refine A_aload_n dX3_add_43 rfl ?_
    refine A_dup dX3_add_44 rfl ?_
    refine A_getI dX3_add_45 flX3_21 rfl rfl ?_
    simp (disch := omega) only [up2_a, hm]
    refine A_iconst (v := nI 1) dX3_add_48 (by decide +kernel) ?_
    refine A_iaddN dX3_add_49 ?_
    refine A_put dX3_add_50 fpX3_21 rfl rfl rfl rfl ?_
    refine A_aload_n dX3_add_53 rfl ?_
    refine A_getI dX3_add_54 flX3_21 rfl rfl ?_
    simp only [up2_s]
    refine A_iret dX3_add_57 rfl rfl ?_
    exact h1 b6
  · refine A_sipush (v := (-1004)) dX3_add_9 (by decide +kernel) ?_
    refine A_iret dX3_add_12 rfl rfl ?_
    exact h0 (by omega)
theorem c_spellsAdd (x1 x2 : Int32) {m : Nat} {μ : MI} {ν : ML} {P : Po} (hm : μ 16 0 = nI m) (hm8 : m ≤ 10) (h0 : m = 10 → P (some (.int (-1004))) μ ν) (h1 : m < 10 → P (some (.int (nI (m + 1)))) (up2 (up2 (up2 μ 17 m x1) 18 m x2) 16 0 (nI (m + 1))) ν) : Ct mX6_add 0 [.ref 16, .int x1, .int x2] μ ν P := by
  refine Ct.of (ls0 := [_, _, _]) (by decide) rfl (Nat.le_of_ble_eq_true rfl) rfl ?_
  refine A_aload_n dX6_add_0 rfl ?_
  refine A_getI dX6_add_1 flX6_18 rfl rfl ?_
  rw [hm]
  refine A_bipush (v := nI 10) dX6_add_4 (by decide +kernel) ?_
  refine A_icmp_ltN (tgt := 13) dX6_add_6 (by decide) (by omega) (by omega) (fun b6 => ?_) (fun b6 => ?_)
  · refine A_aload_n dX6_add_13 rfl ?_
    refine A_getR dX6_add_14 flX6_9 rfl rfl ?_
    refine A_aload_n dX6_add_17 rfl ?_
    refine A_getI dX6_add_18 flX6_18 rfl rfl ?_
    rw [hm]
    refine A_iload_n dX6_add_21 rfl ?_
    refine A_iastN (j := m) dX6_add_22 rfl rfl b6 (by decide) ?_
    refine A_aload_n dX6_add_23 rfl ?_
    refine A_getR dX6_add_24 flX6_15 rfl rfl ?_
    refine A_aload_n dX6_add_27 rfl ?_
    refine A_getI dX6_add_28 flX6_18 rfl rfl ?_
    simp (disch := omega) only [up2_a, hm]
    refine A_iload_n dX6_add_31 rfl ?_
    refine A_iastN (j := m) dX6_add_32 rfl rfl b6 (by decide) ?_
    refine A_aload_n dX6_add_33 rfl ?_
    refine A_dup dX6_add_34 rfl ?_
    refine A_getI dX6_add_35 flX6_18 rfl rfl ?_
    simp (disch := omega) only [up2_a, hm]
    refine A_iconst (v := nI 1) dX6_add_38 (by decide +kernel) ?_
    refine A_iaddN dX6_add_39 ?_
    refine A_put dX6_add_40 fpX6_18 rfl rfl rfl rfl ?_
    refine A_aload_n dX6_add_43 rfl ?_
    refine A_getI dX6_add_44 flX6_18 rfl rfl ?_
    simp only [up2_s]
    refine A_iret dX6_add_47 rfl rfl ?_
    exact h1 b6
  · refine A_sipush (v := (-1004)) dX6_add_9 (by decide +kernel) ?_
    refine A_iret dX6_add_12 rfl rfl ?_
    exact h0 (by omega)
