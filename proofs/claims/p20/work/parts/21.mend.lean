/-! the ways that spouts are turned (the class) -/
def chN (x s : Nat) : Nat := match s with
  | 0 => x / 5 / 5 / 5 % 5
  | 1 => x / 5 / 5 % 5
  | 2 => x / 5 % 5
  | _ => x % 5
def chF (x s : Nat) : Int32 := nI (chN x s) - nI 2
theorem chN_lt (x s : Nat) : chN x s < 5 := by
  unfold chN
  split <;> exact Nat.mod_lt _ (by omega)
def ab2 (k : Nat) : Nat := if k < 2 then 2 - k else k - 2
theorem ab2_ok : ∀ k, k < 5 → (if 0 ≤ nI k - nI 2 then nI k - nI 2 else 0 - (nI k - nI 2)) = nI (ab2 k) := by decide +kernel
theorem chF_abs (x s : Nat) : (if 0 ≤ chF x s then chF x s else 0 - chF x s) = nI (ab2 (chN x s)) := ab2_ok _ (chN_lt x s)
theorem c_changeIn {x s : Nat} (hx : x < 625) (hs : s < 4) {μ : MI} {ν : ML} {P : Po} (hP : P (some (.int (chF x s))) μ ν) : Ct mX9_changeIn 0 [.int (nI x), .int (nI s)] μ ν P := by
  refine Ct.of (ls0 := [_, _, _, _]) (by decide) rfl (Nat.le_of_ble_eq_true rfl) rfl ?_
  rcases (show s = 0 ∨ s = 1 ∨ s = 2 ∨ s = 3 by omega) with rfl | rfl | rfl | rfl
  · skip
    refine A_iload_n dX9_changeIn_0 rfl ?_
    refine A_istore_n (ls1 := [_, _, _, _]) dX9_changeIn_1 (by decide) rfl rfl ?_
    refine A_iconst (v := nI 3) dX9_changeIn_2 (by decide +kernel) ?_
    refine A_istore_n (ls1 := [_, _, _, _]) dX9_changeIn_3 (by decide) rfl rfl ?_
    refine A_iload_n dX9_changeIn_4 rfl ?_
    refine A_iload_n dX9_changeIn_5 rfl ?_
    refine A_icmp_le (tgt := 19) dX9_changeIn_6 (by decide) (fun h => absurd h (by decide +kernel)) (fun _ => ?_)
    refine A_iload_n dX9_changeIn_9 rfl ?_
    refine A_iconst (v := nI 5) dX9_changeIn_10 (by decide +kernel) ?_
    refine A_idiv dX9_changeIn_11 (by decide +kernel) ?_
    rw [pk_div (by omega) (by decide) (by decide)]
    refine A_istore_n (ls1 := [_, _, _, _]) dX9_changeIn_12 (by decide) rfl rfl ?_
    refine A_iinc (y := nI 2) (ls1 := [_, _, _, _]) dX9_changeIn_13 rfl (by decide +kernel) (by decide) rfl rfl ?_
    refine A_goto (tgt := 4) dX9_changeIn_16 (by decide) ?_
    refine A_iload_n dX9_changeIn_4 rfl ?_
    refine A_iload_n dX9_changeIn_5 rfl ?_
    refine A_icmp_le (tgt := 19) dX9_changeIn_6 (by decide) (fun h => absurd h (by decide +kernel)) (fun _ => ?_)
    refine A_iload_n dX9_changeIn_9 rfl ?_
    refine A_iconst (v := nI 5) dX9_changeIn_10 (by decide +kernel) ?_
    refine A_idiv dX9_changeIn_11 (by decide +kernel) ?_
    rw [pk_div (by omega) (by decide) (by decide)]
    refine A_istore_n (ls1 := [_, _, _, _]) dX9_changeIn_12 (by decide) rfl rfl ?_
    refine A_iinc (y := nI 1) (ls1 := [_, _, _, _]) dX9_changeIn_13 rfl (by decide +kernel) (by decide) rfl rfl ?_
    refine A_goto (tgt := 4) dX9_changeIn_16 (by decide) ?_
    refine A_iload_n dX9_changeIn_4 rfl ?_
    refine A_iload_n dX9_changeIn_5 rfl ?_
    refine A_icmp_le (tgt := 19) dX9_changeIn_6 (by decide) (fun h => absurd h (by decide +kernel)) (fun _ => ?_)
    refine A_iload_n dX9_changeIn_9 rfl ?_
    refine A_iconst (v := nI 5) dX9_changeIn_10 (by decide +kernel) ?_
    refine A_idiv dX9_changeIn_11 (by decide +kernel) ?_
    rw [pk_div (by omega) (by decide) (by decide)]
    refine A_istore_n (ls1 := [_, _, _, _]) dX9_changeIn_12 (by decide) rfl rfl ?_
    refine A_iinc (y := nI 0) (ls1 := [_, _, _, _]) dX9_changeIn_13 rfl (by decide +kernel) (by decide) rfl rfl ?_
    refine A_goto (tgt := 4) dX9_changeIn_16 (by decide) ?_
    refine A_iload_n dX9_changeIn_4 rfl ?_
    refine A_iload_n dX9_changeIn_5 rfl ?_
    refine A_icmp_le (tgt := 19) dX9_changeIn_6 (by decide) (fun _ => ?_) (fun h => absurd h (by decide +kernel))
    refine A_iload_n dX9_changeIn_19 rfl ?_
    refine A_iconst (v := nI 5) dX9_changeIn_20 (by decide +kernel) ?_
    refine A_iremN dX9_changeIn_21 (by omega) (by omega) (by omega) ?_
    refine A_iconst (v := nI 2) dX9_changeIn_22 (by decide +kernel) ?_
    refine A_isub dX9_changeIn_23 ?_
    refine A_iret dX9_changeIn_24 rfl rfl ?_
    exact hP
  · skip
    refine A_iload_n dX9_changeIn_0 rfl ?_
    refine A_istore_n (ls1 := [_, _, _, _]) dX9_changeIn_1 (by decide) rfl rfl ?_
    refine A_iconst (v := nI 3) dX9_changeIn_2 (by decide +kernel) ?_
    refine A_istore_n (ls1 := [_, _, _, _]) dX9_changeIn_3 (by decide) rfl rfl ?_
    refine A_iload_n dX9_changeIn_4 rfl ?_
    refine A_iload_n dX9_changeIn_5 rfl ?_
    refine A_icmp_le (tgt := 19) dX9_changeIn_6 (by decide) (fun h => absurd h (by decide +kernel)) (fun _ => ?_)
    refine A_iload_n dX9_changeIn_9 rfl ?_
    refine A_iconst (v := nI 5) dX9_changeIn_10 (by decide +kernel) ?_
    refine A_idiv dX9_changeIn_11 (by decide +kernel) ?_
    rw [pk_div (by omega) (by decide) (by decide)]
    refine A_istore_n (ls1 := [_, _, _, _]) dX9_changeIn_12 (by decide) rfl rfl ?_
    refine A_iinc (y := nI 2) (ls1 := [_, _, _, _]) dX9_changeIn_13 rfl (by decide +kernel) (by decide) rfl rfl ?_
    refine A_goto (tgt := 4) dX9_changeIn_16 (by decide) ?_
    refine A_iload_n dX9_changeIn_4 rfl ?_
    refine A_iload_n dX9_changeIn_5 rfl ?_
    refine A_icmp_le (tgt := 19) dX9_changeIn_6 (by decide) (fun h => absurd h (by decide +kernel)) (fun _ => ?_)
    refine A_iload_n dX9_changeIn_9 rfl ?_
    refine A_iconst (v := nI 5) dX9_changeIn_10 (by decide +kernel) ?_
    refine A_idiv dX9_changeIn_11 (by decide +kernel) ?_
    rw [pk_div (by omega) (by decide) (by decide)]
    refine A_istore_n (ls1 := [_, _, _, _]) dX9_changeIn_12 (by decide) rfl rfl ?_
    refine A_iinc (y := nI 1) (ls1 := [_, _, _, _]) dX9_changeIn_13 rfl (by decide +kernel) (by decide) rfl rfl ?_
    refine A_goto (tgt := 4) dX9_changeIn_16 (by decide) ?_
    refine A_iload_n dX9_changeIn_4 rfl ?_
    refine A_iload_n dX9_changeIn_5 rfl ?_
    refine A_icmp_le (tgt := 19) dX9_changeIn_6 (by decide) (fun _ => ?_) (fun h => absurd h (by decide +kernel))
    refine A_iload_n dX9_changeIn_19 rfl ?_
    refine A_iconst (v := nI 5) dX9_changeIn_20 (by decide +kernel) ?_
    refine A_iremN dX9_changeIn_21 (by omega) (by omega) (by omega) ?_
    refine A_iconst (v := nI 2) dX9_changeIn_22 (by decide +kernel) ?_
    refine A_isub dX9_changeIn_23 ?_
    refine A_iret dX9_changeIn_24 rfl rfl ?_
    exact hP
  · skip
    refine A_iload_n dX9_changeIn_0 rfl ?_
    refine A_istore_n (ls1 := [_, _, _, _]) dX9_changeIn_1 (by decide) rfl rfl ?_
    refine A_iconst (v := nI 3) dX9_changeIn_2 (by decide +kernel) ?_
    refine A_istore_n (ls1 := [_, _, _, _]) dX9_changeIn_3 (by decide) rfl rfl ?_
    refine A_iload_n dX9_changeIn_4 rfl ?_
    refine A_iload_n dX9_changeIn_5 rfl ?_
    refine A_icmp_le (tgt := 19) dX9_changeIn_6 (by decide) (fun h => absurd h (by decide +kernel)) (fun _ => ?_)
    refine A_iload_n dX9_changeIn_9 rfl ?_
    refine A_iconst (v := nI 5) dX9_changeIn_10 (by decide +kernel) ?_
    refine A_idiv dX9_changeIn_11 (by decide +kernel) ?_
    rw [pk_div (by omega) (by decide) (by decide)]
    refine A_istore_n (ls1 := [_, _, _, _]) dX9_changeIn_12 (by decide) rfl rfl ?_
    refine A_iinc (y := nI 2) (ls1 := [_, _, _, _]) dX9_changeIn_13 rfl (by decide +kernel) (by decide) rfl rfl ?_
    refine A_goto (tgt := 4) dX9_changeIn_16 (by decide) ?_
    refine A_iload_n dX9_changeIn_4 rfl ?_
    refine A_iload_n dX9_changeIn_5 rfl ?_
    refine A_icmp_le (tgt := 19) dX9_changeIn_6 (by decide) (fun _ => ?_) (fun h => absurd h (by decide +kernel))
    refine A_iload_n dX9_changeIn_19 rfl ?_
    refine A_iconst (v := nI 5) dX9_changeIn_20 (by decide +kernel) ?_
    refine A_iremN dX9_changeIn_21 (by omega) (by omega) (by omega) ?_
    refine A_iconst (v := nI 2) dX9_changeIn_22 (by decide +kernel) ?_
    refine A_isub dX9_changeIn_23 ?_
    refine A_iret dX9_changeIn_24 rfl rfl ?_
    exact hP
  · skip
    refine A_iload_n dX9_changeIn_0 rfl ?_
    refine A_istore_n (ls1 := [_, _, _, _]) dX9_changeIn_1 (by decide) rfl rfl ?_
    refine A_iconst (v := nI 3) dX9_changeIn_2 (by decide +kernel) ?_
    refine A_istore_n (ls1 := [_, _, _, _]) dX9_changeIn_3 (by decide) rfl rfl ?_
    refine A_iload_n dX9_changeIn_4 rfl ?_
    refine A_iload_n dX9_changeIn_5 rfl ?_
    refine A_icmp_le (tgt := 19) dX9_changeIn_6 (by decide) (fun _ => ?_) (fun h => absurd h (by decide +kernel))
    refine A_iload_n dX9_changeIn_19 rfl ?_
    refine A_iconst (v := nI 5) dX9_changeIn_20 (by decide +kernel) ?_
    refine A_iremN dX9_changeIn_21 (by omega) (by omega) (by omega) ?_
    refine A_iconst (v := nI 2) dX9_changeIn_22 (by decide +kernel) ?_
    refine A_isub dX9_changeIn_23 ?_
    refine A_iret dX9_changeIn_24 rfl rfl ?_
    exact hP
/-- a way's size -/
def szW (x : Nat) : Nat := ab2 (chN x 0) + ab2 (chN x 1) + ab2 (chN x 2) + ab2 (chN x 3)
theorem szW_le (x : Nat) : szW x ≤ 8 := by
  have h : ∀ s, ab2 (chN x s) ≤ 2 := fun s => by
    have := chN_lt x s
    unfold ab2
    split <;> omega
  have := h 0
  have := h 1
  have := h 2
  have := h 3
  unfold szW
  omega
theorem c_sizeOf {x : Nat} (hx : x < 625) {μ : MI} {ν : ML} {P : Po} (hP : P (some (.int (nI (szW x)))) μ ν) : Ct mX9_sizeOf 1 [.int (nI x)] μ ν P := by
  refine Ct.of (ls0 := [_, _, _]) (by decide) rfl (Nat.le_of_ble_eq_true rfl) rfl ?_
  refine A_iconst (v := nI 0) dX9_sizeOf_0 (by decide +kernel) ?_
  refine A_istore_n (ls1 := [_, _, _]) dX9_sizeOf_1 (by decide) rfl rfl ?_
  refine A_iconst (v := nI 0) dX9_sizeOf_2 (by decide +kernel) ?_
  refine A_istore_n (ls1 := [_, _, _]) dX9_sizeOf_3 (by decide) rfl rfl ?_
  refine A_iload_n dX9_sizeOf_4 rfl ?_
  refine A_iconst (v := nI 4) dX9_sizeOf_5 (by decide +kernel) ?_
  refine A_icmp_ge (tgt := 26) dX9_sizeOf_6 (by decide) (fun h => absurd h (by decide +kernel)) (fun _ => ?_)
  refine A_iload_n dX9_sizeOf_9 rfl ?_
  refine A_iload_n dX9_sizeOf_10 rfl ?_
  refine A_iload_n dX9_sizeOf_11 rfl ?_
  refine A_callS2 dX9_sizeOf_12 mlX9_233 (by decide) (Nat.le_of_ble_eq_true rfl) (c_changeIn hx (by omega) ?_)
  refine Kn.s ?_
  refine A_abs dX9_sizeOf_15 mlX9_260 (by decide) (Nat.le_of_ble_eq_true rfl) ?_
  rw [chF_abs]
  refine A_iaddN dX9_sizeOf_18 ?_
  refine A_istore_n (ls1 := [_, _, _]) dX9_sizeOf_19 (by decide) rfl rfl ?_
  refine A_iinc (y := nI 1) (ls1 := [_, _, _]) dX9_sizeOf_20 rfl (by decide +kernel) (by decide) rfl rfl ?_
  refine A_goto (tgt := 4) dX9_sizeOf_23 (by decide) ?_
  refine A_iload_n dX9_sizeOf_4 rfl ?_
  refine A_iconst (v := nI 4) dX9_sizeOf_5 (by decide +kernel) ?_
  refine A_icmp_ge (tgt := 26) dX9_sizeOf_6 (by decide) (fun h => absurd h (by decide +kernel)) (fun _ => ?_)
  refine A_iload_n dX9_sizeOf_9 rfl ?_
  refine A_iload_n dX9_sizeOf_10 rfl ?_
  refine A_iload_n dX9_sizeOf_11 rfl ?_
  refine A_callS2 dX9_sizeOf_12 mlX9_233 (by decide) (Nat.le_of_ble_eq_true rfl) (c_changeIn hx (by omega) ?_)
  refine Kn.s ?_
  refine A_abs dX9_sizeOf_15 mlX9_260 (by decide) (Nat.le_of_ble_eq_true rfl) ?_
  rw [chF_abs]
  refine A_iaddN dX9_sizeOf_18 ?_
  refine A_istore_n (ls1 := [_, _, _]) dX9_sizeOf_19 (by decide) rfl rfl ?_
  refine A_iinc (y := nI 2) (ls1 := [_, _, _]) dX9_sizeOf_20 rfl (by decide +kernel) (by decide) rfl rfl ?_
  refine A_goto (tgt := 4) dX9_sizeOf_23 (by decide) ?_
  refine A_iload_n dX9_sizeOf_4 rfl ?_
  refine A_iconst (v := nI 4) dX9_sizeOf_5 (by decide +kernel) ?_
  refine A_icmp_ge (tgt := 26) dX9_sizeOf_6 (by decide) (fun h => absurd h (by decide +kernel)) (fun _ => ?_)
  refine A_iload_n dX9_sizeOf_9 rfl ?_
  refine A_iload_n dX9_sizeOf_10 rfl ?_
  refine A_iload_n dX9_sizeOf_11 rfl ?_
  refine A_callS2 dX9_sizeOf_12 mlX9_233 (by decide) (Nat.le_of_ble_eq_true rfl) (c_changeIn hx (by omega) ?_)
  refine Kn.s ?_
  refine A_abs dX9_sizeOf_15 mlX9_260 (by decide) (Nat.le_of_ble_eq_true rfl) ?_
  rw [chF_abs]
  refine A_iaddN dX9_sizeOf_18 ?_
  refine A_istore_n (ls1 := [_, _, _]) dX9_sizeOf_19 (by decide) rfl rfl ?_
  refine A_iinc (y := nI 3) (ls1 := [_, _, _]) dX9_sizeOf_20 rfl (by decide +kernel) (by decide) rfl rfl ?_
  refine A_goto (tgt := 4) dX9_sizeOf_23 (by decide) ?_
  refine A_iload_n dX9_sizeOf_4 rfl ?_
  refine A_iconst (v := nI 4) dX9_sizeOf_5 (by decide +kernel) ?_
  refine A_icmp_ge (tgt := 26) dX9_sizeOf_6 (by decide) (fun h => absurd h (by decide +kernel)) (fun _ => ?_)
  refine A_iload_n dX9_sizeOf_9 rfl ?_
  refine A_iload_n dX9_sizeOf_10 rfl ?_
  refine A_iload_n dX9_sizeOf_11 rfl ?_
  refine A_callS2 dX9_sizeOf_12 mlX9_233 (by decide) (Nat.le_of_ble_eq_true rfl) (c_changeIn hx (by omega) ?_)
  refine Kn.s ?_
  refine A_abs dX9_sizeOf_15 mlX9_260 (by decide) (Nat.le_of_ble_eq_true rfl) ?_
  rw [chF_abs]
  refine A_iaddN dX9_sizeOf_18 ?_
  refine A_istore_n (ls1 := [_, _, _]) dX9_sizeOf_19 (by decide) rfl rfl ?_
  refine A_iinc (y := nI 4) (ls1 := [_, _, _]) dX9_sizeOf_20 rfl (by decide +kernel) (by decide) rfl rfl ?_
  refine A_goto (tgt := 4) dX9_sizeOf_23 (by decide) ?_
  refine A_iload_n dX9_sizeOf_4 rfl ?_
  refine A_iconst (v := nI 4) dX9_sizeOf_5 (by decide +kernel) ?_
  refine A_icmp_ge (tgt := 26) dX9_sizeOf_6 (by decide) (fun _ => ?_) (fun h => absurd h (by decide +kernel))
  refine A_iload_n dX9_sizeOf_26 rfl ?_
  refine A_iret dX9_sizeOf_27 rfl rfl ?_
  have e : 0 + ab2 (chN x 0) + ab2 (chN x 1) + ab2 (chN x 2) + ab2 (chN x 3) = szW x := by unfold szW; omega
  rw [e]
  exact hP
/-- whether a way's turn is open to a spout -/
def opS (c : MI) (x s : Nat) : Bool := if s < N (c 7 0) then decide (nI 0 ≤ c 9 s + chF x s ∧ c 9 s + chF x s ≤ nI 20) else decide (chF x s = 0)
def opW (c : MI) (x : Nat) : Bool := allB (opS c x) 4
theorem c_isOpen {x n : Nat} (hx : x < 625) {c μ : MI} {ν : ML} {P : Po} (hc : CX c μ) (hn : c 7 0 = nI n) (hn4 : n ≤ 4) (h1 : opW c x = true → P (some (.int (nI 1))) μ ν) (h0 : opW c x = false → P (some (.int (nI 0))) μ ν) : Ct mX9_isOpen 1 [.ref 0, .int (nI x)] μ ν P := by
  refine Ct.of (ls0 := [_, _, _, _]) (by decide) rfl (Nat.le_of_ble_eq_true rfl) rfl ?_
  have hN : N (c 7 0) = n := by rw [hn]; exact N_nI (by omega)
  have hn2 : μ 7 0 = nI n := (hc 7 (by omega) (by omega) 0).trans hn
  have h9 : ∀ s, μ 9 s = c 9 s := fun s => hc 9 (by omega) (by omega) s
  have loop : ∀ (q i : Nat), 4 - i < q → i ≤ 4 → allB (opS c x) i = true → AW mX9_isOpen (1, none) P 2 [some (.ref 0), some (.int (nI x)), some (.int (nI i)), none] [] μ ν := by
    intro q
    induction q with
    | zero => intro i h; omega
    | succ q ih =>
      intro i hq hi ha
      have next : i < 4 → opS c x i = true → _ := fun h h2 => ih (i + 1) (by omega) (by omega) (by rw [allB, ha, h2]; rfl)
      refine A_iload_n dX9_isOpen_2 rfl ?_
      refine A_iconst (v := nI 4) dX9_isOpen_3 (by decide +kernel) ?_
      refine A_icmp_geN (tgt := 65) dX9_isOpen_4 (by decide) (by omega) (by omega) (fun b4 => ?_) (fun b4 => ?_)
      · refine A_iconst (v := nI 1) dX9_isOpen_65 (by decide +kernel) ?_
        refine A_iret dX9_isOpen_66 rfl (by decide +kernel) ?_
        exact h1 (by rw [show i = 4 by omega] at ha; exact ha)
      · refine A_iload_n dX9_isOpen_7 rfl ?_
        refine A_iload_n dX9_isOpen_8 rfl ?_
        refine A_callS2 dX9_isOpen_9 mlX9_233 (by decide) (Nat.le_of_ble_eq_true rfl) (c_changeIn hx b4 ?_)
        refine Kn.s ?_
        refine A_istore_n (ls1 := [_, _, _, _]) dX9_isOpen_12 (by decide) rfl rfl ?_
        refine A_aload_n dX9_isOpen_13 rfl ?_
        refine A_getR dX9_isOpen_14 flX9_12 rfl rfl ?_
        refine A_getR dX9_isOpen_17 flX9_74 rfl rfl ?_
        refine A_iload_n dX9_isOpen_20 rfl ?_
        refine A_callV1 dX9_isOpen_21 mlX9_83 (by decide) rfl rfl (Nat.le_of_ble_eq_true rfl) (c_hasS _ hn2 hn4 (fun g1 => ?_) (fun g1 => ?_))
        · refine Kn.s ?_
          refine A_if_eq (tgt := 53) dX9_isOpen_24 (by decide) (fun h => absurd h (by decide +kernel)) (fun _ => ?_)
          refine A_aload_n dX9_isOpen_27 rfl ?_
          refine A_getR dX9_isOpen_28 flX9_12 rfl rfl ?_
          refine A_getR dX9_isOpen_31 flX9_74 rfl rfl ?_
          refine A_getR dX9_isOpen_34 flX9_84 rfl rfl ?_
          refine A_iload_n dX9_isOpen_37 rfl ?_
          refine A_ialdN (j := i) dX9_isOpen_38 rfl rfl b4 (by decide) ?_
          rw [h9]
          refine A_iload_n dX9_isOpen_39 rfl ?_
          refine A_iadd dX9_isOpen_40 ?_
          refine A_iconst (v := nI 0) dX9_isOpen_41 (by decide +kernel) ?_
          refine A_bipush (v := nI 20) dX9_isOpen_42 (by decide +kernel) ?_
          refine A_callS3 dX9_isOpen_44 mlX9_52 (by decide) (Nat.le_of_ble_eq_true rfl) (c_within _ _ _ (fun g2 g3 => ?_) (fun g4 => ?_))
          · refine Kn.s ?_
            refine A_if_ne (tgt := 59) dX9_isOpen_47 (by decide) (fun _ => ?_) (fun h => absurd h (by decide +kernel))
            refine A_iincN (ls1 := [_, _, _, _]) dX9_isOpen_59 rfl (by decide) rfl rfl ?_
            refine A_goto (tgt := 2) dX9_isOpen_62 (by decide) ?_
            refine A_weak (next b4 ?_) (by repeat first | exact fw_0 | refine fw_s ?_ | refine fw_n ?_)
            obtain ⟨k, ek, hk⟩ := g1
            have ek2 := (nI_inj (by omega) (by omega)).mp ek
            unfold opS
            rw [if_pos (by omega)]
            exact decide_eq_true ⟨g2, g3⟩
          · refine Kn.s ?_
            refine A_if_ne (tgt := 59) dX9_isOpen_47 (by decide) (fun h => absurd h (by decide +kernel)) (fun _ => ?_)
            refine A_goto (tgt := 57) dX9_isOpen_50 (by decide) ?_
            refine A_iconst (v := nI 0) dX9_isOpen_57 (by decide +kernel) ?_
            refine A_iret dX9_isOpen_58 rfl (by decide +kernel) ?_
            refine h0 (allB_f b4 ?_)
            obtain ⟨k, ek, hk⟩ := g1
            have ek2 := (nI_inj (by omega) (by omega)).mp ek
            unfold opS
            rw [if_pos (by omega)]
            exact decide_eq_false g4
        · refine Kn.s ?_
          refine A_if_eq (tgt := 53) dX9_isOpen_24 (by decide) (fun _ => ?_) (fun h => absurd h (by decide +kernel))
          refine A_iload_n dX9_isOpen_53 rfl ?_
          refine A_if_eq (tgt := 59) dX9_isOpen_54 (by decide) (fun b54 => ?_) (fun b54 => ?_)
          · refine A_iincN (ls1 := [_, _, _, _]) dX9_isOpen_59 rfl (by decide) rfl rfl ?_
            refine A_goto (tgt := 2) dX9_isOpen_62 (by decide) ?_
            refine A_weak (next b4 ?_) (by repeat first | exact fw_0 | refine fw_s ?_ | refine fw_n ?_)
            unfold opS
            rw [if_neg (fun q => g1 ⟨i, rfl, by omega⟩)]
            exact decide_eq_true b54
          · refine A_iconst (v := nI 0) dX9_isOpen_57 (by decide +kernel) ?_
            refine A_iret dX9_isOpen_58 rfl (by decide +kernel) ?_
            refine h0 (allB_f b4 ?_)
            unfold opS
            rw [if_neg (fun q => g1 ⟨i, rfl, by omega⟩)]
            exact decide_eq_false b54
  refine A_iconst (v := nI 0) dX9_isOpen_0 (by decide +kernel) ?_
  refine A_istore_n (ls1 := [_, _, _, _]) dX9_isOpen_1 (by decide) rfl rfl ?_
  exact loop 5 0 (by omega) (by omega) rfl
/-- the twist of a way -/
def twC (x : Nat) : MI := fun k s => if k = 1 ∧ s < 4 then chF x s else 0
theorem cntB_mono (K : Nat → Bool) (n : Nat) : ∀ m, cntB K n ≤ cntB K (n + m) ∧ cntB K (n + m) ≤ cntB K n + m
  | 0 => ⟨Nat.le_refl _, Nat.le_refl _⟩
  | m + 1 => by
    have ih := cntB_mono K n m
    rw [← Nat.add_assoc, cntB]
    split <;> omega
def cnW (c : MI) (x b T : Nat) : Nat := cntB (fun t => kb c (twC x) b t) T
theorem c_knocksJust {x b n T : Nat} (hx : x < 625) (hn : n ≤ 200) (hT : T ≤ 200) {c μ : MI} {ν : ML} {P : Po} (hC : WC c) (hc : CX c μ) (hb : b < N (c 2 0)) (h1 : ∀ μ', cnW c x b T = n → Sc μ μ' → P (some (.int (nI 1))) μ' ν) (h0 : ∀ μ', ¬ cnW c x b T = n → Sc μ μ' → P (some (.int (nI 0))) μ' ν) : Ct mX9_knocksJust 5 [.ref 0, .int (nI x), .int (nI b), .int (nI n), .int (nI T)] μ ν P := by
  refine Ct.of (ls0 := [_, _, _, _, _, _, _]) (by decide) rfl (Nat.le_of_ble_eq_true rfl) rfl ?_
  have hnb := hC.1.1
  have fin : ∀ (i k : Nat) (μ1 : MI), (k = n ↔ cnW c x b T = n) → k ≤ 200 → Sc μ μ1 → AW mX9_knocksJust (5, none) P 99 [some (.ref 0), some (.int (nI x)), some (.int (nI b)), some (.int (nI n)), some (.int (nI T)), some (.int (nI k)), none] [] μ1 ν := by
    intro i k μ1 hk hk2 hS
    refine A_iload dX9_knocksJust_99 rfl ?_
    refine A_iload_n dX9_knocksJust_101 rfl ?_
    refine A_icmp_neN (tgt := 109) dX9_knocksJust_102 (by decide) (by omega) (by omega) (fun b102 => ?_) (fun b102 => ?_)
    · refine A_iconst (v := nI 0) dX9_knocksJust_109 (by decide +kernel) ?_
      refine A_iret dX9_knocksJust_110 rfl (by decide +kernel) ?_
      exact h0 μ1 (fun q => b102 (hk.mpr q)) hS
    · refine A_iconst (v := nI 1) dX9_knocksJust_105 (by decide +kernel) ?_
      refine A_goto (tgt := 110) dX9_knocksJust_106 (by decide) ?_
      refine A_iret dX9_knocksJust_110 rfl (by decide +kernel) ?_
      exact h1 μ1 (hk.mp b102) hS
  have loop : ∀ (q i : Nat) (μ1 : MI), T - i < q → i ≤ T → Sc μ μ1 → TW 24 (twC x) μ1 → RX 47 i (runP c (twC x) i) μ1 → AW mX9_knocksJust (5, none) P 52 [some (.ref 0), some (.int (nI x)), some (.int (nI b)), some (.int (nI n)), some (.int (nI T)), some (.int (nI (cnW c x b i))), some (.int (nI i))] [] μ1 ν := by
    intro q
    induction q with
    | zero => intro i μ1 h; omega
    | succ q ih =>
      intro i μ1 hq hi hS hT1 hR1
      have hle : cnW c x b i ≤ i := cntB_le _ _
      have hmo := cntB_mono (fun t => kb c (twC x) b t) i (T - i)
      rw [show i + (T - i) = T by omega] at hmo
      have hm1 : cnW c x b i ≤ cnW c x b T := hmo.1
      have hm2 : cnW c x b T ≤ cnW c x b i + (T - i) := hmo.2
      refine A_iload dX9_knocksJust_52 rfl ?_
      refine A_iload dX9_knocksJust_54 rfl ?_
      refine A_icmp_geN (tgt := 99) dX9_knocksJust_56 (by decide) (by omega) (by omega) (fun b56 => ?_) (fun b56 => ?_)
      · rw [show i = T by omega]
        exact A_weak (fin T _ μ1 Iff.rfl (by have : cnW c x b T ≤ T := cntB_le _ _; omega) hS) (by repeat first | exact fw_0 | refine fw_s ?_ | refine fw_n ?_)
      · refine A_iload dX9_knocksJust_59 rfl ?_
        refine A_iload_n dX9_knocksJust_61 rfl ?_
        refine A_icmp_gtN (tgt := 99) dX9_knocksJust_62 (by decide) (by omega) (by omega) (fun b62 => ?_) (fun b62 => ?_)
        · exact A_weak (fin i (cnW c x b i) μ1 ⟨fun q => by omega, fun q => by omega⟩ (by omega) hS) (by repeat first | exact fw_0 | refine fw_s ?_ | refine fw_n ?_)
        · refine A_iload dX9_knocksJust_65 rfl ?_
          refine A_iload dX9_knocksJust_67 rfl ?_
          refine A_iaddN dX9_knocksJust_69 ?_
          refine A_iload dX9_knocksJust_70 rfl ?_
          refine A_isub dX9_knocksJust_72 ?_
          rw [pk_sub (by omega)]
          refine A_iload_n dX9_knocksJust_73 rfl ?_
          refine A_icmp_ltN (tgt := 99) dX9_knocksJust_74 (by decide) (by omega) (by omega) (fun b74 => ?_) (fun b74 => ?_)
          · exact A_weak (fin i (cnW c x b i) μ1 ⟨fun q => by omega, fun q => by omega⟩ (by omega) hS) (by repeat first | exact fw_0 | refine fw_s ?_ | refine fw_n ?_)
          · refine A_iload dX9_knocksJust_77 rfl ?_
            refine A_aload_n dX9_knocksJust_79 rfl ?_
            refine A_getR dX9_knocksJust_80 flX9_32 rfl rfl ?_
            refine A_callV0 dX9_knocksJust_83 mlX9_163 (by decide) rfl rfl (Nat.le_of_ble_eq_true rfl) (c_stepC flow_47 (by omega) hC (hS.cx hc) hT1 hR1 (GC_run hC i) (fun μ2 hR2 hF2 => ?_))
            refine Kn.s ?_
            refine A_iload_n dX9_knocksJust_86 rfl ?_
            refine A_iushr dX9_knocksJust_87 ?_
            refine A_iconst (v := nI 1) dX9_knocksJust_88 (by decide +kernel) ?_
            refine A_iand dX9_knocksJust_89 ?_
            rw [ushr_bit _ hnb.2 (Nat.lt_of_lt_of_le hb hnb.2)]
            refine A_iaddN dX9_knocksJust_90 ?_
            refine A_istore (ls1 := [_, _, _, _, _, _, _]) dX9_knocksJust_91 (by decide) rfl rfl ?_
            refine A_iincN (ls1 := [_, _, _, _, _, _, _]) dX9_knocksJust_93 rfl (by decide) rfl rfl ?_
            refine A_goto (tgt := 52) dX9_knocksJust_96 (by decide) ?_
            have h9 := ih (i + 1) μ2 (by omega) (by omega) (hS.tr (Sc.fr hF2 (Or.inr (by omega)))) (hT1.fr (by omega) hF2) hR2
            have e : cnW c x b (i + 1) = cnW c x b i + (if b < N (c 2 0) ∧ setP c (twC x) i (runP c (twC x) i) b = true then 1 else 0) := by
              unfold cnW
              rw [cntB]
              congr 1
              unfold kb
              by_cases h : setP c (twC x) i (runP c (twC x) i) b = true
              · rw [if_pos h, if_pos ⟨hb, h⟩]
              · rw [if_neg h, if_neg (fun z => h z.2)]
            rw [e] at h9
            exact h9
  refine A_aload_n dX9_knocksJust_0 rfl ?_
  refine A_getR dX9_knocksJust_1 flX9_28 rfl rfl ?_
  refine A_iconst (v := nI 0) dX9_knocksJust_4 (by decide +kernel) ?_
  refine A_callV1 dX9_knocksJust_5 mlX9_177 (by decide) rfl rfl (Nat.le_of_ble_eq_true rfl) (c_reset _ (Or.inl rfl) (fun μ1 hT1 hF1 => ?_))
  refine Kn.v ?_
  refine A_iconst (v := nI 0) dX9_knocksJust_8 (by decide +kernel) ?_
  refine A_istore (ls1 := [_, _, _, _, _, _, _]) dX9_knocksJust_9 (by decide) rfl rfl ?_
  refine A_iload dX9_knocksJust_11 rfl ?_
  refine A_iconst (v := nI 4) dX9_knocksJust_13 (by decide +kernel) ?_
  refine A_icmp_ge (tgt := 39) dX9_knocksJust_14 (by decide) (fun h => absurd h (by decide +kernel)) (fun _ => ?_)
  refine A_aload_n dX9_knocksJust_17 rfl ?_
  refine A_getR dX9_knocksJust_18 flX9_28 rfl rfl ?_
  refine A_getR dX9_knocksJust_21 flX9_287 rfl rfl ?_
  refine A_iload dX9_knocksJust_24 rfl ?_
  refine A_iload_n dX9_knocksJust_26 rfl ?_
  refine A_iload dX9_knocksJust_27 rfl ?_
  refine A_callS2 dX9_knocksJust_29 mlX9_233 (by decide) (Nat.le_of_ble_eq_true rfl) (c_changeIn hx (by omega) ?_)
  refine Kn.s ?_
  refine A_iastN (j := 0) dX9_knocksJust_32 rfl rfl (by decide) (by decide) ?_
  refine A_iinc (y := nI 1) (ls1 := [_, _, _, _, _, _, _]) dX9_knocksJust_33 rfl (by decide +kernel) (by decide) rfl rfl ?_
  refine A_goto (tgt := 11) dX9_knocksJust_36 (by decide) ?_
  refine A_iload dX9_knocksJust_11 rfl ?_
  refine A_iconst (v := nI 4) dX9_knocksJust_13 (by decide +kernel) ?_
  refine A_icmp_ge (tgt := 39) dX9_knocksJust_14 (by decide) (fun h => absurd h (by decide +kernel)) (fun _ => ?_)
  refine A_aload_n dX9_knocksJust_17 rfl ?_
  refine A_getR dX9_knocksJust_18 flX9_28 rfl rfl ?_
  refine A_getR dX9_knocksJust_21 flX9_287 rfl rfl ?_
  refine A_iload dX9_knocksJust_24 rfl ?_
  refine A_iload_n dX9_knocksJust_26 rfl ?_
  refine A_iload dX9_knocksJust_27 rfl ?_
  refine A_callS2 dX9_knocksJust_29 mlX9_233 (by decide) (Nat.le_of_ble_eq_true rfl) (c_changeIn hx (by omega) ?_)
  refine Kn.s ?_
  refine A_iastN (j := 1) dX9_knocksJust_32 rfl rfl (by decide) (by decide) ?_
  refine A_iinc (y := nI 2) (ls1 := [_, _, _, _, _, _, _]) dX9_knocksJust_33 rfl (by decide +kernel) (by decide) rfl rfl ?_
  refine A_goto (tgt := 11) dX9_knocksJust_36 (by decide) ?_
  refine A_iload dX9_knocksJust_11 rfl ?_
  refine A_iconst (v := nI 4) dX9_knocksJust_13 (by decide +kernel) ?_
  refine A_icmp_ge (tgt := 39) dX9_knocksJust_14 (by decide) (fun h => absurd h (by decide +kernel)) (fun _ => ?_)
  refine A_aload_n dX9_knocksJust_17 rfl ?_
  refine A_getR dX9_knocksJust_18 flX9_28 rfl rfl ?_
  refine A_getR dX9_knocksJust_21 flX9_287 rfl rfl ?_
  refine A_iload dX9_knocksJust_24 rfl ?_
  refine A_iload_n dX9_knocksJust_26 rfl ?_
  refine A_iload dX9_knocksJust_27 rfl ?_
  refine A_callS2 dX9_knocksJust_29 mlX9_233 (by decide) (Nat.le_of_ble_eq_true rfl) (c_changeIn hx (by omega) ?_)
  refine Kn.s ?_
  refine A_iastN (j := 2) dX9_knocksJust_32 rfl rfl (by decide) (by decide) ?_
  refine A_iinc (y := nI 3) (ls1 := [_, _, _, _, _, _, _]) dX9_knocksJust_33 rfl (by decide +kernel) (by decide) rfl rfl ?_
  refine A_goto (tgt := 11) dX9_knocksJust_36 (by decide) ?_
  refine A_iload dX9_knocksJust_11 rfl ?_
  refine A_iconst (v := nI 4) dX9_knocksJust_13 (by decide +kernel) ?_
  refine A_icmp_ge (tgt := 39) dX9_knocksJust_14 (by decide) (fun h => absurd h (by decide +kernel)) (fun _ => ?_)
  refine A_aload_n dX9_knocksJust_17 rfl ?_
  refine A_getR dX9_knocksJust_18 flX9_28 rfl rfl ?_
  refine A_getR dX9_knocksJust_21 flX9_287 rfl rfl ?_
  refine A_iload dX9_knocksJust_24 rfl ?_
  refine A_iload_n dX9_knocksJust_26 rfl ?_
  refine A_iload dX9_knocksJust_27 rfl ?_
  refine A_callS2 dX9_knocksJust_29 mlX9_233 (by decide) (Nat.le_of_ble_eq_true rfl) (c_changeIn hx (by omega) ?_)
  refine Kn.s ?_
  refine A_iastN (j := 3) dX9_knocksJust_32 rfl rfl (by decide) (by decide) ?_
  refine A_iinc (y := nI 4) (ls1 := [_, _, _, _, _, _, _]) dX9_knocksJust_33 rfl (by decide +kernel) (by decide) rfl rfl ?_
  refine A_goto (tgt := 11) dX9_knocksJust_36 (by decide) ?_
  refine A_iload dX9_knocksJust_11 rfl ?_
  refine A_iconst (v := nI 4) dX9_knocksJust_13 (by decide +kernel) ?_
  refine A_icmp_ge (tgt := 39) dX9_knocksJust_14 (by decide) (fun _ => ?_) (fun h => absurd h (by decide +kernel))
  have hT2 : TW 24 (twC x) (up2 (up2 (up2 (up2 μ1 25 0 (chF x 0)) 25 1 (chF x 1)) 25 2 (chF x 2)) 25 3 (chF x 3)) := by
    refine ⟨?_, fun s hs => ⟨?_, ?_⟩, fun b hb => ⟨?_, ?_⟩⟩
    · simp (disch := omega) only [up2_a]; exact hT1.1
    · rcases (show s = 0 ∨ s = 1 ∨ s = 2 ∨ s = 3 by omega) with rfl | rfl | rfl | rfl <;> (simp (disch := omega) only [up2_b, up2_s]; rfl)
    · simp (disch := omega) only [up2_a]; exact (hT1.2.1 s hs).2
    · simp (disch := omega) only [up2_a]; exact (hT1.2.2 b hb).1
    · simp (disch := omega) only [up2_a]; exact (hT1.2.2 b hb).2
  have hF2 : Fr 24 5 μ (up2 (up2 (up2 (up2 μ1 25 0 (chF x 0)) 25 1 (chF x 1)) 25 2 (chF x 2)) 25 3 (chF x 3)) := (((hF1.tr (Fr.up (by omega) (by omega))).tr (Fr.up (by omega) (by omega))).tr (Fr.up (by omega) (by omega))).tr (Fr.up (by omega) (by omega))
  refine A_aload_n dX9_knocksJust_39 rfl ?_
  refine A_getR dX9_knocksJust_40 flX9_32 rfl rfl ?_
  refine A_callV0 dX9_knocksJust_43 mlX9_172 (by decide) rfl rfl (Nat.le_of_ble_eq_true rfl) (c_begin flow_47 (fun μ3 hR3 hF3 => ?_))
  refine Kn.v ?_
  refine A_iconst (v := nI 0) dX9_knocksJust_46 (by decide +kernel) ?_
  refine A_istore (ls1 := [_, _, _, _, _, _, _]) dX9_knocksJust_47 (by decide) rfl rfl ?_
  refine A_iconst (v := nI 0) dX9_knocksJust_49 (by decide +kernel) ?_
  refine A_istore (ls1 := [_, _, _, _, _, _, _]) dX9_knocksJust_50 (by decide) rfl rfl ?_
  exact loop (T + 1) 0 μ3 (by omega) (by omega) ((Sc.fr hF2 (Or.inl (by omega))).tr (Sc.fr hF3 (Or.inr (by omega)))) (hT2.fr (by omega) hF3) hR3
/-- a way that is open and makes the bucket knock just so often -/
def okWy (c : MI) (b n T x : Nat) : Bool := opW c x && decide (cnW c x b T = n)
/-- the least of them -/
def LeastW (c : MI) (b n T x : Nat) : Prop := x < 625 ∧ okWy c b n T x = true ∧ ∀ y, y < 625 → okWy c b n T y = true → szW x < szW y ∨ (szW x = szW y ∧ x ≤ y)
theorem c_leastWay {b n T : Nat} (hn : n ≤ 200) (hT : T ≤ 200) {c μ : MI} {ν : ML} {P : Po} (hC : WC c) (hc : CX c μ) (hb : b < N (c 2 0)) (h1 : ∀ x μ', LeastW c b n T x → Sc μ μ' → P (some (.int (nI x))) μ' ν) (h0 : ∀ μ', (∀ y, y < 625 → okWy c b n T y = false) → Sc μ μ' → P (some (.int (-1))) μ' ν) : Ct mX9_leastWay 6 [.ref 0, .int (nI b), .int (nI n), .int (nI T)] μ ν P := by
  refine Ct.of (ls0 := [_, _, _, _, _, _]) (by decide) rfl (Nat.le_of_ble_eq_true rfl) rfl ?_
  have hnb := hC.1.1
  have hns := hC.2.1.1
  have inner : ∀ (z : Nat), z ≤ 8 → (∀ μ1, Sc μ μ1 → (∀ y, y < 625 → szW y < z + 1 → okWy c b n T y = false) → AW mX9_leastWay (6, none) P 3 [some (.ref 0), some (.int (nI b)), some (.int (nI n)), some (.int (nI T)), some (.int (nI (z + 1))), none] [] μ1 ν) → ∀ (q i : Nat) (μ1 : MI), 625 - i < q → i ≤ 625 → Sc μ μ1 → (∀ y, y < 625 → szW y < z → okWy c b n T y = false) → (∀ y, y < i → szW y = z → okWy c b n T y = false) → AW mX9_leastWay (6, none) P 13 [some (.ref 0), some (.int (nI b)), some (.int (nI n)), some (.int (nI T)), some (.int (nI z)), some (.int (nI i))] [] μ1 ν := by
    intro z hz hex q
    induction q with
    | zero => intro i μ1 h; omega
    | succ q ih =>
      intro i μ1 hq hi hS hg hg2
      have next : ∀ μ2, i < 625 → Sc μ μ2 → (szW i = z → okWy c b n T i = false) → AW mX9_leastWay (6, none) P 13 [some (.ref 0), some (.int (nI b)), some (.int (nI n)), some (.int (nI T)), some (.int (nI z)), some (.int (nI (i + 1)))] [] μ2 ν := fun μ2 h h2 h3 => ih (i + 1) μ2 (by omega) (by omega) h2 hg (fun y hy hy2 => by
        by_cases e : y = i
        · subst e; exact h3 hy2
        · exact hg2 y (by omega) hy2)
      have hsz := szW_le i
      have hc1 := hS.cx hc
      refine A_iload dX9_leastWay_13 rfl ?_
      refine A_sipush (v := nI 625) dX9_leastWay_15 (by decide +kernel) ?_
      refine A_icmp_geN (tgt := 61) dX9_leastWay_18 (by decide) (by omega) (by omega) (fun b18 => ?_) (fun b18 => ?_)
      · refine A_iincN (ls1 := [_, _, _, _, _, _]) dX9_leastWay_61 rfl (by decide) rfl rfl ?_
        refine A_goto (tgt := 3) dX9_leastWay_64 (by decide) ?_
        refine A_weak (hex μ1 hS (fun y hy hy2 => ?_)) (by repeat first | exact fw_0 | refine fw_s ?_ | refine fw_n ?_)
        by_cases e : szW y = z
        · exact hg2 y (by omega) e
        · exact hg y hy (by omega)
      · refine A_iload dX9_leastWay_21 rfl ?_
        refine A_callS1 dX9_leastWay_23 mlX9_230 (by decide) (Nat.le_of_ble_eq_true rfl) (c_sizeOf b18 ?_)
        refine Kn.s ?_
        refine A_iload dX9_leastWay_26 rfl ?_
        refine A_icmp_neN (tgt := 55) dX9_leastWay_28 (by decide) (by omega) (by omega) (fun b28 => ?_) (fun b28 => ?_)
        · refine A_iincN (ls1 := [_, _, _, _, _, _]) dX9_leastWay_55 rfl (by decide) rfl rfl ?_
          refine A_goto (tgt := 13) dX9_leastWay_58 (by decide) ?_
          exact next μ1 b18 hS (fun q => absurd q b28)
        · refine A_aload_n dX9_leastWay_31 rfl ?_
          refine A_iload dX9_leastWay_32 rfl ?_
          refine A_callV1 dX9_leastWay_34 mlX9_280 (by decide) rfl rfl (Nat.le_of_ble_eq_true rfl) (c_isOpen b18 hc1 hns.1 hns.2 (fun g1 => ?_) (fun g1 => ?_))
          · refine Kn.s ?_
            refine A_if_eq (tgt := 55) dX9_leastWay_37 (by decide) (fun h => absurd h (by decide +kernel)) (fun _ => ?_)
            refine A_aload_n dX9_leastWay_40 rfl ?_
            refine A_iload dX9_leastWay_41 rfl ?_
            refine A_iload_n dX9_leastWay_43 rfl ?_
            refine A_iload_n dX9_leastWay_44 rfl ?_
            refine A_iload_n dX9_leastWay_45 rfl ?_
            refine A_callV4 dX9_leastWay_46 mlX9_283 (by decide) rfl rfl (Nat.le_of_ble_eq_true rfl) (c_knocksJust b18 hn hT hC hc1 hb (fun μ2 g2 g3 => ?_) (fun μ2 g2 g3 => ?_))
            · refine Kn.s ?_
              refine A_if_eq (tgt := 55) dX9_leastWay_49 (by decide) (fun h => absurd h (by decide +kernel)) (fun _ => ?_)
              refine A_iload dX9_leastWay_52 rfl ?_
              refine A_iret dX9_leastWay_54 rfl rfl ?_
              refine h1 i μ2 ⟨b18, by unfold okWy; rw [g1, decide_eq_true g2]; rfl, fun y hy hy2 => ?_⟩ (hS.tr g3)
              rcases Nat.lt_trichotomy (szW y) z with k | k | k
              · rw [hg y hy k] at hy2; cases hy2
              · rcases Nat.lt_or_ge y i with k2 | k2
                · rw [hg2 y k2 k] at hy2; cases hy2
                · exact Or.inr ⟨by omega, k2⟩
              · exact Or.inl (by omega)
            · refine Kn.s ?_
              refine A_if_eq (tgt := 55) dX9_leastWay_49 (by decide) (fun _ => ?_) (fun h => absurd h (by decide +kernel))
              refine A_iincN (ls1 := [_, _, _, _, _, _]) dX9_leastWay_55 rfl (by decide) rfl rfl ?_
              refine A_goto (tgt := 13) dX9_leastWay_58 (by decide) ?_
              exact next μ2 b18 (hS.tr g3) (fun _ => by unfold okWy; rw [decide_eq_false g2, Bool.and_false])
          · refine Kn.s ?_
            refine A_if_eq (tgt := 55) dX9_leastWay_37 (by decide) (fun _ => ?_) (fun h => absurd h (by decide +kernel))
            refine A_iincN (ls1 := [_, _, _, _, _, _]) dX9_leastWay_55 rfl (by decide) rfl rfl ?_
            refine A_goto (tgt := 13) dX9_leastWay_58 (by decide) ?_
            exact next μ1 b18 hS (fun _ => by unfold okWy; rw [g1, Bool.false_and])
  have loop : ∀ (q z : Nat) (μ1 : MI), 9 - z < q → z ≤ 9 → Sc μ μ1 → (∀ y, y < 625 → szW y < z → okWy c b n T y = false) → AW mX9_leastWay (6, none) P 3 [some (.ref 0), some (.int (nI b)), some (.int (nI n)), some (.int (nI T)), some (.int (nI z)), none] [] μ1 ν := by
    intro q
    induction q with
    | zero => intro z μ1 h; omega
    | succ q ih =>
      intro z μ1 hq hz hS hg
      refine A_iload dX9_leastWay_3 rfl ?_
      refine A_bipush (v := nI 8) dX9_leastWay_5 (by decide +kernel) ?_
      refine A_icmp_gtN (tgt := 67) dX9_leastWay_7 (by decide) (by omega) (by omega) (fun b7 => ?_) (fun b7 => ?_)
      · refine A_iconst (v := (-1)) dX9_leastWay_67 (by decide +kernel) ?_
        refine A_iret dX9_leastWay_68 rfl rfl ?_
        exact h0 μ1 (fun y hy => hg y hy (by have := szW_le y; omega)) hS
      · refine A_iconst (v := nI 0) dX9_leastWay_10 (by decide +kernel) ?_
        refine A_istore (ls1 := [_, _, _, _, _, _]) dX9_leastWay_11 (by decide) rfl rfl ?_
        exact inner z (by omega) (fun μ2 h1 h2 => ih (z + 1) μ2 (by omega) (by omega) h1 h2) 626 0 μ1 (by omega) (by omega) hS hg (fun y hy => by omega)
  refine A_iconst (v := nI 0) dX9_leastWay_0 (by decide +kernel) ?_
  refine A_istore (ls1 := [_, _, _, _, _, _]) dX9_leastWay_1 (by decide) rfl rfl ?_
  exact loop 10 0 μ (by omega) (by omega) (Sc.rf μ) (fun y hy h => by omega)
theorem nI_nm1 {x : Nat} (h : x < 2 ^ 31) : ¬ nI x = -1 := fun q => by
  have := congrArg Int32.toInt q
  rw [nI_toInt h, show (-1 : Int32).toInt = -1 by decide +kernel] at this
  omega
def meR (o : Option Nat) (s : Int32) : Int32 := match o with
  | none => if s = -1 then -1 else 0
  | some x => if s = -1 then nI (szW x) else chF x (N s)
theorem c_mended (b n T s : Int32) {m k : Nat} {c μ : MI} {ν : ML} {P : Po} (hC : WC c) (hc : CX c μ) (hm : c 2 0 = nI m) (hm8 : m ≤ 8) (hk : c 7 0 = nI k) (hk4 : k ≤ 4) (hu : ¬ (inR b m ∧ (s = -1 ∨ inR s k)) → P (some (.int (-1001))) μ ν) (ho : (inR b m ∧ (s = -1 ∨ inR s k)) → ¬ ((nI 0 ≤ n ∧ n ≤ nI 200) ∧ (nI 1 ≤ T ∧ T ≤ nI 200)) → P (some (.int (-1002))) μ ν)
    (h1 : ∀ b1 n1 T1 x μ', b = nI b1 → b1 < m → n = nI n1 → n1 ≤ 200 → T = nI T1 → 1 ≤ T1 → T1 ≤ 200 → (s = -1 ∨ inR s k) → LeastW c b1 n1 T1 x → Sc μ μ' → P (some (.int (meR (some x) s))) μ' ν) (h0 : ∀ b1 n1 T1 μ', b = nI b1 → b1 < m → n = nI n1 → n1 ≤ 200 → T = nI T1 → 1 ≤ T1 → T1 ≤ 200 → (s = -1 ∨ inR s k) → (∀ y, y < 625 → okWy c b1 n1 T1 y = false) → Sc μ μ' → P (some (.int (meR none s))) μ' ν) : Ct mX9_mended 7 [.ref 0, .int b, .int n, .int T, .int s] μ ν P := by
  refine Ct.of (ls0 := [_, _, _, _, _, _]) (by decide) rfl (Nat.le_of_ble_eq_true rfl) rfl ?_
  have hN : N (c 2 0) = m := by rw [hm]; exact N_nI (by omega)
  have hm2 : μ 2 0 = nI m := (hc 2 (by omega) (by omega) 0).trans hm
  have hk2 : μ 7 0 = nI k := (hc 7 (by omega) (by omega) 0).trans hk
  have main : inR b m → (s = -1 ∨ inR s k) → AW mX9_mended (7, none) P 39 [some (.ref 0), some (.int b), some (.int n), some (.int T), some (.int s), none] [] μ ν := by
    intro gb gs
    refine A_iload_n dX9_mended_39 rfl ?_
    refine A_iconst (v := nI 0) dX9_mended_40 (by decide +kernel) ?_
    refine A_sipush (v := nI 200) dX9_mended_41 (by decide +kernel) ?_
    refine A_callS3 dX9_mended_44 mlX9_52 (by decide) (Nat.le_of_ble_eq_true rfl) (c_within _ _ _ (fun g1 g2 => ?_) (fun g3 => ?_))
    · refine Kn.s ?_
      refine A_if_eq (tgt := 61) dX9_mended_47 (by decide) (fun h => absurd h (by decide +kernel)) (fun _ => ?_)
      refine A_iload_n dX9_mended_50 rfl ?_
      refine A_iconst (v := nI 1) dX9_mended_51 (by decide +kernel) ?_
      refine A_sipush (v := nI 200) dX9_mended_52 (by decide +kernel) ?_
      refine A_callS3 dX9_mended_55 mlX9_52 (by decide) (Nat.le_of_ble_eq_true rfl) (c_within _ _ _ (fun g4 g5 => ?_) (fun g6 => ?_))
      · refine Kn.s ?_
        refine A_if_ne (tgt := 65) dX9_mended_58 (by decide) (fun _ => ?_) (fun h => absurd h (by decide +kernel))
        obtain ⟨b1, hb, hb1⟩ := id gb
        obtain ⟨n1, hn1, en⟩ := nI_of2 (M := nI 200) (n := 200) rfl (i_le_n g1) g2
        obtain ⟨T1, hT1, eT⟩ := nI_of2 (M := nI 200) (n := 200) rfl (i_le_n (Int32.le_trans (show (0 : Int32) ≤ nI 1 by decide +kernel) g4)) g5
        have hT0 : 1 ≤ T1 := by rw [eT] at g4; exact (nI_leI (by omega) (by omega)).mp g4
        have h1' := fun x μ' => h1 b1 n1 T1 x μ' hb hb1 en hn1 eT hT0 hT1 gs
        have h0' := fun μ' => h0 b1 n1 T1 μ' hb hb1 en hn1 eT hT0 hT1 gs
        subst hb
        subst en
        subst eT
        clear h1 h0
        refine A_aload_n dX9_mended_65 rfl ?_
        refine A_iload_n dX9_mended_66 rfl ?_
        refine A_iload_n dX9_mended_67 rfl ?_
        refine A_iload_n dX9_mended_68 rfl ?_
        refine A_callV3 dX9_mended_69 mlX9_227 (by decide) rfl rfl (Nat.le_of_ble_eq_true rfl) (c_leastWay hn1 hT1 hC hc (by omega) (fun x μ2 g7 g8 => ?_) (fun μ2 g7 g8 => ?_))
        · refine Kn.s ?_
          refine A_istore (ls1 := [_, _, _, _, _, _]) dX9_mended_72 (by decide) rfl rfl ?_
          refine A_iload dX9_mended_74 rfl ?_
          refine A_iconst (v := (-1)) dX9_mended_76 (by decide +kernel) ?_
          refine A_icmp_ne (tgt := 96) dX9_mended_77 (by decide) (fun b77 => ?_) (fun b77 => ?_)
          · refine A_iload dX9_mended_96 rfl ?_
            refine A_iconst (v := (-1)) dX9_mended_98 (by decide +kernel) ?_
            refine A_icmp_ne (tgt := 106) dX9_mended_99 (by decide) (fun b99 => ?_) (fun b99 => absurd b99 (nI_nm1 (Nat.lt_trans g7.1 (by decide))))
            obtain ⟨s1, es, hs1⟩ := gs.elim (fun q => absurd q b77) id
            have h9 := h1' x μ2 g7 g8
            simp only [meR] at h9
            rw [if_neg b77] at h9
            subst es
            rw [N_nI (by omega)] at h9
            refine A_iload dX9_mended_106 rfl ?_
            refine A_iload dX9_mended_108 rfl ?_
            refine A_callS2 dX9_mended_110 mlX9_233 (by decide) (Nat.le_of_ble_eq_true rfl) (c_changeIn g7.1 (by omega) ?_)
            refine Kn.s ?_
            refine A_iret dX9_mended_113 rfl rfl ?_
            exact h9
          · refine A_iload dX9_mended_80 rfl ?_
            refine A_iconst (v := (-1)) dX9_mended_82 (by decide +kernel) ?_
            refine A_icmp_ne (tgt := 90) dX9_mended_83 (by decide) (fun b83 => ?_) (fun b83 => absurd b83 (nI_nm1 (Nat.lt_trans g7.1 (by decide))))
            refine A_iload dX9_mended_90 rfl ?_
            refine A_callS1 dX9_mended_92 mlX9_230 (by decide) (Nat.le_of_ble_eq_true rfl) (c_sizeOf g7.1 ?_)
            refine Kn.s ?_
            refine A_iret dX9_mended_95 rfl rfl ?_
            have h9 := h1' x μ2 g7 g8
            simp only [meR] at h9
            rw [if_pos b77] at h9
            exact h9
        · refine Kn.s ?_
          refine A_istore (ls1 := [_, _, _, _, _, _]) dX9_mended_72 (by decide) rfl rfl ?_
          refine A_iload dX9_mended_74 rfl ?_
          refine A_iconst (v := (-1)) dX9_mended_76 (by decide +kernel) ?_
          refine A_icmp_ne (tgt := 96) dX9_mended_77 (by decide) (fun b77 => ?_) (fun b77 => ?_)
          · refine A_iload dX9_mended_96 rfl ?_
            refine A_iconst (v := (-1)) dX9_mended_98 (by decide +kernel) ?_
            refine A_icmp_ne (tgt := 106) dX9_mended_99 (by decide) (fun h => absurd h (by decide +kernel)) (fun _ => ?_)
            refine A_iconst (v := nI 0) dX9_mended_102 (by decide +kernel) ?_
            refine A_goto (tgt := 113) dX9_mended_103 (by decide) ?_
            refine A_iret dX9_mended_113 rfl rfl ?_
            have h9 := h0' μ2 g7 g8
            simp only [meR] at h9
            rw [if_neg b77] at h9
            exact h9
          · refine A_iload dX9_mended_80 rfl ?_
            refine A_iconst (v := (-1)) dX9_mended_82 (by decide +kernel) ?_
            refine A_icmp_ne (tgt := 90) dX9_mended_83 (by decide) (fun h => absurd h (by decide +kernel)) (fun _ => ?_)
            refine A_iconst (v := (-1)) dX9_mended_86 (by decide +kernel) ?_
            refine A_goto (tgt := 95) dX9_mended_87 (by decide) ?_
            refine A_iret dX9_mended_95 rfl rfl ?_
            have h9 := h0' μ2 g7 g8
            simp only [meR] at h9
            rw [if_pos b77] at h9
            exact h9
      · refine Kn.s ?_
        refine A_if_ne (tgt := 65) dX9_mended_58 (by decide) (fun h => absurd h (by decide +kernel)) (fun _ => ?_)
        refine A_sipush (v := (-1002)) dX9_mended_61 (by decide +kernel) ?_
        refine A_iret dX9_mended_64 rfl rfl ?_
        exact ho ⟨gb, gs⟩ (fun q => g6 q.2)
    · refine Kn.s ?_
      refine A_if_eq (tgt := 61) dX9_mended_47 (by decide) (fun _ => ?_) (fun h => absurd h (by decide +kernel))
      refine A_sipush (v := (-1002)) dX9_mended_61 (by decide +kernel) ?_
      refine A_iret dX9_mended_64 rfl rfl ?_
      exact ho ⟨gb, gs⟩ (fun q => g3 q.1)
  refine A_aload_n dX9_mended_0 rfl ?_
  refine A_getR dX9_mended_1 flX9_12 rfl rfl ?_
  refine A_getR dX9_mended_4 flX9_56 rfl rfl ?_
  refine A_iload_n dX9_mended_7 rfl ?_
  refine A_callV1 dX9_mended_8 mlX9_66 (by decide) rfl rfl (Nat.le_of_ble_eq_true rfl) (c_has _ hm2 hm8 (fun g1 => ?_) (fun g1 => ?_))
  · refine Kn.s ?_
    refine A_if_eq (tgt := 35) dX9_mended_11 (by decide) (fun h => absurd h (by decide +kernel)) (fun _ => ?_)
    refine A_iload dX9_mended_14 rfl ?_
    refine A_iconst (v := (-1)) dX9_mended_16 (by decide +kernel) ?_
    refine A_icmp_eq (tgt := 39) dX9_mended_17 (by decide) (fun b17 => ?_) (fun b17 => ?_)
    · exact main g1 (Or.inl b17)
    · refine A_aload_n dX9_mended_20 rfl ?_
      refine A_getR dX9_mended_21 flX9_12 rfl rfl ?_
      refine A_getR dX9_mended_24 flX9_74 rfl rfl ?_
      refine A_iload dX9_mended_27 rfl ?_
      refine A_callV1 dX9_mended_29 mlX9_83 (by decide) rfl rfl (Nat.le_of_ble_eq_true rfl) (c_hasS _ hk2 hk4 (fun g2 => ?_) (fun g2 => ?_))
      · refine Kn.s ?_
        refine A_if_ne (tgt := 39) dX9_mended_32 (by decide) (fun _ => ?_) (fun h => absurd h (by decide +kernel))
        exact main g1 (Or.inr g2)
      · refine Kn.s ?_
        refine A_if_ne (tgt := 39) dX9_mended_32 (by decide) (fun h => absurd h (by decide +kernel)) (fun _ => ?_)
        refine A_sipush (v := (-1001)) dX9_mended_35 (by decide +kernel) ?_
        refine A_iret dX9_mended_38 rfl rfl ?_
        exact hu (fun q => q.2.elim b17 g2)
  · refine Kn.s ?_
    refine A_if_eq (tgt := 35) dX9_mended_11 (by decide) (fun _ => ?_) (fun h => absurd h (by decide +kernel))
    refine A_sipush (v := (-1001)) dX9_mended_35 (by decide +kernel) ?_
    refine A_iret dX9_mended_38 rfl rfl ?_
    exact hu (fun q => g1 q.1)
