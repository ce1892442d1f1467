/-! what was heard, and who is blamed (the class) -/
def uL (x : Int64) : Nat := x.toBitVec.toNat
theorem uL_lt (x : Int64) : uL x < 2 ^ 64 := x.toBitVec.isLt
theorem lN_uL (x : Int64) : lN (uL x) = x := wb_inj (by rw [wb_tb]; exact BitVec.ofNat_toNat 64 x.toBitVec ▸ (by simp [uL]))
theorem uL_lN {n : Nat} (h : n < 2 ^ 64) : uL (lN n) = n := wb_tn h
theorem hi_and {n : Nat} (h : n < 2 ^ 64) : (n &&& (15 * 2 ^ 60) = 0) ↔ n < 2 ^ 60 := by
  have e : n &&& (15 * 2 ^ 60) = (n / 2 ^ 60 &&& 15) * 2 ^ 60 := by
    apply Nat.eq_of_testBit_eq
    intro i
    rw [Nat.testBit_and, Nat.testBit_mul_two_pow, Nat.testBit_mul_two_pow, Nat.testBit_and, Nat.testBit_div_two_pow]
    by_cases h1 : 60 ≤ i
    · rw [show i - 60 + 60 = i by omega]
      simp [h1]
    · simp [h1]
  have e2 : n / 2 ^ 60 &&& 15 = n / 2 ^ 60 := by
    have : n / 2 ^ 60 < 16 := Nat.div_lt_of_lt_mul (by omega)
    rw [show (15 : Nat) = 2 ^ 4 - 1 by decide, Nat.and_two_pow_sub_one_eq_mod, Nat.mod_eq_of_lt this]
  rw [e, e2]
  omega
theorem c_isRow (r : Int64) {μ : MI} {ν : ML} {P : Po} (h1 : uL r < 2 ^ 60 → P (some (.int (nI 1))) μ ν) (h0 : ¬ uL r < 2 ^ 60 → P (some (.int (nI 0))) μ ν) : Ct mX9_isRow 0 [.long r] μ ν P := by
  have hr : (r &&& (-1152921504606846976)) = 0 ↔ uL r < 2 ^ 60 := by
    rw [← hi_and (uL_lt r)]
    have e : r &&& (-1152921504606846976) = lN (uL r &&& (15 * 2 ^ 60)) := by
      have e1 : (-1152921504606846976 : Int64) = lN (15 * 2 ^ 60) := by decide +kernel
      rw [e1]
      conv => lhs; rw [← lN_uL r]
      rw [wb_and (uL_lt r) (by decide)]
    rw [e]
    constructor
    · intro h
      have h2 : lN (uL r &&& 15 * 2 ^ 60) = lN 0 := h
      have h3 := congrArg (fun x : Int64 => x.toBitVec.toNat) h2
      have h4 : uL r &&& 15 * 2 ^ 60 < 2 ^ 64 := Nat.and_lt_two_pow _ (by decide)
      simpa [wb_tn h4, wb_tn (show 0 < 2 ^ 64 by decide)] using h3
    · intro h
      rw [h]
      rfl
  refine Ct.of (ls0 := [_, _]) (by decide) rfl (Nat.le_of_ble_eq_true rfl) rfl ?_
  refine A_lload_n dX9_isRow_0 rfl ?_
  refine A_ldc2 dX9_isRow_1 kcX9_236 ?_
  refine A_land dX9_isRow_4 ?_
  refine A_lconst (v := 0) dX9_isRow_5 rfl ?_
  refine A_lcmp dX9_isRow_6 ?_
  refine A_if_ne (tgt := 14) dX9_isRow_7 (by decide) (fun b7 => ?_) (fun b7 => ?_)
  · refine A_iconst (v := nI 0) dX9_isRow_14 (by decide +kernel) ?_
    refine A_iret dX9_isRow_15 rfl (by decide +kernel) ?_
    exact h0 (fun q => b7 ((lg_cmp_eq _ _).mpr (hr.mpr q)))
  · refine A_iconst (v := nI 1) dX9_isRow_10 (by decide +kernel) ?_
    refine A_goto (tgt := 15) dX9_isRow_11 (by decide) ?_
    refine A_iret dX9_isRow_15 rfl (by decide +kernel) ?_
    exact h1 (hr.mp ((lg_cmp_eq _ _).mp b7))
theorem c_note {b : Nat} (hb : b < 8) (r : Int64) {μ : MI} {ν : ML} {P : Po} (h0 : μ 30 b = 0 → P (some (.int (μ 29 0 + 1))) (up2 (up2 μ 30 b 1) 29 0 (μ 29 0 + 1)) (up2 ν 31 b r)) (h1 : ¬ μ 30 b = 0 → P (some (.int (μ 29 0))) μ (up2 ν 31 b r)) : Ct mX4_note 0 [.ref 29, .int (nI b), .long r] μ ν P := by
  refine Ct.of (ls0 := [_, _, _, _]) (by decide) rfl (Nat.le_of_ble_eq_true rfl) rfl ?_
  refine A_aload_n dX4_note_0 rfl ?_
  refine A_getR dX4_note_1 flX4_9 rfl rfl ?_
  refine A_iload_n dX4_note_4 rfl ?_
  refine A_zaldN (j := b) dX4_note_5 rfl rfl hb (by decide) ?_
  refine A_if_ne (tgt := 26) dX4_note_6 (by decide) (fun b6 => ?_) (fun b6 => ?_)
  · refine A_aload_n dX4_note_26 rfl ?_
    refine A_getR dX4_note_27 flX4_15 rfl rfl ?_
    refine A_iload_n dX4_note_30 rfl ?_
    refine A_lload_n dX4_note_31 rfl ?_
    refine A_lastN (j := b) dX4_note_32 rfl rfl hb (by decide) ?_
    refine A_aload_n dX4_note_33 rfl ?_
    refine A_getI dX4_note_34 flX4_19 rfl rfl ?_
    refine A_iret dX4_note_37 rfl rfl ?_
    exact h1 b6
  · refine A_aload_n dX4_note_9 rfl ?_
    refine A_getR dX4_note_10 flX4_9 rfl rfl ?_
    refine A_iload_n dX4_note_13 rfl ?_
    refine A_iconst (v := nI 1) dX4_note_14 (by decide +kernel) ?_
    refine A_zastN (j := b) dX4_note_15 rfl rfl hb (by decide) rfl ?_
    refine A_aload_n dX4_note_16 rfl ?_
    refine A_dup dX4_note_17 rfl ?_
    refine A_getI dX4_note_18 flX4_19 rfl rfl ?_
    refine A_iconst (v := nI 1) dX4_note_21 (by decide +kernel) ?_
    refine A_iadd dX4_note_22 ?_
    refine A_put dX4_note_23 fpX4_19 rfl rfl rfl rfl ?_
    refine A_aload_n dX4_note_26 rfl ?_
    refine A_getR dX4_note_27 flX4_15 rfl rfl ?_
    refine A_iload_n dX4_note_30 rfl ?_
    refine A_lload_n dX4_note_31 rfl ?_
    refine A_lastN (j := b) dX4_note_32 rfl rfl hb (by decide) ?_
    refine A_aload_n dX4_note_33 rfl ?_
    refine A_getI dX4_note_34 flX4_19 rfl rfl ?_
    refine A_iret dX4_note_37 rfl rfl ?_
    have h9 := h0 b6
    simp (disch := omega) only [up2_a, up2_s]
    exact h9
theorem c_forget {μ : MI} {ν : ML} {P : Po} (hP : P none (fillX (up2 μ 29 0 0) 30 8 0) ν) : Ct mX4_forget 0 [.ref 29] μ ν P := by
  refine Ct.of (ls0 := [_, _]) (by decide) rfl (Nat.le_of_ble_eq_true rfl) rfl ?_
  have loop : ∀ (n i : Nat), 8 - i < n → i ≤ 8 → AW mX4_forget (0, none) P 7 [some (.ref 29), some (.int (nI i))] [] (fillX (up2 μ 29 0 0) 30 i 0) ν := by
    intro n
    induction n with
    | zero => intro i h; omega
    | succ n ih =>
      intro i hn hi
      refine A_iload_n dX4_forget_7 rfl ?_
      refine A_bipush (v := nI 8) dX4_forget_8 (by decide +kernel) ?_
      refine A_icmp_geN (tgt := 26) dX4_forget_10 (by decide) (by omega) (by omega) (fun b10 => ?_) (fun b10 => ?_)
      · refine A_vret dX4_forget_26 rfl ?_
        rw [show i = 8 by omega]; exact hP
      · refine A_aload_n dX4_forget_13 rfl ?_
        refine A_getR dX4_forget_14 flX4_9 rfl rfl ?_
        refine A_iload_n dX4_forget_17 rfl ?_
        refine A_iconst (v := nI 0) dX4_forget_18 (by decide +kernel) ?_
        refine A_zastN (j := i) dX4_forget_19 rfl rfl b10 (by decide) rfl ?_
        refine A_iincN (ls1 := [_, _]) dX4_forget_20 rfl (by decide) rfl rfl ?_
        refine A_goto (tgt := 7) dX4_forget_23 (by decide) ?_
        have h9 := ih (i + 1) (by omega) (by omega)
        rw [← fillX_up] at h9
        exact h9
  refine A_aload_n dX4_forget_0 rfl ?_
  refine A_iconst (v := nI 0) dX4_forget_1 (by decide +kernel) ?_
  refine A_put dX4_forget_2 fpX4_19 rfl rfl rfl rfl ?_
  refine A_iconst (v := nI 0) dX4_forget_5 (by decide +kernel) ?_
  refine A_istore_n (ls1 := [_, _]) dX4_forget_6 (by decide) rfl rfl ?_
  have h9 := loop 9 0 (by omega) (by omega)
  rw [fillX_0] at h9
  exact h9
def agreeB (μ : MI) (ν : ML) (t k : Nat) : Bool := allB (fun b => decide (μ 30 b = 0) || decide (uL (ν 31 b) / 2 ^ t % 2 = k / 2 ^ b % 2)) 8
theorem c_agrees {t k : Nat} (ht : t < 64) (hk : k < 65536) {μ : MI} {ν : ML} {P : Po} (h1 : agreeB μ ν t k = true → P (some (.int (nI 1))) μ ν) (h0 : agreeB μ ν t k = false → P (some (.int (nI 0))) μ ν) : Ct mX4_agrees 0 [.ref 29, .int (nI t), .int (nI k)] μ ν P := by
  refine Ct.of (ls0 := [_, _, _, _]) (by decide) rfl (Nat.le_of_ble_eq_true rfl) rfl ?_
  have bits : ∀ i, i < 8 → ((((ν 31 i).toUInt64 >>> ((nI t).toInt64.toUInt64 &&& Int64.toUInt64 63)).toInt64 &&& 1) = ((((nI k).toUInt32 >>> ((nI i).toUInt32 &&& Int32.toUInt32 31)).toInt32 &&& nI 1)).toInt64 ↔ uL (ν 31 i) / 2 ^ t % 2 = k / 2 ^ i % 2) := by
    intro i hi
    have e1 : (((ν 31 i).toUInt64 >>> ((nI t).toInt64.toUInt64 &&& Int64.toUInt64 63)).toInt64 &&& 1) = lN (uL (ν 31 i) / 2 ^ t % 2) := by
      conv => lhs; rw [← lN_uL (ν 31 i)]
      exact wb_bit (uL_lt _) ht
    have e2 : ((((nI k).toUInt32 >>> ((nI i).toUInt32 &&& Int32.toUInt32 31)).toInt32 &&& nI 1)).toInt64 = lN (k / 2 ^ i % 2) := by
      rw [nx_ush hk (by omega), nx_and, Nat.and_one_is_mod, Nat.shiftRight_eq_div_pow, nI_l (by omega)]
    rw [e1, e2, lN_eq (by omega) (by omega)]
  have loop : ∀ (n i : Nat), 8 - i < n → i ≤ 8 → allB (fun b => decide (μ 30 b = 0) || decide (uL (ν 31 b) / 2 ^ t % 2 = k / 2 ^ b % 2)) i = true → AW mX4_agrees (0, none) P 2 [some (.ref 29), some (.int (nI t)), some (.int (nI k)), some (.int (nI i))] [] μ ν := by
    intro n
    induction n with
    | zero => intro i h; omega
    | succ n ih =>
      intro i hn hi ha
      refine A_iload_n dX4_agrees_2 rfl ?_
      refine A_bipush (v := nI 8) dX4_agrees_3 (by decide +kernel) ?_
      refine A_icmp_geN (tgt := 45) dX4_agrees_5 (by decide) (by omega) (by omega) (fun b5 => ?_) (fun b5 => ?_)
      · refine A_iconst (v := nI 1) dX4_agrees_45 (by decide +kernel) ?_
        refine A_iret dX4_agrees_46 rfl (by decide +kernel) ?_
        exact h1 (by rw [show i = 8 by omega] at ha; exact ha)
      · refine A_aload_n dX4_agrees_8 rfl ?_
        refine A_getR dX4_agrees_9 flX4_9 rfl rfl ?_
        refine A_iload_n dX4_agrees_12 rfl ?_
        refine A_zaldN (j := i) dX4_agrees_13 rfl rfl b5 (by decide) ?_
        refine A_if_eq (tgt := 39) dX4_agrees_14 (by decide) (fun b14 => ?_) (fun b14 => ?_)
        · refine A_iincN (ls1 := [_, _, _, _]) dX4_agrees_39 rfl (by decide) rfl rfl ?_
          refine A_goto (tgt := 2) dX4_agrees_42 (by decide) ?_
          exact ih (i + 1) (by omega) (by omega) (by rw [allB, ha]; simp [b14])
        · refine A_aload_n dX4_agrees_17 rfl ?_
          refine A_getR dX4_agrees_18 flX4_15 rfl rfl ?_
          refine A_iload_n dX4_agrees_21 rfl ?_
          refine A_laldN (j := i) dX4_agrees_22 rfl rfl b5 (by decide) ?_
          refine A_iload_n dX4_agrees_23 rfl ?_
          refine A_lushr dX4_agrees_24 ?_
          refine A_lconst (v := 1) dX4_agrees_25 rfl ?_
          refine A_land dX4_agrees_26 ?_
          refine A_iload_n dX4_agrees_27 rfl ?_
          refine A_iload_n dX4_agrees_28 rfl ?_
          refine A_iushr dX4_agrees_29 ?_
          refine A_iconst (v := nI 1) dX4_agrees_30 (by decide +kernel) ?_
          refine A_iand dX4_agrees_31 ?_
          refine A_i2l dX4_agrees_32 ?_
          refine A_lcmp dX4_agrees_33 ?_
          refine A_if_eq (tgt := 39) dX4_agrees_34 (by decide) (fun b34 => ?_) (fun b34 => ?_)
          · refine A_iincN (ls1 := [_, _, _, _]) dX4_agrees_39 rfl (by decide) rfl rfl ?_
            refine A_goto (tgt := 2) dX4_agrees_42 (by decide) ?_
            have hq := (bits i b5).mp ((lg_cmp_eq _ _).mp b34)
            exact ih (i + 1) (by omega) (by omega) (by rw [allB, ha]; simp [hq])
          · refine A_iconst (v := nI 0) dX4_agrees_37 (by decide +kernel) ?_
            refine A_iret dX4_agrees_38 rfl (by decide +kernel) ?_
            exact h0 (allB_f (k := i) b5 (by
              have hn : ¬ uL (ν 31 i) / 2 ^ t % 2 = k / 2 ^ i % 2 := fun q => b34 ((lg_cmp_eq _ _).mpr ((bits i b5).mpr q))
              simp [b14, hn]))
  refine A_iconst (v := nI 0) dX4_agrees_0 (by decide +kernel) ?_
  refine A_istore_n (ls1 := [_, _, _, _]) dX4_agrees_1 (by decide) rfl rfl ?_
  exact loop 9 0 (by omega) (by omega) rfl
theorem c_hear (b : Int32) (r : Int64) {m : Nat} {μ : MI} {ν : ML} {P : Po} (hm : μ 2 0 = nI m) (hm8 : m ≤ 8) (hu : ¬ inR b m → P (some (.int (-1001))) μ ν) (ho : inR b m → ¬ uL r < 2 ^ 60 → P (some (.int (-1002))) μ ν) (h0 : ∀ k, b = nI k → k < m → uL r < 2 ^ 60 → μ 30 k = 0 → P (some (.int (μ 29 0 + 1))) (up2 (up2 μ 30 k 1) 29 0 (μ 29 0 + 1)) (up2 ν 31 k r)) (h1 : ∀ k, b = nI k → k < m → uL r < 2 ^ 60 → ¬ μ 30 k = 0 → P (some (.int (μ 29 0))) μ (up2 ν 31 k r)) : Ct mX9_hear 1 [.ref 0, .int b, .long r] μ ν P := by
  refine Ct.of (ls0 := [_, _, _, _]) (by decide) rfl (Nat.le_of_ble_eq_true rfl) rfl ?_
  refine A_aload_n dX9_hear_0 rfl ?_
  refine A_getR dX9_hear_1 flX9_12 rfl rfl ?_
  refine A_getR dX9_hear_4 flX9_56 rfl rfl ?_
  refine A_iload_n dX9_hear_7 rfl ?_
  refine A_callV1 dX9_hear_8 mlX9_66 (by decide) rfl rfl (Nat.le_of_ble_eq_true rfl) (c_has _ hm hm8 (fun g1 => ?_) (fun g1 => ?_))
  · refine Kn.s ?_
    refine A_if_ne (tgt := 18) dX9_hear_11 (by decide) (fun _ => ?_) (fun h => absurd h (by decide +kernel))
    refine A_lload_n dX9_hear_18 rfl ?_
    refine A_callS1 dX9_hear_19 mlX9_187 (by decide) (Nat.le_of_ble_eq_true rfl) (c_isRow _ (fun g2 => ?_) (fun g2 => ?_))
    · refine Kn.s ?_
      refine A_if_ne (tgt := 29) dX9_hear_22 (by decide) (fun _ => ?_) (fun h => absurd h (by decide +kernel))
      obtain ⟨k, rfl, hk⟩ := g1
      refine A_aload_n dX9_hear_29 rfl ?_
      refine A_getR dX9_hear_30 flX9_41 rfl rfl ?_
      refine A_iload_n dX9_hear_33 rfl ?_
      refine A_lload_n dX9_hear_34 rfl ?_
      refine A_callV2 dX9_hear_35 mlX9_199 (by decide) rfl rfl (Nat.le_of_ble_eq_true rfl) (c_note (by omega) _ (fun q => ?_) (fun q => ?_))
      · refine Kn.s ?_
        refine A_iret dX9_hear_38 rfl rfl ?_
        exact h0 k rfl hk g2 q
      · refine Kn.s ?_
        refine A_iret dX9_hear_38 rfl rfl ?_
        exact h1 k rfl hk g2 q
    · refine Kn.s ?_
      refine A_if_ne (tgt := 29) dX9_hear_22 (by decide) (fun h => absurd h (by decide +kernel)) (fun _ => ?_)
      refine A_sipush (v := (-1002)) dX9_hear_25 (by decide +kernel) ?_
      refine A_iret dX9_hear_28 rfl rfl ?_
      exact ho g1 g2
  · refine Kn.s ?_
    refine A_if_ne (tgt := 18) dX9_hear_11 (by decide) (fun h => absurd h (by decide +kernel)) (fun _ => ?_)
    refine A_sipush (v := (-1001)) dX9_hear_14 (by decide +kernel) ?_
    refine A_iret dX9_hear_17 rfl rfl ?_
    exact hu g1
theorem c_hush {μ : MI} {ν : ML} {P : Po} (hP : P (some (.int (μ 29 0))) (fillX (up2 μ 29 0 0) 30 8 0) ν) : Ct mX9_hush 1 [.ref 0] μ ν P := by
  refine Ct.of (ls0 := [_, _]) (by decide) rfl (Nat.le_of_ble_eq_true rfl) rfl ?_
  refine A_aload_n dX9_hush_0 rfl ?_
  refine A_getR dX9_hush_1 flX9_41 rfl rfl ?_
  refine A_getI dX9_hush_4 flX9_162 rfl rfl ?_
  refine A_istore_n (ls1 := [_, _]) dX9_hush_7 (by decide) rfl rfl ?_
  refine A_aload_n dX9_hush_8 rfl ?_
  refine A_getR dX9_hush_9 flX9_41 rfl rfl ?_
  refine A_callV0 dX9_hush_12 mlX9_203 (by decide) rfl rfl (Nat.le_of_ble_eq_true rfl) (c_forget ?_)
  refine Kn.v ?_
  refine A_iload_n dX9_hush_15 rfl ?_
  refine A_iret dX9_hush_16 rfl rfl ?_
  exact hP
/-! the blame's cells: how many, the first, the second -/
abbrev Bl : Type := Int32 × Int32 × Int32
def blM (μ : MI) : Bl := (μ 32 0, μ 32 1, μ 32 2)
def blA (fit : Bool) (f g : Int32) (x : Bl) : Bl := if fit then (if x.1 = 0 then (x.1 + 1, f, g) else (x.1 + 1, x.2.1, x.2.2)) else x
theorem c_blForget {μ : MI} {ν : ML} {P : Po} (hP : ∀ μ', blM μ' = (0, -1, -1) → Fr 32 1 μ μ' → P none μ' ν) : Ct mX0_forget 0 [.ref 32] μ ν P := by
  refine Ct.of (ls0 := [_]) (by decide) rfl (Nat.le_of_ble_eq_true rfl) rfl ?_
  refine A_aload_n dX0_forget_0 rfl ?_
  refine A_iconst (v := nI 0) dX0_forget_1 (by decide +kernel) ?_
  refine A_put dX0_forget_2 fpX0_9 rfl rfl rfl rfl ?_
  refine A_aload_n dX0_forget_5 rfl ?_
  refine A_iconst (v := (-1)) dX0_forget_6 (by decide +kernel) ?_
  refine A_put dX0_forget_7 fpX0_15 rfl rfl rfl rfl ?_
  refine A_aload_n dX0_forget_10 rfl ?_
  refine A_iconst (v := (-1)) dX0_forget_11 (by decide +kernel) ?_
  refine A_put dX0_forget_12 fpX0_18 rfl rfl rfl rfl ?_
  refine A_vret dX0_forget_15 rfl ?_
  refine hP _ ?_ (((Fr.up (by omega) (by omega)).tr (Fr.up (by omega) (by omega))).tr (Fr.up (by omega) (by omega)))
  unfold blM
  simp (disch := omega) only [up2_b, up2_s]
  rfl
theorem c_blAdd (f g : Int32) {μ : MI} {ν : ML} {P : Po} (hP : ∀ μ', blM μ' = blA true f g (blM μ) → Fr 32 1 μ μ' → P none μ' ν) : Ct mX0_add 0 [.ref 32, .int f, .int g] μ ν P := by
  refine Ct.of (ls0 := [_, _, _]) (by decide) rfl (Nat.le_of_ble_eq_true rfl) rfl ?_
  refine A_aload_n dX0_add_0 rfl ?_
  refine A_getI dX0_add_1 flX0_9 rfl rfl ?_
  refine A_if_ne (tgt := 17) dX0_add_4 (by decide) (fun b4 => ?_) (fun b4 => ?_)
  · refine A_aload_n dX0_add_17 rfl ?_
    refine A_dup dX0_add_18 rfl ?_
    refine A_getI dX0_add_19 flX0_9 rfl rfl ?_
    refine A_iconst (v := nI 1) dX0_add_22 (by decide +kernel) ?_
    refine A_iadd dX0_add_23 ?_
    refine A_put dX0_add_24 fpX0_9 rfl rfl rfl rfl ?_
    refine A_vret dX0_add_27 rfl ?_
    refine hP _ ?_ (Fr.up (by omega) (by omega))
    unfold blM blA
    simp (disch := omega) only [up2_b, up2_s]
    rw [if_pos trivial, if_neg b4]
    rfl
  · refine A_aload_n dX0_add_7 rfl ?_
    refine A_iload_n dX0_add_8 rfl ?_
    refine A_put dX0_add_9 fpX0_15 rfl rfl rfl rfl ?_
    refine A_aload_n dX0_add_12 rfl ?_
    refine A_iload_n dX0_add_13 rfl ?_
    refine A_put dX0_add_14 fpX0_18 rfl rfl rfl rfl ?_
    refine A_aload_n dX0_add_17 rfl ?_
    refine A_dup dX0_add_18 rfl ?_
    refine A_getI dX0_add_19 flX0_9 rfl rfl ?_
    refine A_iconst (v := nI 1) dX0_add_22 (by decide +kernel) ?_
    refine A_iadd dX0_add_23 ?_
    refine A_put dX0_add_24 fpX0_9 rfl rfl rfl rfl ?_
    refine A_vret dX0_add_27 rfl ?_
    refine hP _ ?_ (((Fr.up (by omega) (by omega)).tr (Fr.up (by omega) (by omega))).tr (Fr.up (by omega) (by omega)))
    unfold blM blA
    simp (disch := omega) only [up2_b, up2_s]
    rw [if_pos trivial, if_pos b4]
    rfl
theorem c_faultsInEach {μ : MI} {ν : ML} {P : Po} (hP : P (some (.int (if μ 32 0 = 0 then -1 else if μ 32 1 = -1 then nI 0 else if μ 32 2 = -1 then nI 1 else nI 2))) μ ν) : Ct mX0_faultsInEach 0 [.ref 32] μ ν P := by
  refine Ct.of (ls0 := [_]) (by decide) rfl (Nat.le_of_ble_eq_true rfl) rfl ?_
  refine A_aload_n dX0_faultsInEach_0 rfl ?_
  refine A_getI dX0_faultsInEach_1 flX0_9 rfl rfl ?_
  refine A_if_ne (tgt := 9) dX0_faultsInEach_4 (by decide) (fun b4 => ?_) (fun b4 => ?_)
  · refine A_aload_n dX0_faultsInEach_9 rfl ?_
    refine A_getI dX0_faultsInEach_10 flX0_15 rfl rfl ?_
    refine A_iconst (v := (-1)) dX0_faultsInEach_13 (by decide +kernel) ?_
    refine A_icmp_ne (tgt := 21) dX0_faultsInEach_14 (by decide) (fun b14 => ?_) (fun b14 => ?_)
    · refine A_aload_n dX0_faultsInEach_21 rfl ?_
      refine A_getI dX0_faultsInEach_22 flX0_18 rfl rfl ?_
      refine A_iconst (v := (-1)) dX0_faultsInEach_25 (by decide +kernel) ?_
      refine A_icmp_ne (tgt := 33) dX0_faultsInEach_26 (by decide) (fun b26 => ?_) (fun b26 => ?_)
      · refine A_iconst (v := nI 2) dX0_faultsInEach_33 (by decide +kernel) ?_
        refine A_iret dX0_faultsInEach_34 rfl rfl ?_
        rw [if_neg b4, if_neg b14, if_neg b26] at hP; exact hP
      · refine A_iconst (v := nI 1) dX0_faultsInEach_29 (by decide +kernel) ?_
        refine A_goto (tgt := 34) dX0_faultsInEach_30 (by decide) ?_
        refine A_iret dX0_faultsInEach_34 rfl rfl ?_
        rw [if_neg b4, if_neg b14, if_pos b26] at hP; exact hP
    · refine A_iconst (v := nI 0) dX0_faultsInEach_17 (by decide +kernel) ?_
      refine A_goto (tgt := 34) dX0_faultsInEach_18 (by decide) ?_
      refine A_iret dX0_faultsInEach_34 rfl rfl ?_
      rw [if_neg b4, if_pos b14] at hP; exact hP
  · refine A_iconst (v := (-1)) dX0_faultsInEach_7 (by decide +kernel) ?_
    refine A_iret dX0_faultsInEach_8 rfl rfl ?_
    rw [if_pos b4] at hP; exact hP
/-- the twist of two faults (-1: none) -/
def twF (f g : Int32) : MI := fun k j => if k = 2 then (if f = nI j ∨ g = nI j then 1 else 0) else if k = 3 then (if f = nI (j + 10) ∨ g = nI (j + 10) then 1 else 0) else if k = 4 then (if f = nI (j + 20) ∨ g = nI (j + 20) then 1 else 0) else 0
theorem twF_comm (f g : Int32) : twF f g = twF g f := by
  funext k j
  unfold twF
  simp only [Or.comm]
theorem twF_0 : ∀ j, j < 8 → twF (-1) (-1) 2 j = 0 ∧ twF (-1) (-1) 3 j = 0 ∧ twF (-1) (-1) 4 j = 0 := by decide +kernel
theorem nI_inj {a b : Nat} (ha : a < 100) (hb : b < 100) : nI a = nI b ↔ a = b := nI_eq (by omega) (by omega)
theorem c_failT (a f : Int32) {μ : MI} {ν : ML} {P : Po} (hT : TW 24 (twF a (-1)) μ) (hP : ∀ μ', TW 24 (twF a f) μ' → Fr 24 5 μ μ' → P none μ' ν) : Ct mX8_fail 1 [.ref 24, .int f] μ ν P := by
  have hm1 : ∀ j, j < 100 → ¬ (-1 : Int32) = nI j := by decide +kernel
  obtain ⟨t0, t1, t2⟩ := hT
  have key : ∀ (μ' : MI), Fr 24 5 μ μ' → μ' 24 0 = μ 24 0 → (∀ s, s < 4 → μ' 25 s = μ 25 s) → (∀ s, s < 4 → μ' 26 s = (if f = nI s then 1 else μ 26 s)) → (∀ b, b < 8 → μ' 27 b = (if f = nI (b + 10) then 1 else μ 27 b)) → (∀ b, b < 8 → μ' 28 b = (if f = nI (b + 20) then 1 else μ 28 b)) → TW 24 (twF a f) μ' := by
    intro μ' hF h0 h1 h2 h3 h4
    refine ⟨h0.trans t0, fun s hs => ⟨(h1 s hs).trans (t1 s hs).1, ?_⟩, fun b hb => ⟨?_, ?_⟩⟩
    · have e := (t1 s hs).2
      rw [show twF a (-1) 2 s = if a = nI s ∨ -1 = nI s then 1 else 0 from rfl] at e
      rw [h2 s hs]
      show _ = if a = nI s ∨ f = nI s then 1 else 0
      by_cases hf : f = nI s
      · rw [if_pos hf, if_pos (Or.inr hf)]
      · rw [if_neg hf]
        refine e.trans ?_
        by_cases ha : a = nI s
        · rw [if_pos (Or.inl ha), if_pos (Or.inl ha)]
        · rw [if_neg (fun q => q.elim ha (hm1 s (by omega))), if_neg (fun q => q.elim ha hf)]
    · have e := (t2 b hb).1
      rw [show twF a (-1) 3 b = if a = nI (b + 10) ∨ -1 = nI (b + 10) then 1 else 0 from rfl] at e
      rw [h3 b hb]
      show _ = if a = nI (b + 10) ∨ f = nI (b + 10) then 1 else 0
      by_cases hf : f = nI (b + 10)
      · rw [if_pos hf, if_pos (Or.inr hf)]
      · rw [if_neg hf]
        refine e.trans ?_
        by_cases ha : a = nI (b + 10)
        · rw [if_pos (Or.inl ha), if_pos (Or.inl ha)]
        · rw [if_neg (fun q => q.elim ha (hm1 _ (by omega))), if_neg (fun q => q.elim ha hf)]
    · have e := (t2 b hb).2
      rw [show twF a (-1) 4 b = if a = nI (b + 20) ∨ -1 = nI (b + 20) then 1 else 0 from rfl] at e
      rw [h4 b hb]
      show _ = if a = nI (b + 20) ∨ f = nI (b + 20) then 1 else 0
      by_cases hf : f = nI (b + 20)
      · rw [if_pos hf, if_pos (Or.inr hf)]
      · rw [if_neg hf]
        refine e.trans ?_
        by_cases ha : a = nI (b + 20)
        · rw [if_pos (Or.inl ha), if_pos (Or.inl ha)]
        · rw [if_neg (fun q => q.elim ha (hm1 _ (by omega))), if_neg (fun q => q.elim ha hf)]
  refine c_fail f (fun k hf hk => ?_) (fun k hf hk => ?_) (fun k hf hk => ?_) (fun g1 g2 g3 => ?_)
  · have hF : Fr 24 5 μ (up2 μ 26 k (nI 1)) := Fr.up (by omega) (by omega)
    refine hP _ (key _ hF (up2_a _ _ (by omega)) (fun s hs => up2_a _ _ (by omega)) (fun s hs => ?_) (fun b hb => ?_) (fun b hb => ?_)) hF
    · rw [hf]
      by_cases e : k = s
      · subst e; rw [if_pos rfl, up2_s]; rfl
      · rw [if_neg (fun q => by have := (nI_inj (by omega) (by omega)).mp q; omega), up2_b _ _ (by omega)]
    · rw [up2_a _ _ (by omega), hf, if_neg (fun q => by have := (nI_inj (by omega) (by omega)).mp q; omega)]
    · rw [up2_a _ _ (by omega), hf, if_neg (fun q => by have := (nI_inj (by omega) (by omega)).mp q; omega)]
  · have hF : Fr 24 5 μ (up2 μ 27 k (nI 1)) := Fr.up (by omega) (by omega)
    refine hP _ (key _ hF (up2_a _ _ (by omega)) (fun s hs => up2_a _ _ (by omega)) (fun s hs => ?_) (fun b hb => ?_) (fun b hb => ?_)) hF
    · rw [up2_a _ _ (by omega), hf, if_neg (fun q => by have := (nI_inj (by omega) (by omega)).mp q; omega)]
    · rw [hf]
      by_cases e : k = b
      · subst e; rw [if_pos rfl, up2_s]; rfl
      · rw [if_neg (fun q => by have := (nI_inj (by omega) (by omega)).mp q; omega), up2_b _ _ (by omega)]
    · rw [up2_a _ _ (by omega), hf, if_neg (fun q => by have := (nI_inj (by omega) (by omega)).mp q; omega)]
  · have hF : Fr 24 5 μ (up2 μ 28 k (nI 1)) := Fr.up (by omega) (by omega)
    refine hP _ (key _ hF (up2_a _ _ (by omega)) (fun s hs => up2_a _ _ (by omega)) (fun s hs => ?_) (fun b hb => ?_) (fun b hb => ?_)) hF
    · rw [up2_a _ _ (by omega), hf, if_neg (fun q => by have := (nI_inj (by omega) (by omega)).mp q; omega)]
    · rw [up2_a _ _ (by omega), hf, if_neg (fun q => by have := (nI_inj (by omega) (by omega)).mp q; omega)]
    · rw [hf]
      by_cases e : k = b
      · subst e; rw [if_pos rfl, up2_s]; rfl
      · rw [if_neg (fun q => by have := (nI_inj (by omega) (by omega)).mp q; omega), up2_b _ _ (by omega)]
  · refine hP μ (key μ Fr.rf rfl (fun _ _ => rfl) (fun s hs => ?_) (fun b hb => ?_) (fun b hb => ?_)) Fr.rf
    · rw [if_neg (fun q => g1 (by rw [q]; exact ⟨(nI_leI (by omega) (by omega)).mpr (by omega), (nI_leI (by omega) (by omega)).mpr (by omega)⟩))]
    · rw [if_neg (fun q => g2 (by rw [q]; exact ⟨(nI_leI (by omega) (by omega)).mpr (by omega), (nI_leI (by omega) (by omega)).mpr (by omega)⟩))]
    · rw [if_neg (fun q => g3 (by rw [q]; exact ⟨(nI_leI (by omega) (by omega)).mpr (by omega), (nI_leI (by omega) (by omega)).mpr (by omega)⟩))]
