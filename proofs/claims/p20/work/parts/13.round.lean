/-! bits; Integer.bitCount; likeness of flows; the round -/
def popN (k : Nat) : Nat → Nat
  | 0 => 0
  | m + 1 => popN k m + k / 2 ^ m % 2
def cntB (K : Nat → Bool) : Nat → Nat
  | 0 => 0
  | n + 1 => cntB K n + (if K n then 1 else 0)
theorem cntB_cong {K L : Nat → Bool} : ∀ {n : Nat}, (∀ k, k < n → K k = L k) → cntB K n = cntB L n
  | 0, _ => rfl
  | n + 1, h => by rw [cntB, cntB, cntB_cong (fun k hk => h k (by omega)), h n (by omega)]
theorem cntB_le (K : Nat → Bool) : ∀ n, cntB K n ≤ n
  | 0 => Nat.le_refl 0
  | n + 1 => by
    have := cntB_le K n
    rw [cntB]
    split <;> omega
theorem bitsN_div (K : Nat → Bool) (n b : Nat) : bitsN K n / 2 ^ b % 2 = if b < n ∧ K b = true then 1 else 0 := by
  have h := bitsN_bit K n b
  rw [Nat.testBit_eq_decide_div_mod_eq] at h
  by_cases e : b < n ∧ K b = true
  · rw [if_pos e]
    rw [show (decide (b < n) && K b) = true by simp [e.1, e.2]] at h
    exact of_decide_eq_true h
  · rw [if_neg e]
    rw [show (decide (b < n) && K b) = false by
      rw [Bool.and_eq_false_iff]
      by_cases h1 : b < n
      · exact Or.inr (by cases h2 : K b with | false => rfl | true => exact absurd ⟨h1, h2⟩ e)
      · exact Or.inl (by simp [h1])] at h
    have := of_decide_eq_false h
    omega
theorem popN_bits (K : Nat → Bool) (n : Nat) : ∀ m, popN (bitsN K n) m = cntB (fun b => decide (b < n) && K b) m
  | 0 => rfl
  | m + 1 => by
    rw [popN, cntB, popN_bits K n m, bitsN_div]
    congr 1
    by_cases e : m < n ∧ K m = true
    · rw [if_pos e, if_pos (by simp [e.1, e.2])]
    · rw [if_neg e, if_neg (by simpa using e)]
theorem cntB_ext (K : Nat → Bool) (n : Nat) : ∀ m, cntB (fun b => decide (b < n) && K b) (n + m) = cntB K n
  | 0 => cntB_cong (fun k hk => by simp [show k < n from hk])
  | m + 1 => by
    rw [← Nat.add_assoc, cntB, cntB_ext K n m]
    simp [show ¬ n + m < n by omega]
theorem popN_8 (K : Nat → Bool) {n : Nat} (h : n ≤ 8) : popN (bitsN K n) 8 = cntB K n := by
  have e := cntB_ext K n (8 - n)
  rw [show n + (8 - n) = 8 by omega] at e
  rw [popN_bits, e]
theorem ushr_bit (K : Nat → Bool) {n b : Nat} (hn : n ≤ 8) (hb : b < 8) : ((nI (bitsN K n)).toUInt32 >>> ((nI b).toUInt32 &&& Int32.toUInt32 31)).toInt32 &&& nI 1 = nI (if b < n ∧ K b = true then 1 else 0) := by
  have hl : bitsN K n < 256 := Nat.lt_of_lt_of_le (bitsN_lt K n) (Nat.pow_le_pow_right (by omega) hn)
  rw [nx_ush (by omega) (by omega), nx_and, Nat.and_one_is_mod, Nat.shiftRight_eq_div_pow, bitsN_div]
theorem sshr_bit (K : Nat → Bool) {n b : Nat} (hn : n ≤ 8) (hb : b < 8) : (nI (bitsN K n) >>> (nI b &&& 31)) &&& nI 1 = nI (if b < n ∧ K b = true then 1 else 0) := by
  have hl : bitsN K n < 256 := Nat.lt_of_lt_of_le (bitsN_lt K n) (Nat.pow_le_pow_right (by omega) hn)
  have hs : ∀ b, b < 8 → ((nI b &&& 31).toBitVec.smod 32).toNat = b := by decide +kernel
  rw [pk_shrN (by omega) _ b (hs b hb), nx_and, Nat.and_one_is_mod, bitsN_div]
def ush (x : Int32) (n : Nat) : Int32 := (x.toUInt32 >>> ((nI n).toUInt32 &&& Int32.toUInt32 31)).toInt32
def ib1 (x : Int32) : Int32 := x - (ush x 1 &&& 1431655765)
def ib2 (x : Int32) : Int32 := (x &&& 858993459) + (ush x 2 &&& 858993459)
def ib3 (x : Int32) : Int32 := (x + ush x 4) &&& 252645135
def ib4 (x : Int32) : Int32 := x + ush x 8
def ib5 (x : Int32) : Int32 := x + ush x 16
def ibc (x : Int32) : Int32 := ib5 (ib4 (ib3 (ib2 (ib1 x)))) &&& nI 63
theorem ibc_ok : ∀ k, k < 256 → ibc (nI k) = nI (popN k 8) := by decide +kernel
theorem c_ibc {k : Nat} (hk : k < 256) {μ : MI} {ν : ML} {P : Po} (hP : P (some (.int (nI (popN k 8)))) μ ν) : Ct mJ6_bitCount_0f7a4 0 [.int (nI k)] μ ν P := by
  rw [← ibc_ok k hk] at hP
  refine Ct.of (ls0 := [_]) (by decide) rfl (Nat.le_of_ble_eq_true rfl) rfl ?_
  refine A_iload_n dJ6_bitCount_0f7a4_0 rfl ?_
  refine A_iload_n dJ6_bitCount_0f7a4_1 rfl ?_
  refine A_iconst (v := nI 1) dJ6_bitCount_0f7a4_2 (by decide +kernel) ?_
  refine A_iushr dJ6_bitCount_0f7a4_3 ?_
  refine A_ldcw dJ6_bitCount_0f7a4_4 kcJ6_265 ?_
  refine A_iand dJ6_bitCount_0f7a4_7 ?_
  refine A_isub dJ6_bitCount_0f7a4_8 ?_
  refine A_istore_n (ls1 := [_]) dJ6_bitCount_0f7a4_9 (by decide) rfl rfl ?_
  refine A_iload_n dJ6_bitCount_0f7a4_10 rfl ?_
  refine A_ldcw dJ6_bitCount_0f7a4_11 kcJ6_266 ?_
  refine A_iand dJ6_bitCount_0f7a4_14 ?_
  refine A_iload_n dJ6_bitCount_0f7a4_15 rfl ?_
  refine A_iconst (v := nI 2) dJ6_bitCount_0f7a4_16 (by decide +kernel) ?_
  refine A_iushr dJ6_bitCount_0f7a4_17 ?_
  refine A_ldcw dJ6_bitCount_0f7a4_18 kcJ6_266 ?_
  refine A_iand dJ6_bitCount_0f7a4_21 ?_
  refine A_iadd dJ6_bitCount_0f7a4_22 ?_
  refine A_istore_n (ls1 := [_]) dJ6_bitCount_0f7a4_23 (by decide) rfl rfl ?_
  refine A_iload_n dJ6_bitCount_0f7a4_24 rfl ?_
  refine A_iload_n dJ6_bitCount_0f7a4_25 rfl ?_
  refine A_iconst (v := nI 4) dJ6_bitCount_0f7a4_26 (by decide +kernel) ?_
  refine A_iushr dJ6_bitCount_0f7a4_27 ?_
  refine A_iadd dJ6_bitCount_0f7a4_28 ?_
  refine A_ldcw dJ6_bitCount_0f7a4_29 kcJ6_267 ?_
  refine A_iand dJ6_bitCount_0f7a4_32 ?_
  refine A_istore_n (ls1 := [_]) dJ6_bitCount_0f7a4_33 (by decide) rfl rfl ?_
  refine A_iload_n dJ6_bitCount_0f7a4_34 rfl ?_
  refine A_iload_n dJ6_bitCount_0f7a4_35 rfl ?_
  refine A_bipush (v := nI 8) dJ6_bitCount_0f7a4_36 (by decide +kernel) ?_
  refine A_iushr dJ6_bitCount_0f7a4_38 ?_
  refine A_iadd dJ6_bitCount_0f7a4_39 ?_
  refine A_istore_n (ls1 := [_]) dJ6_bitCount_0f7a4_40 (by decide) rfl rfl ?_
  refine A_iload_n dJ6_bitCount_0f7a4_41 rfl ?_
  refine A_iload_n dJ6_bitCount_0f7a4_42 rfl ?_
  refine A_bipush (v := nI 16) dJ6_bitCount_0f7a4_43 (by decide +kernel) ?_
  refine A_iushr dJ6_bitCount_0f7a4_45 ?_
  refine A_iadd dJ6_bitCount_0f7a4_46 ?_
  refine A_istore_n (ls1 := [_]) dJ6_bitCount_0f7a4_47 (by decide) rfl rfl ?_
  refine A_iload_n dJ6_bitCount_0f7a4_48 rfl ?_
  refine A_bipush (v := nI 63) dJ6_bitCount_0f7a4_49 (by decide +kernel) ?_
  refine A_iand dJ6_bitCount_0f7a4_51 ?_
  refine A_iret dJ6_bitCount_0f7a4_52 rfl rfl ?_
  exact hP
theorem RX.com {f t b j : Nat} {S : St} {μ : MI} (h : RX f t S μ) (hb : b < 8) (hz : sC S b 20 = 0) (hj : j < 20) : μ (f + 6 + b) ((t + j) % 20) = sC S b j := by
  obtain ⟨h1, h2⟩ := h.2.2 b hb
  rcases Nat.eq_zero_or_pos j with rfl | q
  · rw [show t + 0 = t from rfl, h1, hz]
    exact Int32.add_zero _
  · exact h2 j q hj
def comB (S T : St) (b : Nat) : Bool := allB (fun i => decide (sC S b i = sC T b i)) 20
def likeB (nb : Nat) (S T : St) : Bool := allB (fun b => decide (sH S b = sH T b) && (decide (sD S b = sD T b) && comB S T b)) nb
theorem c_hasComing {f g w x t u b : Nat} (hF : FlowAt f w) (hG : FlowAt g x) (ht : t < 10000) (hu : u < 10000) (hb : b < 8) {S T : St} {μ : MI} {ν : ML} {P : Po} (hS : RX f t S μ) (hT : RX g u T μ) (hz : sC S b 20 = 0) (hz2 : sC T b 20 = 0) (h1 : comB S T b = true → P (some (.int (nI 1))) μ ν) (h0 : comB S T b = false → P (some (.int (nI 0))) μ ν) : Ct mX2_hasComing 0 [.ref f, .int (nI b), .ref g] μ ν P := by
  refine Ct.of (ls0 := [_, _, _, _]) (by decide) rfl (Nat.le_of_ble_eq_true rfl) rfl ?_
  have loop : ∀ (n i : Nat), 20 - i < n → i ≤ 20 → allB (fun i => decide (sC S b i = sC T b i)) i = true → AW mX2_hasComing (0, none) P 2 [some (.ref f), some (.int (nI b)), some (.ref g), some (.int (nI i))] [] μ ν := by
    intro n
    induction n with
    | zero => intro i h; omega
    | succ n ih =>
      intro i hn hi ha
      refine A_iload_n dX2_hasComing_2 rfl ?_
      refine A_bipush (v := nI 20) dX2_hasComing_3 (by decide +kernel) ?_
      refine A_icmp_geN (tgt := 51) dX2_hasComing_5 (by decide) (by omega) (by omega) (fun b5 => ?_) (fun b5 => ?_)
      · refine A_iconst (v := nI 1) dX2_hasComing_51 (by decide +kernel) ?_
        refine A_iret dX2_hasComing_52 rfl (by decide +kernel) ?_
        exact h1 (by rw [show i = 20 by omega] at ha; exact ha)
      · have hm1 : (t + i) % 20 < 20 := Nat.mod_lt _ (by omega)
        have hm2 : (u + i) % 20 < 20 := Nat.mod_lt _ (by omega)
        refine A_aload_n dX2_hasComing_8 rfl ?_
        refine A_getR dX2_hasComing_9 flX2_26 hF.l0 rfl ?_
        refine A_iload_n dX2_hasComing_12 rfl ?_
        refine A_aald (j := b) dX2_hasComing_13 hF.l5 rfl hb (by decide) (row_get f hb) ?_
        refine A_aload_n dX2_hasComing_14 rfl ?_
        refine A_getI dX2_hasComing_15 flX2_43 hF.l0 rfl ?_
        rw [hS.1.1]
        refine A_iload_n dX2_hasComing_18 rfl ?_
        refine A_iaddN dX2_hasComing_19 ?_
        refine A_bipush (v := nI 20) dX2_hasComing_20 (by decide +kernel) ?_
        refine A_iremN dX2_hasComing_22 (by omega) (by omega) (by omega) ?_
        refine A_ialdN (j := (t + i) % 20) dX2_hasComing_23 (hF.row hb) rfl hm1 (by decide) ?_
        rw [hS.com hb hz b5]
        refine A_aload_n dX2_hasComing_24 rfl ?_
        refine A_getR dX2_hasComing_25 flX2_26 hG.l0 rfl ?_
        refine A_iload_n dX2_hasComing_28 rfl ?_
        refine A_aald (j := b) dX2_hasComing_29 hG.l5 rfl hb (by decide) (row_get g hb) ?_
        refine A_aload_n dX2_hasComing_30 rfl ?_
        refine A_getI dX2_hasComing_31 flX2_43 hG.l0 rfl ?_
        rw [hT.1.1]
        refine A_iload_n dX2_hasComing_34 rfl ?_
        refine A_iaddN dX2_hasComing_35 ?_
        refine A_bipush (v := nI 20) dX2_hasComing_36 (by decide +kernel) ?_
        refine A_iremN dX2_hasComing_38 (by omega) (by omega) (by omega) ?_
        refine A_ialdN (j := (u + i) % 20) dX2_hasComing_39 (hG.row hb) rfl hm2 (by decide) ?_
        rw [hT.com hb hz2 b5]
        refine A_icmp_eq (tgt := 45) dX2_hasComing_40 (by decide) (fun b40 => ?_) (fun b40 => ?_)
        · refine A_iincN (ls1 := [_, _, _, _]) dX2_hasComing_45 rfl (by decide) rfl rfl ?_
          refine A_goto (tgt := 2) dX2_hasComing_48 (by decide) ?_
          exact ih (i + 1) (by omega) (by omega) (by rw [allB, ha]; simp [b40])
        · refine A_iconst (v := nI 0) dX2_hasComing_43 (by decide +kernel) ?_
          refine A_iret dX2_hasComing_44 rfl (by decide +kernel) ?_
          exact h0 (allB_f (k := i) b5 (by simpa using b40))
  refine A_iconst (v := nI 0) dX2_hasComing_0 (by decide +kernel) ?_
  refine A_istore_n (ls1 := [_, _, _, _]) dX2_hasComing_1 (by decide) rfl rfl ?_
  exact loop 21 0 (by omega) (by omega) rfl
theorem c_isLike {f g w x t u : Nat} (hF : FlowAt f w) (hG : FlowAt g x) (ht : t < 10000) (hu : u < 10000) {S T : St} {c μ : MI} {ν : ML} {P : Po} (hC : WC c) (hc : CX c μ) (hS : RX f t S μ) (hT : RX g u T μ) (hz : GC (N (c 2 0)) S) (hz2 : GC (N (c 2 0)) T) (h1 : likeB (N (c 2 0)) S T = true → P (some (.int (nI 1))) μ ν) (h0 : likeB (N (c 2 0)) S T = false → P (some (.int (nI 0))) μ ν) : Ct mX2_isLike 1 [.ref f, .ref g] μ ν P := by
  have hnb := hC.1.1
  have hnb8 := hnb.2
  refine Ct.of (ls0 := [_, _, _]) (by decide) rfl (Nat.le_of_ble_eq_true rfl) rfl ?_
  have loop : ∀ (n i : Nat), N (c 2 0) - i < n → i ≤ N (c 2 0) → allB (fun b => decide (sH S b = sH T b) && (decide (sD S b = sD T b) && comB S T b)) i = true → AW mX2_isLike (1, none) P 2 [some (.ref f), some (.ref g), some (.int (nI i))] [] μ ν := by
    intro n
    induction n with
    | zero => intro i h; omega
    | succ n ih =>
      intro i hn hi ha
      refine A_iload_n dX2_isLike_2 rfl ?_
      refine A_aload_n dX2_isLike_3 rfl ?_
      refine A_getR dX2_isLike_4 flX2_29 hF.l0 rfl ?_
      refine A_getR dX2_isLike_7 flX2_142 rfl rfl ?_
      refine A_getI dX2_isLike_10 flX2_146 rfl rfl ?_
      rw [(hc 2 (by omega) (by omega) 0), hnb.1]
      refine A_icmp_geN (tgt := 63) dX2_isLike_13 (by decide) (by omega) (by omega) (fun b13 => ?_) (fun b13 => ?_)
      · refine A_iconst (v := nI 1) dX2_isLike_63 (by decide +kernel) ?_
        refine A_iret dX2_isLike_64 rfl (by decide +kernel) ?_
        exact h1 (by rw [show i = N (c 2 0) by omega] at ha; exact ha)
      · have hi8 : i < 8 := by omega
        obtain ⟨g1, g2, g3, -⟩ := hS.2.1 i hi8
        obtain ⟨k1, k2, k3, -⟩ := hT.2.1 i hi8
        refine A_aload_n dX2_isLike_16 rfl ?_
        refine A_getR dX2_isLike_17 flX2_9 hF.l0 rfl ?_
        refine A_iload_n dX2_isLike_20 rfl ?_
        refine A_ialdN (j := i) dX2_isLike_21 hF.l1 rfl hi8 (by decide) ?_
        rw [g1]
        refine A_aload_n dX2_isLike_22 rfl ?_
        refine A_getR dX2_isLike_23 flX2_9 hG.l0 rfl ?_
        refine A_iload_n dX2_isLike_26 rfl ?_
        refine A_ialdN (j := i) dX2_isLike_27 hG.l1 rfl hi8 (by decide) ?_
        rw [k1]
        refine A_icmp_ne (tgt := 55) dX2_isLike_28 (by decide) (fun b28 => ?_) (fun b28 => ?_)
        · refine A_iconst (v := nI 0) dX2_isLike_55 (by decide +kernel) ?_
          refine A_iret dX2_isLike_56 rfl (by decide +kernel) ?_
          exact h0 (allB_f (k := i) b13 (by simp [b28]))
        · refine A_aload_n dX2_isLike_31 rfl ?_
          refine A_getR dX2_isLike_32 flX2_15 hF.l0 rfl ?_
          refine A_iload_n dX2_isLike_35 rfl ?_
          refine A_ialdN (j := i) dX2_isLike_36 hF.l2 rfl hi8 (by decide) ?_
          rw [g2]
          refine A_aload_n dX2_isLike_37 rfl ?_
          refine A_getR dX2_isLike_38 flX2_15 hG.l0 rfl ?_
          refine A_iload_n dX2_isLike_41 rfl ?_
          refine A_ialdN (j := i) dX2_isLike_42 hG.l2 rfl hi8 (by decide) ?_
          rw [k2]
          refine A_icmp_neN (tgt := 55) dX2_isLike_43 (by decide) (by omega) (by omega) (fun b43 => ?_) (fun b43 => ?_)
          · refine A_iconst (v := nI 0) dX2_isLike_55 (by decide +kernel) ?_
            refine A_iret dX2_isLike_56 rfl (by decide +kernel) ?_
            exact h0 (allB_f (k := i) b13 (by simp [b43]))
          · refine A_aload_n dX2_isLike_46 rfl ?_
            refine A_iload_n dX2_isLike_47 rfl ?_
            refine A_aload_n dX2_isLike_48 rfl ?_
            refine A_callV2 dX2_isLike_49 mlX2_176 (by decide) hF.l0 rfl (Nat.le_of_ble_eq_true rfl) (c_hasComing hF hG ht hu hi8 hS hT (hz.1 i 20 hi8 (by omega)) (hz2.1 i 20 hi8 (by omega)) (fun q => ?_) (fun q => ?_))
            · refine Kn.s ?_
              refine A_if_ne (tgt := 57) dX2_isLike_52 (by decide) (fun _ => ?_) (fun h => absurd h (by decide +kernel))
              refine A_iincN (ls1 := [_, _, _]) dX2_isLike_57 rfl (by decide) rfl rfl ?_
              refine A_goto (tgt := 2) dX2_isLike_60 (by decide) ?_
              exact ih (i + 1) (by omega) (by omega) (by rw [allB, ha]; simp [b28, b43, q])
            · refine Kn.s ?_
              refine A_if_ne (tgt := 57) dX2_isLike_52 (by decide) (fun h => absurd h (by decide +kernel)) (fun _ => ?_)
              refine A_iconst (v := nI 0) dX2_isLike_55 (by decide +kernel) ?_
              refine A_iret dX2_isLike_56 rfl (by decide +kernel) ?_
              exact h0 (allB_f (k := i) b13 (by simp [q]))
  refine A_iconst (v := nI 0) dX2_isLike_0 (by decide +kernel) ?_
  refine A_istore_n (ls1 := [_, _, _]) dX2_isLike_1 (by decide) rfl rfl ?_
  exact loop (N (c 2 0) + 1) 0 (by omega) (by omega) rfl
/-- the class's scratch alone changed: the twist, the blame, the two trial flows -/
def Sc (μ μ' : MI) : Prop := ∀ a, (a < 24 ∨ (29 ≤ a ∧ a ≠ 32 ∧ a < 47) ∨ 75 ≤ a) → ∀ j, μ' a j = μ a j
theorem Sc.rf (μ : MI) : Sc μ μ := fun _ _ _ => rfl
theorem Sc.tr {μ μ' μ'' : MI} (h : Sc μ μ') (h2 : Sc μ' μ'') : Sc μ μ'' := fun a ha j => (h2 a ha j).trans (h a ha j)
theorem Sc.fr {μ μ' : MI} {lo n : Nat} (hF : Fr lo n μ μ') (h : (24 ≤ lo ∧ lo + n ≤ 29) ∨ (47 ≤ lo ∧ lo + n ≤ 75)) : Sc μ μ' := fun a ha j => hF a (by omega) j
theorem Sc.fq {μ μ' : MI} {f : Nat} (hF : Fq f μ μ') (h : 47 ≤ f ∧ f ≤ 61) : Sc μ μ' := fun a ha j => hF a (by omega) (by omega) j
theorem Sc.cx {c μ μ' : MI} (hc : CX c μ) (h : Sc μ μ') : CX c μ' := fun k h1 h2 j => (h k (Or.inl (by omega)) j).trans (hc k h1 h2 j)
abbrev plP : MI := tw0 (nI 1)
/-- the course comes again after n ticks, seen from tick 1000 on -/
def goodL (c : MI) (n : Nat) : Bool := beatB c n && likeB (N (c 2 0)) (runP c plP (1000 + n)) (runP c plP 1000)
theorem beatB_cx {c μ : MI} (hc : CX c μ) (n : Nat) : beatB μ n = beatB c n := by
  unfold beatB
  rw [hc.row (a := 1) (by omega) (by omega), hc.row (a := 7) (by omega) (by omega), hc.row (a := 10) (by omega) (by omega)]
theorem RX.ext {f t : Nat} {S : St} {μ μ' : MI} (h : RX f t S μ) (e : ∀ a, a < 14 → ∀ j, μ' (f + a) j = μ (f + a) j) : RX f t S μ' := by
  refine ⟨⟨(e 0 (by omega) 2).trans h.1.1, (e 0 (by omega) 3).trans h.1.2.1, (e 0 (by omega) 4).trans h.1.2.2.1, (e 0 (by omega) 5).trans h.1.2.2.2⟩, fun b hb => ?_, fun b hb => ?_⟩
  · obtain ⟨h1, h2, h3, h4, h5⟩ := h.2.1 b hb
    exact ⟨(e 1 (by omega) b).trans h1, (e 2 (by omega) b).trans h2, h3, (e 3 (by omega) b).trans h4, (e 4 (by omega) b).trans h5⟩
  · obtain ⟨h1, h2⟩ := h.2.2 b hb
    have e2 : ∀ j, μ' (f + 6 + b) j = μ (f + 6 + b) j := fun j => by
      have := e (6 + b) (by omega) j
      rwa [← Nat.add_assoc] at this
    exact ⟨(e2 _).trans h1, fun j h0 h20 => (e2 _).trans (h2 j h0 h20)⟩
theorem RX.fq {f g t : Nat} {S : St} {μ μ' : MI} (h : RX f t S μ) (hl : f + 14 ≤ g ∨ g + 14 ≤ f) (hf : 29 ≤ f) (hF : Fq g μ μ') : RX f t S μ' := h.ext (fun a ha j => hF (f + a) (by omega) (by omega) j)
theorem RX.sc {t : Nat} {S : St} {μ μ' : MI} (h : RX 33 t S μ) (hF : Sc μ μ') : RX 33 t S μ' := h.ext (fun a ha j => hF (33 + a) (by omega) j)
theorem c_roundLength {c μ : MI} {ν : ML} {P : Po} (hC : WC c) (hc : CX c μ) (h1 : ∀ n μ', 1 ≤ n → n ≤ 969 → goodL c n = true → (∀ m, 1 ≤ m → m < n → goodL c m = false) → Sc μ μ' → P (some (.int (nI n))) μ' ν) (h0 : ∀ μ', (∀ m, 1 ≤ m → m ≤ 969 → goodL c m = false) → Sc μ μ' → P (some (.int (-1))) μ' ν) : Ct mX9_roundLength 5 [.ref 0] μ ν P := by
  refine Ct.of (ls0 := [_, _]) (by decide) rfl (Nat.le_of_ble_eq_true rfl) rfl ?_
  have hns := hC.2.1.1
  have hdr := hC.2.2.2.2
  have loop : ∀ (k i : Nat) (μ1 : MI), 970 - i < k → 1 ≤ i → i ≤ 970 → Sc μ μ1 → TW 24 plP μ1 → RX 47 1000 (runP c plP 1000) μ1 → RX 61 (1000 + (i - 1)) (runP c plP (1000 + (i - 1))) μ1 → (∀ m, 1 ≤ m → m < i → goodL c m = false) → AW mX9_roundLength (5, none) P 24 [some (.ref 0), some (.int (nI i))] [] μ1 ν := by
    intro k
    induction k with
    | zero => intro i μ1 h; omega
    | succ k ih =>
      intro i μ1 hk hi1 hi hS1 hT1 hR1 hR2 hg
      have hc1 := hS1.cx hc
      have hstep : runP c plP (1000 + i) = stepP c plP (1000 + (i - 1)) (runP c plP (1000 + (i - 1))) := by
        rw [show 1000 + i = 1000 + (i - 1) + 1 by omega]
        rfl
      refine A_bipush (v := nI 31) dX9_roundLength_24 (by decide +kernel) ?_
      refine A_iload_n dX9_roundLength_26 rfl ?_
      refine A_iaddN dX9_roundLength_27 ?_
      refine A_sipush (v := nI 1000) dX9_roundLength_28 (by decide +kernel) ?_
      refine A_icmp_gtN (tgt := 75) dX9_roundLength_31 (by decide) (by omega) (by omega) (fun b31 => ?_) (fun b31 => ?_)
      · refine A_iconst (v := (-1)) dX9_roundLength_75 (by decide +kernel) ?_
        refine A_iret dX9_roundLength_76 rfl rfl ?_
        exact h0 μ1 (fun m hm hm2 => hg m hm (by omega)) hS1
      · refine A_aload_n dX9_roundLength_34 rfl ?_
        refine A_getR dX9_roundLength_35 flX9_35 rfl rfl ?_
        refine A_callV0 dX9_roundLength_38 mlX9_163 (by decide) rfl rfl (Nat.le_of_ble_eq_true rfl) (c_stepC flow_61 (by omega) hC hc1 hT1 hR2 (GC_run hC _) (fun μ2 hR3 hF2 => ?_))
        refine Kn.s ?_
        refine A_pop dX9_roundLength_41 rfl ?_
        have hc2 := hc1.fr (by omega) hF2
        have hR4 := hR1.fr (Or.inl (by omega)) hF2
        rw [← hstep, show 1000 + (i - 1) + 1 = 1000 + i by omega] at hR3
        refine A_aload_n dX9_roundLength_42 rfl ?_
        refine A_getR dX9_roundLength_43 flX9_12 rfl rfl ?_
        refine A_iload_n dX9_roundLength_46 rfl ?_
        refine A_callV1 dX9_roundLength_47 mlX9_242 (by decide) rfl rfl (Nat.le_of_ble_eq_true rfl) (c_isBeat (by omega) ((hc2 7 (by omega) (by omega) 0).trans hns.1) hns.2 (fun s hs => by rw [hc2 10 (by omega) (by omega) s]; exact (hC.2.1.2 s hs).2.1.1) ((hc2 1 (by omega) (by omega) 4).trans hdr.1) hdr.2 (fun q => ?_) (fun q => ?_))
        · refine Kn.s ?_
          refine A_if_eq (tgt := 69) dX9_roundLength_50 (by decide) (fun h => absurd h (by decide +kernel)) (fun _ => ?_)
          refine A_aload_n dX9_roundLength_53 rfl ?_
          refine A_getR dX9_roundLength_54 flX9_35 rfl rfl ?_
          refine A_aload_n dX9_roundLength_57 rfl ?_
          refine A_getR dX9_roundLength_58 flX9_32 rfl rfl ?_
          refine A_callV1 dX9_roundLength_61 mlX9_245 (by decide) rfl rfl (Nat.le_of_ble_eq_true rfl) (c_isLike flow_61 flow_47 (by omega) (by omega) hC hc2 hR3 hR4 (GC_run hC _) (GC_run hC _) (fun q2 => ?_) (fun q2 => ?_))
          · refine Kn.s ?_
            refine A_if_eq (tgt := 69) dX9_roundLength_64 (by decide) (fun h => absurd h (by decide +kernel)) (fun _ => ?_)
            refine A_iload_n dX9_roundLength_67 rfl ?_
            refine A_iret dX9_roundLength_68 rfl rfl ?_
            exact h1 i μ2 hi1 (by omega) (by unfold goodL; rw [← beatB_cx hc2, q, q2]; rfl) hg (hS1.tr (Sc.fr hF2 (Or.inr (by omega))))
          · refine Kn.s ?_
            refine A_if_eq (tgt := 69) dX9_roundLength_64 (by decide) (fun _ => ?_) (fun h => absurd h (by decide +kernel))
            refine A_iincN (ls1 := [_, _]) dX9_roundLength_69 rfl (by decide) rfl rfl ?_
            refine A_goto (tgt := 24) dX9_roundLength_72 (by decide) ?_
            refine ih (i + 1) μ2 (by omega) (by omega) (by omega) (hS1.tr (Sc.fr hF2 (Or.inr (by omega)))) (hT1.fr (by omega) hF2) hR4 (by rw [show i + 1 - 1 = i by omega]; exact hR3) (fun m hm hm2 => ?_)
            by_cases e : m = i
            · subst e; unfold goodL; rw [q2]; simp
            · exact hg m hm (by omega)
        · refine Kn.s ?_
          refine A_if_eq (tgt := 69) dX9_roundLength_50 (by decide) (fun _ => ?_) (fun h => absurd h (by decide +kernel))
          refine A_iincN (ls1 := [_, _]) dX9_roundLength_69 rfl (by decide) rfl rfl ?_
          refine A_goto (tgt := 24) dX9_roundLength_72 (by decide) ?_
          refine ih (i + 1) μ2 (by omega) (by omega) (by omega) (hS1.tr (Sc.fr hF2 (Or.inr (by omega)))) (hT1.fr (by omega) hF2) hR4 (by rw [show i + 1 - 1 = i by omega]; exact hR3) (fun m hm hm2 => ?_)
          by_cases e : m = i
          · subst e; unfold goodL; rw [← beatB_cx hc2, q]; simp
          · exact hg m hm (by omega)
  refine A_aload_n dX9_roundLength_0 rfl ?_
  refine A_aload_n dX9_roundLength_1 rfl ?_
  refine A_getR dX9_roundLength_2 flX9_32 rfl rfl ?_
  refine A_sipush (v := nI 1000) dX9_roundLength_5 (by decide +kernel) ?_
  refine A_callV2 dX9_roundLength_8 mlX9_238 (by decide) rfl rfl (Nat.le_of_ble_eq_true rfl) (c_runPlain flow_47 (by omega) hC hc (fun μ1 hR1 hT1 hF1 => ?_))
  refine Kn.v ?_
  refine A_aload_n dX9_roundLength_11 rfl ?_
  refine A_aload_n dX9_roundLength_12 rfl ?_
  refine A_getR dX9_roundLength_13 flX9_35 rfl rfl ?_
  refine A_sipush (v := nI 1000) dX9_roundLength_16 (by decide +kernel) ?_
  refine A_callV2 dX9_roundLength_19 mlX9_238 (by decide) rfl rfl (Nat.le_of_ble_eq_true rfl) (c_runPlain flow_61 (by omega) hC (hF1.cx hc (by omega)) (fun μ2 hR2 hT2 hF2 => ?_))
  refine Kn.v ?_
  refine A_iconst (v := nI 1) dX9_roundLength_22 (by decide +kernel) ?_
  refine A_istore_n (ls1 := [_, _]) dX9_roundLength_23 (by decide) rfl rfl ?_
  exact loop 970 1 μ2 (by omega) (by omega) (by omega) ((Sc.fq hF1 (by omega)).tr (Sc.fq hF2 (by omega))) hT2 (hR1.fq (Or.inl (by omega)) (by omega) hF2) hR2 (fun m h2 h3 => by omega)
def likeA (c : MI) (L a : Nat) : Bool := likeB (N (c 2 0)) (runP c plP (a + L)) (runP c plP a)
theorem c_roundStart {L : Nat} (hL : L ≤ 969) {c μ : MI} {ν : ML} {P : Po} (hC : WC c) (hc : CX c μ) (h1 : ∀ a μ', 31 ≤ a → a + L ≤ 1000 → likeA c L a = true → (∀ m, 31 ≤ m → m < a → likeA c L m = false) → Sc μ μ' → P (some (.int (nI a))) μ' ν) (h0 : ∀ μ', (∀ m, 31 ≤ m → m + L ≤ 1000 → likeA c L m = false) → Sc μ μ' → P (some (.int (-1))) μ' ν) : Ct mX9_roundStart 5 [.ref 0, .int (nI L)] μ ν P := by
  refine Ct.of (ls0 := [_, _, _]) (by decide) rfl (Nat.le_of_ble_eq_true rfl) rfl ?_
  have loop : ∀ (k i : Nat) (μ1 : MI), 1001 - i < k → 31 ≤ i → i ≤ 1001 → Sc μ μ1 → TW 24 plP μ1 → RX 47 i (runP c plP i) μ1 → RX 61 (i + L) (runP c plP (i + L)) μ1 → (∀ m, 31 ≤ m → m < i → likeA c L m = false) → AW mX9_roundStart (5, none) P 25 [some (.ref 0), some (.int (nI L)), some (.int (nI i))] [] μ1 ν := by
    intro k
    induction k with
    | zero => intro i μ1 h; omega
    | succ k ih =>
      intro i μ1 hk hi1 hi hS1 hT1 hR1 hR2 hg
      have hc1 := hS1.cx hc
      refine A_iload_n dX9_roundStart_25 rfl ?_
      refine A_iload_n dX9_roundStart_26 rfl ?_
      refine A_iaddN dX9_roundStart_27 ?_
      refine A_sipush (v := nI 1000) dX9_roundStart_28 (by decide +kernel) ?_
      refine A_icmp_gtN (tgt := 72) dX9_roundStart_31 (by decide) (by omega) (by omega) (fun b31 => ?_) (fun b31 => ?_)
      · refine A_iconst (v := (-1)) dX9_roundStart_72 (by decide +kernel) ?_
        refine A_iret dX9_roundStart_73 rfl rfl ?_
        exact h0 μ1 (fun m hm hm2 => hg m hm (by omega)) hS1
      · refine A_aload_n dX9_roundStart_34 rfl ?_
        refine A_getR dX9_roundStart_35 flX9_35 rfl rfl ?_
        refine A_aload_n dX9_roundStart_38 rfl ?_
        refine A_getR dX9_roundStart_39 flX9_32 rfl rfl ?_
        refine A_callV1 dX9_roundStart_42 mlX9_245 (by decide) rfl rfl (Nat.le_of_ble_eq_true rfl) (c_isLike flow_61 flow_47 (by omega) (by omega) hC hc1 hR2 hR1 (GC_run hC _) (GC_run hC _) (fun q2 => ?_) (fun q2 => ?_))
        · refine Kn.s ?_
          refine A_if_eq (tgt := 50) dX9_roundStart_45 (by decide) (fun h => absurd h (by decide +kernel)) (fun _ => ?_)
          refine A_iload_n dX9_roundStart_48 rfl ?_
          refine A_iret dX9_roundStart_49 rfl rfl ?_
          exact h1 i μ1 hi1 (by omega) q2 hg hS1
        · refine Kn.s ?_
          refine A_if_eq (tgt := 50) dX9_roundStart_45 (by decide) (fun _ => ?_) (fun h => absurd h (by decide +kernel))
          refine A_aload_n dX9_roundStart_50 rfl ?_
          refine A_getR dX9_roundStart_51 flX9_32 rfl rfl ?_
          refine A_callV0 dX9_roundStart_54 mlX9_163 (by decide) rfl rfl (Nat.le_of_ble_eq_true rfl) (c_stepC flow_47 (by omega) hC hc1 hT1 hR1 (GC_run hC _) (fun μ2 hR3 hF2 => ?_))
          refine Kn.s ?_
          refine A_pop dX9_roundStart_57 rfl ?_
          refine A_aload_n dX9_roundStart_58 rfl ?_
          refine A_getR dX9_roundStart_59 flX9_35 rfl rfl ?_
          refine A_callV0 dX9_roundStart_62 mlX9_163 (by decide) rfl rfl (Nat.le_of_ble_eq_true rfl) (c_stepC flow_61 (by omega) hC (hc1.fr (by omega) hF2) (hT1.fr (by omega) hF2) (hR2.fr (Or.inr (by omega)) hF2) (GC_run hC _) (fun μ3 hR4 hF3 => ?_))
          refine Kn.s ?_
          refine A_pop dX9_roundStart_65 rfl ?_
          refine A_iincN (ls1 := [_, _, _]) dX9_roundStart_66 rfl (by decide) rfl rfl ?_
          refine A_goto (tgt := 25) dX9_roundStart_69 (by decide) ?_
          refine ih (i + 1) μ3 (by omega) (by omega) (by omega) ((hS1.tr (Sc.fr hF2 (Or.inr (by omega)))).tr (Sc.fr hF3 (Or.inr (by omega)))) ((hT1.fr (by omega) hF2).fr (by omega) hF3) (hR3.fr (Or.inl (by omega)) hF3) (by rw [show i + 1 + L = i + L + 1 by omega]; exact hR4) (fun m hm hm2 => ?_)
          by_cases e : m = i
          · subst e; exact q2
          · exact hg m hm (by omega)
  refine A_aload_n dX9_roundStart_0 rfl ?_
  refine A_aload_n dX9_roundStart_1 rfl ?_
  refine A_getR dX9_roundStart_2 flX9_32 rfl rfl ?_
  refine A_bipush (v := nI 31) dX9_roundStart_5 (by decide +kernel) ?_
  refine A_callV2 dX9_roundStart_7 mlX9_238 (by decide) rfl rfl (Nat.le_of_ble_eq_true rfl) (c_runPlain flow_47 (by omega) hC hc (fun μ1 hR1 hT1 hF1 => ?_))
  refine Kn.v ?_
  refine A_aload_n dX9_roundStart_10 rfl ?_
  refine A_aload_n dX9_roundStart_11 rfl ?_
  refine A_getR dX9_roundStart_12 flX9_35 rfl rfl ?_
  refine A_bipush (v := nI 31) dX9_roundStart_15 (by decide +kernel) ?_
  refine A_iload_n dX9_roundStart_17 rfl ?_
  refine A_iaddN dX9_roundStart_18 ?_
  refine A_callV2 dX9_roundStart_19 mlX9_238 (by decide) rfl rfl (Nat.le_of_ble_eq_true rfl) (c_runPlain flow_61 (by omega) hC (hF1.cx hc (by omega)) (fun μ2 hR2 hT2 hF2 => ?_))
  refine Kn.v ?_
  refine A_bipush (v := nI 31) dX9_roundStart_22 (by decide +kernel) ?_
  refine A_istore_n (ls1 := [_, _, _]) dX9_roundStart_24 (by decide) rfl rfl ?_
  exact loop 971 31 μ2 (by omega) (by omega) (by omega) ((Sc.fq hF1 (by omega)).tr (Sc.fq hF2 (by omega))) hT2 (hR1.fq (Or.inl (by omega)) (by omega) hF2) hR2 (fun m h2 h3 => by omega)
theorem c_round (what : Int32) {c μ : MI} {ν : ML} {P : Po} (hC : WC c) (hc : CX c μ) (hx : ¬ (nI 0 ≤ what ∧ what ≤ nI 1) → P (some (.int (-1002))) μ ν) (h0 : ∀ μ', nI 0 ≤ what → what ≤ nI 1 → (∀ m, 1 ≤ m → m ≤ 969 → goodL c m = false) → Sc μ μ' → P (some (.int (-1))) μ' ν) (h3 : ∀ n μ', nI 0 ≤ what → what ≤ nI 1 → 1 ≤ n → n ≤ 969 → goodL c n = true → (∀ m, 1 ≤ m → m < n → goodL c m = false) → (∀ m, 31 ≤ m → m + n ≤ 1000 → likeA c n m = false) → Sc μ μ' → P (some (.int (-1))) μ' ν) (h1 : ∀ n a μ', what = nI 1 → 1 ≤ n → n ≤ 969 → goodL c n = true → (∀ m, 1 ≤ m → m < n → goodL c m = false) → 31 ≤ a → a + n ≤ 1000 → likeA c n a = true → (∀ m, 31 ≤ m → m < a → likeA c n m = false) → Sc μ μ' → P (some (.int (nI n))) μ' ν)
    (h2 : ∀ n a μ', what = nI 0 → 1 ≤ n → n ≤ 969 → goodL c n = true → (∀ m, 1 ≤ m → m < n → goodL c m = false) → 31 ≤ a → a + n ≤ 1000 → likeA c n a = true → (∀ m, 31 ≤ m → m < a → likeA c n m = false) → Sc μ μ' → P (some (.int (nI a))) μ' ν) : Ct mX9_round 6 [.ref 0, .int what] μ ν P := by
  refine Ct.of (ls0 := [_, _, _, _]) (by decide) rfl (Nat.le_of_ble_eq_true rfl) rfl ?_
  refine A_iload_n dX9_round_0 rfl ?_
  refine A_iconst (v := nI 0) dX9_round_1 (by decide +kernel) ?_
  refine A_iconst (v := nI 1) dX9_round_2 (by decide +kernel) ?_
  refine A_callS3 dX9_round_3 mlX9_52 (by decide) (Nat.le_of_ble_eq_true rfl) (c_within _ _ _ (fun g1 g2 => ?_) (fun g3 => ?_))
  · refine Kn.s ?_
    refine A_if_ne (tgt := 13) dX9_round_6 (by decide) (fun _ => ?_) (fun h => absurd h (by decide +kernel))
    refine A_aload_n dX9_round_13 rfl ?_
    refine A_callV0 dX9_round_14 mlX9_181 (by decide) rfl rfl (Nat.le_of_ble_eq_true rfl) (c_roundLength hC hc (fun n μ1 q1 q2 q3 q4 q5 => ?_) (fun μ1 q3 q5 => ?_))
    · refine Kn.s ?_
      refine A_istore_n (ls1 := [_, _, _, _]) dX9_round_17 (by decide) rfl rfl ?_
      refine A_iload_n dX9_round_18 rfl ?_
      refine A_iconst (v := (-1)) dX9_round_19 (by decide +kernel) ?_
      refine A_icmp_ne (tgt := 27) dX9_round_20 (by decide) (fun b20 => ?_) (fun b20 => absurd b20 (fun e => nI_pos' (n := n) (by omega) |> fun h => by rw [e] at h; exact absurd h (by decide +kernel)))
      refine A_aload_n dX9_round_27 rfl ?_
      refine A_iload_n dX9_round_28 rfl ?_
      refine A_callV1 dX9_round_29 mlX9_184 (by decide) rfl rfl (Nat.le_of_ble_eq_true rfl) (c_roundStart q2 hC (q5.cx hc) (fun a μ2 k1 k2 k3 k4 k5 => ?_) (fun μ2 k4 k5 => ?_))
      · refine Kn.s ?_
        refine A_istore_n (ls1 := [_, _, _, _]) dX9_round_32 (by decide) rfl rfl ?_
        refine A_iload_n dX9_round_33 rfl ?_
        refine A_if_eq (tgt := 42) dX9_round_34 (by decide) (fun b34 => ?_) (fun b34 => ?_)
        · refine A_iload_n dX9_round_42 rfl ?_
          refine A_goto (tgt := 47) dX9_round_43 (by decide) ?_
          refine A_iret dX9_round_47 rfl rfl ?_
          exact h2 n a μ2 b34 q1 q2 q3 q4 k1 k2 k3 k4 (q5.tr k5)
        · have ew : what = nI 1 := by
            obtain ⟨j, hj, rfl⟩ := nI_of2 (M := nI 1) (n := 1) rfl (i_le_n g1) g2
            rcases (show j = 0 ∨ j = 1 by omega) with rfl | rfl
            · exact absurd rfl b34
            · rfl
          refine A_iload_n dX9_round_37 rfl ?_
          refine A_iconst (v := (-1)) dX9_round_38 (by decide +kernel) ?_
          refine A_icmp_ne (tgt := 46) dX9_round_39 (by decide) (fun b39 => ?_) (fun b39 => absurd b39 (fun e => nI_pos' (n := a) (by omega) |> fun h => by rw [e] at h; exact absurd h (by decide +kernel)))
          refine A_iload_n dX9_round_46 rfl ?_
          refine A_iret dX9_round_47 rfl rfl ?_
          exact h1 n a μ2 ew q1 q2 q3 q4 k1 k2 k3 k4 (q5.tr k5)
      · refine Kn.s ?_
        refine A_istore_n (ls1 := [_, _, _, _]) dX9_round_32 (by decide) rfl rfl ?_
        refine A_iload_n dX9_round_33 rfl ?_
        refine A_if_eq (tgt := 42) dX9_round_34 (by decide) (fun b34 => ?_) (fun b34 => ?_)
        · refine A_iload_n dX9_round_42 rfl ?_
          refine A_goto (tgt := 47) dX9_round_43 (by decide) ?_
          refine A_iret dX9_round_47 rfl rfl ?_
          exact h3 n μ2 g1 g2 q1 q2 q3 q4 k4 (q5.tr k5)
        · refine A_iload_n dX9_round_37 rfl ?_
          refine A_iconst (v := (-1)) dX9_round_38 (by decide +kernel) ?_
          refine A_icmp_ne (tgt := 46) dX9_round_39 (by decide) (fun h => absurd h (by decide +kernel)) (fun _ => ?_)
          refine A_iload_n dX9_round_42 rfl ?_
          refine A_goto (tgt := 47) dX9_round_43 (by decide) ?_
          refine A_iret dX9_round_47 rfl rfl ?_
          exact h3 n μ2 g1 g2 q1 q2 q3 q4 k4 (q5.tr k5)
    · refine Kn.s ?_
      refine A_istore_n (ls1 := [_, _, _, _]) dX9_round_17 (by decide) rfl rfl ?_
      refine A_iload_n dX9_round_18 rfl ?_
      refine A_iconst (v := (-1)) dX9_round_19 (by decide +kernel) ?_
      refine A_icmp_ne (tgt := 27) dX9_round_20 (by decide) (fun h => absurd h (by decide +kernel)) (fun _ => ?_)
      refine A_iconst (v := (-1)) dX9_round_23 (by decide +kernel) ?_
      refine A_goto (tgt := 32) dX9_round_24 (by decide) ?_
      refine A_istore_n (ls1 := [_, _, _, _]) dX9_round_32 (by decide) rfl rfl ?_
      refine A_iload_n dX9_round_33 rfl ?_
      refine A_if_eq (tgt := 42) dX9_round_34 (by decide) (fun b34 => ?_) (fun b34 => ?_)
      · refine A_iload_n dX9_round_42 rfl ?_
        refine A_goto (tgt := 47) dX9_round_43 (by decide) ?_
        refine A_iret dX9_round_47 rfl rfl ?_
        exact h0 μ1 g1 g2 q3 q5
      · refine A_iload_n dX9_round_37 rfl ?_
        refine A_iconst (v := (-1)) dX9_round_38 (by decide +kernel) ?_
        refine A_icmp_ne (tgt := 46) dX9_round_39 (by decide) (fun h => absurd h (by decide +kernel)) (fun _ => ?_)
        refine A_iload_n dX9_round_42 rfl ?_
        refine A_goto (tgt := 47) dX9_round_43 (by decide) ?_
        refine A_iret dX9_round_47 rfl rfl ?_
        exact h0 μ1 g1 g2 q3 q5
  · refine Kn.s ?_
    refine A_if_ne (tgt := 13) dX9_round_6 (by decide) (fun h => absurd h (by decide +kernel)) (fun _ => ?_)
    refine A_sipush (v := (-1002)) dX9_round_9 (by decide +kernel) ?_
    refine A_iret dX9_round_12 rfl rfl ?_
    exact hx g3
