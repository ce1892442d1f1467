/-! the flow: its cells against a course's state, cell by cell -/
def setH (b : Nat) (v : Int32) (S : St) : St := mkS (un (sH S) b v) (sD S) (sC S) (sQ S) (sK S) (sL S)
def setD (b : Nat) (v : Nat) (S : St) : St := mkS (sH S) (un (sD S) b v) (sC S) (sQ S) (sK S) (sL S)
def setQ (i : Nat) (v : Int32) (S : St) : St := mkS (sH S) (sD S) (sC S) (un (sQ S) i v) (sK S) (sL S)
def setK (b : Nat) (v : Int32) (S : St) : St := mkS (sH S) (sD S) (sC S) (sQ S) (un (sK S) b v) (sL S)
def setL (b : Nat) (v : Int32) (S : St) : St := mkS (sH S) (sD S) (sC S) (sQ S) (sK S) (un (sL S) b v)
theorem RX.setH {f t b : Nat} {S : St} {μ : MI} {v : Int32} (h : RX f t S μ) (hb : b < 8) : RX f t (setH b v S) (up2 μ (f + 1) b v) := by
  refine ⟨?_, fun a ha => ?_, fun a ha => ?_⟩
  · simp (disch := omega) only [up2_a]; exact h.1
  · have h2 := h.2.1 a ha
    by_cases e : a = b
    · subst e
      simp (disch := omega) only [up2_a, up2_s]
      exact ⟨(un_s _ _ _).symm, h2.2⟩
    · simp (disch := omega) only [up2_a, up2_b]
      exact ⟨h2.1.trans (un_n _ _ e).symm, h2.2⟩
  · simp (disch := omega) only [up2_a]; exact h.2.2 a ha
theorem RX.setD {f t b n : Nat} {S : St} {μ : MI} (h : RX f t S μ) (hb : b < 8) (hn : n ≤ 20) : RX f t (setD b n S) (up2 μ (f + 2) b (nI n)) := by
  refine ⟨?_, fun a ha => ?_, fun a ha => ?_⟩
  · simp (disch := omega) only [up2_a]; exact h.1
  · have h2 := h.2.1 a ha
    by_cases e : a = b
    · subst e
      simp (disch := omega) only [up2_a, up2_s]
      exact ⟨h2.1, by show nI n = nI (un (sD S) a n a); rw [un_s], by show un (sD S) a n a ≤ 20; rw [un_s]; exact hn, h2.2.2.2⟩
    · simp (disch := omega) only [up2_a, up2_b]
      exact ⟨h2.1, by show _ = nI (un (sD S) b n a); rw [un_n _ _ e]; exact h2.2.1, by show un (sD S) b n a ≤ 20; rw [un_n _ _ e]; exact h2.2.2.1, h2.2.2.2⟩
  · simp (disch := omega) only [up2_a]; exact h.2.2 a ha
theorem RX.setK {f t b : Nat} {S : St} {μ : MI} {v : Int32} (h : RX f t S μ) (hb : b < 8) : RX f t (setK b v S) (up2 μ (f + 3) b v) := by
  refine ⟨?_, fun a ha => ?_, fun a ha => ?_⟩
  · simp (disch := omega) only [up2_a]; exact h.1
  · have h2 := h.2.1 a ha
    by_cases e : a = b
    · subst e
      simp (disch := omega) only [up2_a, up2_s]
      exact ⟨h2.1, h2.2.1, h2.2.2.1, (un_s _ _ _).symm, h2.2.2.2.2⟩
    · simp (disch := omega) only [up2_a, up2_b]
      exact ⟨h2.1, h2.2.1, h2.2.2.1, h2.2.2.2.1.trans (un_n _ _ e).symm, h2.2.2.2.2⟩
  · simp (disch := omega) only [up2_a]; exact h.2.2 a ha
theorem RX.setL {f t b : Nat} {S : St} {μ : MI} {v : Int32} (h : RX f t S μ) (hb : b < 8) : RX f t (setL b v S) (up2 μ (f + 4) b v) := by
  refine ⟨?_, fun a ha => ?_, fun a ha => ?_⟩
  · simp (disch := omega) only [up2_a]; exact h.1
  · have h2 := h.2.1 a ha
    by_cases e : a = b
    · subst e
      simp (disch := omega) only [up2_a, up2_s]
      exact ⟨h2.1, h2.2.1, h2.2.2.1, h2.2.2.2.1, (un_s _ _ _).symm⟩
    · simp (disch := omega) only [up2_a, up2_b]
      exact ⟨h2.1, h2.2.1, h2.2.2.1, h2.2.2.2.1, h2.2.2.2.2.trans (un_n _ _ e).symm⟩
  · simp (disch := omega) only [up2_a]; exact h.2.2 a ha
theorem RX.setQ {f t i : Nat} {S : St} {μ : MI} {v : Int32} (h : RX f t S μ) (hi : i < 3) : RX f t (setQ i v S) (up2 μ f (3 + i) v) := by
  obtain ⟨h1, h2, h3, h4⟩ := h.1
  refine ⟨?_, fun a ha => ?_, fun a ha => ?_⟩
  · have hu : ∀ k, k < 3 → up2 μ f (3 + i) v f (3 + k) = un (sQ S) i v k := by
      intro k hk
      by_cases e : k = i
      · subst e
        rw [up2_s, un_s]
      · rw [up2_b _ _ (by omega), un_n _ _ e]
        rcases (show k = 0 ∨ k = 1 ∨ k = 2 by omega) with rfl | rfl | rfl
        · exact h2
        · exact h3
        · exact h4
    exact ⟨by rw [up2_b _ _ (by omega)]; exact h1, hu 0 (by omega), hu 1 (by omega), hu 2 (by omega)⟩
  · simp (disch := omega) only [up2_a]; exact h.2.1 a ha
  · simp (disch := omega) only [up2_a]; exact h.2.2 a ha
theorem mod20 {t j i : Nat} (hj : j < 20) (hi : i < 20) : (t + j) % 20 = (t + i) % 20 ↔ j = i := by omega
theorem RX.addC {f t b j : Nat} {S : St} {μ : MI} {v : Int32} (h : RX f t S μ) (hb : b < 8) (h0 : 0 < j) (h20 : j ≤ 20) : RX f t (setC b j (sC S b j + v) S) (up2 μ (f + 6 + b) ((t + j) % 20) (μ (f + 6 + b) ((t + j) % 20) + v)) := by
  refine ⟨?_, fun a ha => ?_, fun a ha => ?_⟩
  · simp (disch := omega) only [up2_a]; exact h.1
  · simp (disch := omega) only [up2_a]; exact h.2.1 a ha
  · obtain ⟨h1, h2⟩ := h.2.2 a ha
    by_cases e : a = b
    · subst e
      by_cases hj : j = 20
      · subst hj
        have e20 : (t + 20) % 20 = t % 20 := by omega
        rw [e20]
        refine ⟨?_, fun i hi0 hi => ?_⟩
        · rw [up2_s]
          show _ = up2 (sC S) a 20 (sC S a 20 + v) a 0 + up2 (sC S) a 20 (sC S a 20 + v) a 20
          rw [up2_s, up2_b _ _ (by omega), h1]
          exact Int32.add_assoc _ _ _
        · rw [up2_b _ _ (by omega)]
          show _ = up2 (sC S) a 20 (sC S a 20 + v) a i
          rw [up2_b _ _ (by omega)]
          exact h2 i hi0 hi
      · refine ⟨?_, fun i hi0 hi => ?_⟩
        · rw [up2_b _ _ (by omega)]
          show _ = up2 (sC S) a j (sC S a j + v) a 0 + up2 (sC S) a j (sC S a j + v) a 20
          rw [up2_b _ _ (by omega), up2_b _ _ (by omega)]
          exact h1
        · show _ = up2 (sC S) a j (sC S a j + v) a i
          by_cases ei : i = j
          · subst ei
            rw [up2_s, up2_s, h2 i hi0 hi]
          · rw [up2_b _ _ (by omega), up2_b _ _ ei]
            exact h2 i hi0 hi
    · simp (disch := omega) only [up2_a]
      refine ⟨?_, fun i hi0 hi => ?_⟩
      · show _ = up2 (sC S) b j (sC S b j + v) a 0 + up2 (sC S) b j (sC S b j + v) a 20
        rw [up2_a _ _ e, up2_a _ _ e]
        exact h1
      · show _ = up2 (sC S) b j (sC S b j + v) a i
        rw [up2_a _ _ e]
        exact h2 i hi0 hi
theorem RX.clr {f t b : Nat} {S : St} {μ : MI} (h : RX f t S μ) (hb : b < 8) (hz : sC S b 20 = 0) : RX f t (setC b 0 0 S) (up2 μ (f + 6 + b) (t % 20) 0) := by
  refine ⟨?_, fun a ha => ?_, fun a ha => ?_⟩
  · simp (disch := omega) only [up2_a]; exact h.1
  · simp (disch := omega) only [up2_a]; exact h.2.1 a ha
  · obtain ⟨h1, h2⟩ := h.2.2 a ha
    by_cases e : a = b
    · subst e
      refine ⟨?_, fun i hi0 hi => ?_⟩
      · rw [up2_s]
        show _ = up2 (sC S) a 0 0 a 0 + up2 (sC S) a 0 0 a 20
        rw [up2_s, up2_b _ _ (by omega), hz]
        rfl
      · rw [up2_b _ _ (by omega)]
        show _ = up2 (sC S) a 0 0 a i
        rw [up2_b _ _ (by omega)]
        exact h2 i hi0 hi
    · simp (disch := omega) only [up2_a]
      refine ⟨?_, fun i hi0 hi => ?_⟩
      · show _ = up2 (sC S) b 0 0 a 0 + up2 (sC S) b 0 0 a 20
        rw [up2_a _ _ e, up2_a _ _ e]
        exact h1
      · show _ = up2 (sC S) b 0 0 a i
        rw [up2_a _ _ e]
        exact h2 i hi0 hi
theorem RX.shift {f t : Nat} {S : St} {μ : MI} (h : RX f t S μ) (h0 : ∀ b, b < 8 → sC S b 0 = 0) (h21 : ∀ b, b < 8 → sC S b 21 = 0) : RX f (t + 1) (shiftP S) (up2 μ f 2 (nI (t + 1))) := by
  obtain ⟨g1, g2, g3, g4⟩ := h.1
  refine ⟨?_, fun a ha => ?_, fun a ha => ?_⟩
  · exact ⟨up2_s _ _ _ _, by rw [up2_b _ _ (by omega)]; exact g2, by rw [up2_b _ _ (by omega)]; exact g3, by rw [up2_b _ _ (by omega)]; exact g4⟩
  · simp (disch := omega) only [up2_a]; exact h.2.1 a ha
  · obtain ⟨h1, h2⟩ := h.2.2 a ha
    simp (disch := omega) only [up2_a]
    refine ⟨?_, fun i hi0 hi => ?_⟩
    · show _ = sC S a 1 + sC S a 21
      rw [h21 a ha, h2 1 (by omega) (by omega)]
      exact (Int32.add_zero _).symm
    · show _ = sC S a (i + 1)
      by_cases e : i = 19
      · subst e
        rw [show (t + 1 + 19) % 20 = t % 20 by omega, h1, h0 a ha]
        exact Int32.zero_add _
      · rw [show t + 1 + i = t + (i + 1) by omega]
        exact h2 (i + 1) (by omega) (by omega)
theorem Fr.lt {f n a : Nat} {μ μ' : MI} (h : Fr f n μ μ') (ha : a < f) (j : Nat) : μ' a j = μ a j := h a (Or.inl ha) j
def pourX (f b : Nat) (v : Int32) (μ : MI) : MI := if μ (f + 2) b = 0 then up2 μ (f + 1) b (μ (f + 1) b + v) else up2 μ f 4 (μ f 4 + v)
theorem pourX_Fr (f b : Nat) (v : Int32) (μ : MI) : Fr f 14 μ (pourX f b v μ) := by
  unfold pourX
  split
  · exact Fr.up (by omega) (by omega)
  · exact Fr.up (by omega) (by omega)
theorem RX.pour {f t b : Nat} {S : St} {μ : MI} (h : RX f t S μ) (hb : b < 8) (v : Int32) : RX f t (pourP b v S) (pourX f b v μ) := by
  obtain ⟨h1, h2, h3, -⟩ := h.2.1 b hb
  unfold pourP pourX
  by_cases e : sD S b = 0
  · rw [if_pos e, if_pos (by rw [h2, e]; rfl), h1]
    exact h.setH hb
  · rw [if_neg e, if_neg (by rw [h2]; exact nI_ne0 (by omega) (by omega)), h.1.2.2.1]
    exact h.setQ (i := 1) (by omega)
theorem c_pour {f w b : Nat} (hF : FlowAt f w) (hb : b < 8) (v : Int32) {μ : MI} {ν : ML} {P : Po} (hP : P none (pourX f b v μ) ν) : Ct mX2_pour 0 [.ref f, .int (nI b), .int v] μ ν P := by
  refine Ct.of (ls0 := [_, _, _]) (by decide) rfl (Nat.le_of_ble_eq_true rfl) rfl ?_
  refine A_aload_n dX2_pour_0 rfl ?_
  refine A_getR dX2_pour_1 flX2_15 hF.l0 rfl ?_
  refine A_iload_n dX2_pour_4 rfl ?_
  refine A_ialdN (j := b) dX2_pour_5 hF.l2 rfl hb (by decide) ?_
  refine A_if_ne (tgt := 22) dX2_pour_6 (by decide) (fun b6 => ?_) (fun b6 => ?_)
  · refine A_aload_n dX2_pour_22 rfl ?_
    refine A_dup dX2_pour_23 rfl ?_
    refine A_getI dX2_pour_24 flX2_50 hF.l0 rfl ?_
    refine A_iload_n dX2_pour_27 rfl ?_
    refine A_iadd dX2_pour_28 ?_
    refine A_put dX2_pour_29 fpX2_50 hF.l0 rfl rfl rfl ?_
    refine A_vret dX2_pour_32 rfl ?_
    unfold pourX at hP; rw [if_neg b6] at hP; exact hP
  · refine A_aload_n dX2_pour_9 rfl ?_
    refine A_getR dX2_pour_10 flX2_9 hF.l0 rfl ?_
    refine A_iload_n dX2_pour_13 rfl ?_
    refine A_dup2 dX2_pour_14 rfl rfl ?_
    refine A_ialdN (j := b) dX2_pour_15 hF.l1 rfl hb (by decide) ?_
    refine A_iload_n dX2_pour_16 rfl ?_
    refine A_iadd dX2_pour_17 ?_
    refine A_iastN (j := b) dX2_pour_18 hF.l1 rfl hb (by decide) ?_
    refine A_goto (tgt := 32) dX2_pour_19 (by decide) ?_
    refine A_vret dX2_pour_32 rfl ?_
    unfold pourX at hP; rw [if_pos b6] at hP; exact hP
theorem c_isHeldBack {f w s t m : Nat} (hF : FlowAt f w) (hs : s < 4) {tw μ : MI} {ν : ML} {P : Po} (hT : TW w tw μ) (ht : μ f 2 = nI t) (hm : μ 12 0 = nI m) (hm8 : m ≤ 10) (h1 : heldB μ tw s t = true → P (some (.int (nI 1))) μ ν) (h0 : heldB μ tw s t = false → P (some (.int (nI 0))) μ ν) : Ct mX2_isHeldBack 1 [.ref f, .int (nI s)] μ ν P := by
  unfold heldB at h1 h0
  rw [← hT.1, ← (hT.2.1 s hs).2] at h1 h0
  refine Ct.of (ls0 := [_, _]) (by decide) rfl (Nat.le_of_ble_eq_true rfl) rfl ?_
  refine A_aload_n dX2_isHeldBack_0 rfl ?_
  refine A_getR dX2_isHeldBack_1 flX2_33 hF.l0 rfl ?_
  refine A_getR dX2_isHeldBack_4 flX2_129 hF.tw.l0 rfl ?_
  refine A_iload_n dX2_isHeldBack_7 rfl ?_
  refine A_zaldN (j := s) dX2_isHeldBack_8 hF.tw.l2 rfl hs (by decide) ?_
  refine A_if_ne (tgt := 40) dX2_isHeldBack_9 (by decide) (fun b9 => ?_) (fun b9 => ?_)
  · refine A_iconst (v := nI 1) dX2_isHeldBack_40 (by decide +kernel) ?_
    refine A_goto (tgt := 45) dX2_isHeldBack_41 (by decide) ?_
    refine A_iret dX2_isHeldBack_45 rfl (by decide +kernel) ?_
    exact h1 (by simp [b9])
  · refine A_aload_n dX2_isHeldBack_12 rfl ?_
    refine A_getR dX2_isHeldBack_13 flX2_33 hF.l0 rfl ?_
    refine A_getI dX2_isHeldBack_16 flX2_78 hF.tw.l0 rfl ?_
    refine A_if_ne (tgt := 44) dX2_isHeldBack_19 (by decide) (fun b19 => ?_) (fun b19 => ?_)
    · refine A_iconst (v := nI 0) dX2_isHeldBack_44 (by decide +kernel) ?_
      refine A_iret dX2_isHeldBack_45 rfl (by decide +kernel) ?_
      exact h0 (by simp [b9, b19])
    · refine A_aload_n dX2_isHeldBack_22 rfl ?_
      refine A_getR dX2_isHeldBack_23 flX2_29 hF.l0 rfl ?_
      refine A_getR dX2_isHeldBack_26 flX2_133 rfl rfl ?_
      refine A_iload_n dX2_isHeldBack_29 rfl ?_
      refine A_aload_n dX2_isHeldBack_30 rfl ?_
      refine A_getI dX2_isHeldBack_31 flX2_43 hF.l0 rfl ?_
      rw [ht]
      refine A_callV2 dX2_isHeldBack_34 mlX2_137 (by decide) rfl rfl (Nat.le_of_ble_eq_true rfl) (c_sitOn hm hm8 (fun g => ?_) (fun g => ?_))
      · refine Kn.s ?_
        refine A_if_eq (tgt := 44) dX2_isHeldBack_37 (by decide) (fun h => absurd h (by decide +kernel)) (fun _ => ?_)
        refine A_iconst (v := nI 1) dX2_isHeldBack_40 (by decide +kernel) ?_
        refine A_goto (tgt := 45) dX2_isHeldBack_41 (by decide) ?_
        refine A_iret dX2_isHeldBack_45 rfl (by decide +kernel) ?_
        exact h1 (by simp [b9, b19, g])
      · refine Kn.s ?_
        refine A_if_eq (tgt := 44) dX2_isHeldBack_37 (by decide) (fun _ => ?_) (fun h => absurd h (by decide +kernel))
        refine A_iconst (v := nI 0) dX2_isHeldBack_44 (by decide +kernel) ?_
        refine A_iret dX2_isHeldBack_45 rfl (by decide +kernel) ?_
        exact h0 (by simp [b9, b19, g])
theorem c_takeDrips {f w t : Nat} (hF : FlowAt f w) {S : St} {tw μ : MI} {ν : ML} {P : Po} (ht : t < 10000) (hC : WC μ) (hR : RX f t S μ) (hT : TW w tw μ) (hP : ∀ μ', RX f t (dripsP μ tw t (N (μ 7 0)) S) μ' → Fr f 14 μ μ' → P none μ' ν) : Ct mX2_takeDrips 2 [.ref f] μ ν P := by
  obtain ⟨⟨hnb, hB⟩, ⟨hns, hS⟩, hnf, ⟨hnw, hWe⟩, hdr⟩ := hC
  have hr := hF.rng
  have hns4 := hns.2
  have hnb8 := hnb.2
  refine Ct.of (ls0 := [_, _, _, _]) (by decide) rfl (Nat.le_of_ble_eq_true rfl) rfl ?_
  have loop : ∀ (n i : Nat) (μ1 : MI), N (μ 7 0) - i < n → i ≤ N (μ 7 0) → RX f t (dripsP μ tw t i S) μ1 → Fr f 14 μ μ1 → AW mX2_takeDrips (2, none) P 31 [some (.ref f), some (.int (if tw 0 0 = 0 then wetP μ t else 0)), some (.int (nI i)), none] [] μ1 ν := by
    intro n
    induction n with
    | zero => intro i μ1 h; omega
    | succ n ih =>
      intro i μ1 hn hi hR1 hF1
      have hlow : ∀ a j, a < 33 → μ1 a j = μ a j := fun a j h => hF1 a (Or.inl (by omega)) j
      have hT1 : TW w tw μ1 := ⟨by rw [hlow _ _ (by omega)]; exact hT.1, fun s hs => by rw [hlow _ _ (by omega), hlow _ _ (by omega)]; exact hT.2.1 s hs, fun b hb => by rw [hlow _ _ (by omega), hlow _ _ (by omega)]; exact hT.2.2 b hb⟩
      have hdue : ∀ s, dueB μ1 s t = dueB μ s t := fun s => by unfold dueB; rw [hlow _ _ (by omega), hlow _ _ (by omega)]
      have hheld : ∀ s, heldB μ1 tw s t = heldB μ tw s t := fun s => by
        unfold heldB frogB
        rw [hlow 12 _ (by omega), anyB_cong (fun k _ => by rw [hlow 13 _ (by omega), hlow 14 _ (by omega), hlow 15 _ (by omega)])]
      have hstep : dripsP μ tw t (i + 1) S = dripP μ tw t i (dripsP μ tw t i S) := rfl
      refine A_iload_n dX2_takeDrips_31 rfl ?_
      refine A_aload_n dX2_takeDrips_32 rfl ?_
      refine A_getR dX2_takeDrips_33 flX2_29 hF.l0 rfl ?_
      refine A_getR dX2_takeDrips_36 flX2_94 rfl rfl ?_
      refine A_getI dX2_takeDrips_39 flX2_98 rfl rfl ?_
      rw [(hlow 7 0 (by omega)), hns.1]
      refine A_icmp_geN (tgt := 133) dX2_takeDrips_42 (by decide) (by omega) (by omega) (fun b42 => ?_) (fun b42 => ?_)
      · refine A_vret dX2_takeDrips_133 rfl ?_
        exact hP μ1 (by rw [show N (μ 7 0) = i by omega]; exact hR1) hF1
      · obtain ⟨⟨hto, hto2⟩, ⟨hev, hev0⟩, hfi⟩ := hS i b42
        refine A_aload_n dX2_takeDrips_45 rfl ?_
        refine A_getR dX2_takeDrips_46 flX2_29 hF.l0 rfl ?_
        refine A_getR dX2_takeDrips_49 flX2_94 rfl rfl ?_
        refine A_iload_n dX2_takeDrips_52 rfl ?_
        refine A_aload_n dX2_takeDrips_53 rfl ?_
        refine A_getI dX2_takeDrips_54 flX2_43 hF.l0 rfl ?_
        rw [hR1.1.1]
        refine A_callV2 dX2_takeDrips_57 mlX2_103 (by decide) rfl rfl (Nat.le_of_ble_eq_true rfl) (c_isDue (by omega) ht (by rw [hlow _ _ (by omega)]; exact hfi.1) hfi.2 (by rw [hlow _ _ (by omega)]; exact hev.1) hev.2 hev0 (fun g1 => ?_) (fun g1 => ?_))
        · refine Kn.s ?_
          refine A_if_eq (tgt := 127) dX2_takeDrips_60 (by decide) (fun h => absurd h (by decide +kernel)) (fun _ => ?_)
          refine A_aload_n dX2_takeDrips_63 rfl ?_
          refine A_iload_n dX2_takeDrips_64 rfl ?_
          refine A_callV1 dX2_takeDrips_65 mlX2_106 (by decide) hF.l0 rfl (Nat.le_of_ble_eq_true rfl) (c_isHeldBack hF (by omega) hT1 hR1.1.1 (by rw [hlow _ _ (by omega)]; exact hnf.1) hnf.2 (fun g2 => ?_) (fun g2 => ?_))
          · refine Kn.s ?_
            refine A_if_ne (tgt := 127) dX2_takeDrips_68 (by decide) (fun _ => ?_) (fun h => absurd h (by decide +kernel))
            refine A_iincN (ls1 := [_, _, _, _]) dX2_takeDrips_127 rfl (by decide) rfl rfl ?_
            refine A_goto (tgt := 31) dX2_takeDrips_130 (by decide) ?_
            refine A_weak (ih (i + 1) μ1 (by omega) (by omega) ?_ hF1) (by repeat first | exact fw_0 | refine fw_s ?_ | refine fw_n ?_)
            rw [hstep]; unfold dripP; rw [if_neg (by rw [← hdue, ← hheld, g1, g2]; decide)]; exact hR1
          · refine Kn.s ?_
            refine A_if_ne (tgt := 127) dX2_takeDrips_68 (by decide) (fun h => absurd h (by decide +kernel)) (fun _ => ?_)
            refine A_iconst (v := nI 0) dX2_takeDrips_71 (by decide +kernel) ?_
            refine A_aload_n dX2_takeDrips_72 rfl ?_
            refine A_getR dX2_takeDrips_73 flX2_29 hF.l0 rfl ?_
            refine A_getR dX2_takeDrips_76 flX2_94 rfl rfl ?_
            refine A_getR dX2_takeDrips_79 flX2_110 rfl rfl ?_
            refine A_iload_n dX2_takeDrips_82 rfl ?_
            refine A_ialdN (j := i) dX2_takeDrips_83 rfl rfl (by omega) (by decide) ?_
            refine A_aload_n dX2_takeDrips_84 rfl ?_
            refine A_getR dX2_takeDrips_85 flX2_33 hF.l0 rfl ?_
            refine A_getR dX2_takeDrips_88 flX2_113 hF.tw.l0 rfl ?_
            refine A_iload_n dX2_takeDrips_91 rfl ?_
            refine A_ialdN (j := i) dX2_takeDrips_92 hF.tw.l1 rfl (by omega) (by decide) ?_
            refine A_iadd dX2_takeDrips_93 ?_
            refine A_iload_n dX2_takeDrips_94 rfl ?_
            refine A_iadd dX2_takeDrips_95 ?_
            refine A_max dX2_takeDrips_96 mlX2_116 (by decide) (Nat.le_of_ble_eq_true rfl) ?_
            rw [hlow 9 i (by omega), (hT1.2.1 i (by omega)).1]
            have ew : (if nI 0 < μ 9 i + tw 1 i + (if tw 0 0 = 0 then wetP μ t else 0) then μ 9 i + tw 1 i + (if tw 0 0 = 0 then wetP μ t else 0) else nI 0) = waterP μ tw t i := rfl
            rw [ew]
            refine A_istore_n (ls1 := [_, _, _, _]) dX2_takeDrips_99 (by decide) rfl rfl ?_
            refine A_aload_n dX2_takeDrips_100 rfl ?_
            refine A_dup dX2_takeDrips_101 rfl ?_
            refine A_getI dX2_takeDrips_102 flX2_47 hF.l0 rfl ?_
            refine A_iload_n dX2_takeDrips_105 rfl ?_
            refine A_iadd dX2_takeDrips_106 ?_
            refine A_put dX2_takeDrips_107 fpX2_47 hF.l0 rfl rfl rfl ?_
            refine A_aload_n dX2_takeDrips_110 rfl ?_
            refine A_aload_n dX2_takeDrips_111 rfl ?_
            refine A_getR dX2_takeDrips_112 flX2_29 hF.l0 rfl ?_
            refine A_getR dX2_takeDrips_115 flX2_94 rfl rfl ?_
            refine A_getR dX2_takeDrips_118 flX2_122 rfl rfl ?_
            refine A_iload_n dX2_takeDrips_121 rfl ?_
            refine A_ialdN (j := i) dX2_takeDrips_122 rfl rfl (by omega) (by decide) ?_
            rw [up2_a _ _ (by omega), hlow 8 i (by omega), hto.1]
            refine A_iload_n dX2_takeDrips_123 rfl ?_
            refine A_callV2 dX2_takeDrips_124 mlX2_125 (by decide) hF.l0 rfl (Nat.le_of_ble_eq_true rfl) (c_pour hF (by omega) _ ?_)
            refine Kn.v ?_
            refine A_iincN (ls1 := [_, _, _, _]) dX2_takeDrips_127 rfl (by decide) rfl rfl ?_
            refine A_goto (tgt := 31) dX2_takeDrips_130 (by decide) ?_
            refine A_weak (ih (i + 1) _ (by omega) (by omega) ?_ ((hF1.tr (Fr.up (by omega) (by omega))).tr (pourX_Fr f _ _ _))) (by repeat first | exact fw_0 | refine fw_s ?_ | refine fw_n ?_)
            rw [hstep]; unfold dripP; rw [if_pos (by rw [← hdue, ← hheld, g1, g2]; decide)]
            have h3 := hR1.setQ (i := 0) (v := sQ (dripsP μ tw t i S) 0 + waterP μ tw t i) (by omega)
            rw [hR1.1.2.1]
            exact h3.pour (b := N (μ 8 i)) (by omega) _
        · refine Kn.s ?_
          refine A_if_eq (tgt := 127) dX2_takeDrips_60 (by decide) (fun _ => ?_) (fun h => absurd h (by decide +kernel))
          refine A_iincN (ls1 := [_, _, _, _]) dX2_takeDrips_127 rfl (by decide) rfl rfl ?_
          refine A_goto (tgt := 31) dX2_takeDrips_130 (by decide) ?_
          refine A_weak (ih (i + 1) μ1 (by omega) (by omega) ?_ hF1) (by repeat first | exact fw_0 | refine fw_s ?_ | refine fw_n ?_)
          rw [hstep]; unfold dripP; rw [if_neg (by rw [← hdue, g1]; simp)]; exact hR1
  have hpl : μ w 0 = tw 0 0 := hT.1
  refine A_aload_n dX2_takeDrips_0 rfl ?_
  refine A_getR dX2_takeDrips_1 flX2_33 hF.l0 rfl ?_
  refine A_getI dX2_takeDrips_4 flX2_78 hF.tw.l0 rfl ?_
  refine A_if_eq (tgt := 14) dX2_takeDrips_7 (by decide) (fun b7 => ?_) (fun b7 => ?_)
  · refine A_aload_n dX2_takeDrips_14 rfl ?_
    refine A_getR dX2_takeDrips_15 flX2_29 hF.l0 rfl ?_
    refine A_getR dX2_takeDrips_18 flX2_84 rfl rfl ?_
    refine A_aload_n dX2_takeDrips_21 rfl ?_
    refine A_getI dX2_takeDrips_22 flX2_43 hF.l0 rfl ?_
    rw [hR.1.1]
    refine A_callV1 dX2_takeDrips_25 mlX2_88 (by decide) rfl rfl (Nat.le_of_ble_eq_true rfl) (c_wetAt hnw.1 hnw.2 ?_)
    refine Kn.s ?_
    refine A_istore_n (ls1 := [_, _, _, _]) dX2_takeDrips_28 (by decide) rfl rfl ?_
    refine A_iconst (v := nI 0) dX2_takeDrips_29 (by decide +kernel) ?_
    refine A_istore_n (ls1 := [_, _, _, _]) dX2_takeDrips_30 (by decide) rfl rfl ?_
    rw [hpl] at b7
    have h9 := loop (N (μ 7 0) + 1) 0 μ (by omega) (by omega) hR Fr.rf
    rw [if_pos b7] at h9
    exact A_weak h9 (by repeat first | exact fw_0 | refine fw_s ?_ | refine fw_n ?_)
  · refine A_iconst (v := nI 0) dX2_takeDrips_10 (by decide +kernel) ?_
    refine A_goto (tgt := 28) dX2_takeDrips_11 (by decide) ?_
    refine A_istore_n (ls1 := [_, _, _, _]) dX2_takeDrips_28 (by decide) rfl rfl ?_
    refine A_iconst (v := nI 0) dX2_takeDrips_29 (by decide +kernel) ?_
    refine A_istore_n (ls1 := [_, _, _, _]) dX2_takeDrips_30 (by decide) rfl rfl ?_
    rw [hpl] at b7
    have h9 := loop (N (μ 7 0) + 1) 0 μ (by omega) (by omega) hR Fr.rf
    rw [if_neg b7] at h9
    exact A_weak h9 (by repeat first | exact fw_0 | refine fw_s ?_ | refine fw_n ?_)
