/-! the flow's tick, on: all buckets, the step, the beginning; likeness of two flows -/
theorem nI_or_bit {a i : Nat} (hi : i < 8) (ha : a < 2 ^ i) : nI a ||| (nI 1 <<< (nI i &&& 31)) = nI (a + 2 ^ i) := by
  have e : ∀ i, i < 8 → nI 1 <<< (nI i &&& 31) = nI (2 ^ i) := by decide +kernel
  rw [e i hi]
  have h2 : nI a ||| nI (2 ^ i) = nI (a ||| 2 ^ i) := by
    apply Int32.toBitVec_inj.mp
    show BitVec.ofNat 32 a ||| BitVec.ofNat 32 (2 ^ i) = BitVec.ofNat 32 (a ||| 2 ^ i)
    exact (BitVec.ofNat_or ..).symm
  rw [h2]
  congr 1
  have h3 := Nat.two_pow_add_eq_or_of_lt ha 1
  rw [Nat.mul_one] at h3
  rw [Nat.or_comm, ← h3, Nat.add_comm]
theorem c_tipAll {f w t : Nat} (hF : FlowAt f w) {S : St} {c tw μ : MI} {ν : ML} {P : Po} (ht : t < 10000) (hC : WC c) (hc : Sm c μ) (hT : TW w tw c) (hR : RX f t S μ) (hP : ∀ μ', RX f t (turnsP c tw t (N (c 2 0)) S) μ' → Fr f 14 μ μ' → P (some (.int (nI (bitsN (fun b => knB c tw b (turnsP c tw t b S)) (N (c 2 0)))))) μ' ν) : Ct mX2_tipAll 2 [.ref f] μ ν P := by
  have hnb := hC.1.1
  have hr := hF.rng
  have hnb8 := hnb.2
  refine Ct.of (ls0 := [_, _, _]) (by decide) rfl (Nat.le_of_ble_eq_true rfl) rfl ?_
  have loop : ∀ (n i : Nat) (μ1 : MI), N (c 2 0) - i < n → i ≤ N (c 2 0) → RX f t (turnsP c tw t i S) μ1 → Fr f 14 μ μ1 → AW mX2_tipAll (2, none) P 4 [some (.ref f), some (.int (nI (bitsN (fun b => knB c tw b (turnsP c tw t b S)) i))), some (.int (nI i))] [] μ1 ν := by
    intro n
    induction n with
    | zero => intro i μ1 h; omega
    | succ n ih =>
      intro i μ1 hn hi hR1 hF1
      have hlow := hc.fr hr.1 hF1
      have hstep : turnsP c tw t (i + 1) S = turnP c tw t i (turnsP c tw t i S) := rfl
      have hbits : ∀ q : Bool, knB c tw i (turnsP c tw t i S) = q → bitsN (fun b => knB c tw b (turnsP c tw t b S)) (i + 1) = bitsN (fun b => knB c tw b (turnsP c tw t b S)) i + (if q then 2 ^ i else 0) := fun q h => by rw [bitsN, h]
      refine A_iload_n dX2_tipAll_4 rfl ?_
      refine A_aload_n dX2_tipAll_5 rfl ?_
      refine A_getR dX2_tipAll_6 flX2_29 hF.l0 rfl ?_
      refine A_getR dX2_tipAll_9 flX2_142 rfl rfl ?_
      refine A_getI dX2_tipAll_12 flX2_146 rfl rfl ?_
      rw [(hlow 2 0 (by omega)), hnb.1]
      refine A_icmp_geN (tgt := 90) dX2_tipAll_15 (by decide) (by omega) (by omega) (fun b15 => ?_) (fun b15 => ?_)
      · refine A_iload_n dX2_tipAll_90 rfl ?_
        refine A_iret dX2_tipAll_91 rfl rfl ?_
        have e : N (c 2 0) = i := by omega
        rw [e] at hP
        exact hP μ1 hR1 hF1
      · have hi8 : i < 8 := by omega
        obtain ⟨g1, g2, g3, -⟩ := hR1.2.1 i hi8
        have hmu : μ1 (w + 3) i = tw 3 i := by rw [hlow _ _ (by omega)]; exact (hT.2.2 i hi8).1
        have h3 : μ1 3 i = c 3 i := hlow 3 i (by omega)
        refine A_aload_n dX2_tipAll_18 rfl ?_
        refine A_getR dX2_tipAll_19 flX2_15 hF.l0 rfl ?_
        refine A_iload_n dX2_tipAll_22 rfl ?_
        refine A_ialdN (j := i) dX2_tipAll_23 hF.l2 rfl hi8 (by decide) ?_
        rw [g2]
        refine A_if_le (tgt := 40) dX2_tipAll_24 (by decide) (fun b24 => ?_) (fun b24 => ?_)
        · refine A_aload_n dX2_tipAll_40 rfl ?_
          refine A_getR dX2_tipAll_41 flX2_9 hF.l0 rfl ?_
          refine A_iload_n dX2_tipAll_44 rfl ?_
          refine A_ialdN (j := i) dX2_tipAll_45 hF.l1 rfl hi8 (by decide) ?_
          refine A_aload_n dX2_tipAll_46 rfl ?_
          refine A_getR dX2_tipAll_47 flX2_29 hF.l0 rfl ?_
          refine A_getR dX2_tipAll_50 flX2_142 rfl rfl ?_
          refine A_getR dX2_tipAll_53 flX2_149 rfl rfl ?_
          refine A_iload_n dX2_tipAll_56 rfl ?_
          refine A_ialdN (j := i) dX2_tipAll_57 rfl rfl hi8 (by decide) ?_
          refine A_icmp_lt (tgt := 84) dX2_tipAll_58 (by decide) (fun b58 => ?_) (fun b58 => ?_)
          · refine A_iincN (ls1 := [_, _, _]) dX2_tipAll_84 rfl (by decide) rfl rfl ?_
            refine A_goto (tgt := 4) dX2_tipAll_87 (by decide) ?_
            have hd0 : sD (turnsP c tw t i S) i = 0 := by
              rcases Nat.eq_zero_or_pos (sD (turnsP c tw t i S) i) with q | q
              · exact q
              · exact absurd b24 (nI_nle q (by omega))
            have hk : knB c tw i (turnsP c tw t i S) = false := by unfold knB; rw [← g1, ← h3]; simp [i_lt_n b58]
            have h9 := ih (i + 1) μ1 (by omega) (by omega) (by rw [hstep]; unfold turnP; rw [if_neg (by omega), if_neg (by rw [hk]; decide)]; exact hR1) hF1
            rw [hbits false hk] at h9
            exact h9
          · refine A_aload_n dX2_tipAll_61 rfl ?_
            refine A_getR dX2_tipAll_62 flX2_33 hF.l0 rfl ?_
            refine A_getR dX2_tipAll_65 flX2_152 hF.tw.l0 rfl ?_
            refine A_iload_n dX2_tipAll_68 rfl ?_
            refine A_zaldN (j := i) dX2_tipAll_69 hF.tw.l3 rfl hi8 (by decide) ?_
            refine A_if_ne (tgt := 84) dX2_tipAll_70 (by decide) (fun b70 => ?_) (fun b70 => ?_)
            · refine A_iincN (ls1 := [_, _, _]) dX2_tipAll_84 rfl (by decide) rfl rfl ?_
              refine A_goto (tgt := 4) dX2_tipAll_87 (by decide) ?_
              have hd0 : sD (turnsP c tw t i S) i = 0 := by
                rcases Nat.eq_zero_or_pos (sD (turnsP c tw t i S) i) with q | q
                · exact q
                · exact absurd b24 (nI_nle q (by omega))
              have hk : knB c tw i (turnsP c tw t i S) = false := by unfold knB; rw [← hmu]; simp [b70]
              have h9 := ih (i + 1) μ1 (by omega) (by omega) (by rw [hstep]; unfold turnP; rw [if_neg (by omega), if_neg (by rw [hk]; decide)]; exact hR1) hF1
              rw [hbits false hk] at h9
              exact h9
            · refine A_aload_n dX2_tipAll_73 rfl ?_
              refine A_iload_n dX2_tipAll_74 rfl ?_
              refine A_callV1 dX2_tipAll_75 mlX2_155 (by decide) hF.l0 rfl (Nat.le_of_ble_eq_true rfl) (c_tip hF ht hC hlow hT hR1 (by omega) (fun μ2 hR2 hF2 => ?_))
              refine Kn.v ?_
              refine A_iload_n dX2_tipAll_78 rfl ?_
              refine A_iconst (v := nI 1) dX2_tipAll_79 (by decide +kernel) ?_
              refine A_iload_n dX2_tipAll_80 rfl ?_
              refine A_ishl dX2_tipAll_81 ?_
              refine A_ior dX2_tipAll_82 ?_
              refine A_istore_n (ls1 := [_, _, _]) dX2_tipAll_83 (by decide) rfl rfl ?_
              refine A_iincN (ls1 := [_, _, _]) dX2_tipAll_84 rfl (by decide) rfl rfl ?_
              refine A_goto (tgt := 4) dX2_tipAll_87 (by decide) ?_
              have hd0 : sD (turnsP c tw t i S) i = 0 := by
                rcases Nat.eq_zero_or_pos (sD (turnsP c tw t i S) i) with q | q
                · exact q
                · exact absurd b24 (nI_nle q (by omega))
              have hk : knB c tw i (turnsP c tw t i S) = true := by unfold knB; rw [← hmu, ← g1, ← h3]; simp [b70, hd0, i_nlt b58]
              have h9 := ih (i + 1) μ2 (by omega) (by omega) (by rw [hstep]; unfold turnP; rw [if_neg (by omega), if_pos hk]; exact hR2) (hF1.tr hF2)
              rw [hbits true hk] at h9
              rw [nI_or_bit hi8 (bitsN_lt _ _)]
              exact h9
        · refine A_aload_n dX2_tipAll_27 rfl ?_
          refine A_getR dX2_tipAll_28 flX2_15 hF.l0 rfl ?_
          refine A_iload_n dX2_tipAll_31 rfl ?_
          refine A_dup2 dX2_tipAll_32 rfl rfl ?_
          refine A_ialdN (j := i) dX2_tipAll_33 hF.l2 rfl hi8 (by decide) ?_
          rw [g2]
          refine A_iconst (v := nI 1) dX2_tipAll_34 (by decide +kernel) ?_
          refine A_isub dX2_tipAll_35 ?_
          refine A_iastN (j := i) dX2_tipAll_36 hF.l2 rfl hi8 (by decide) ?_
          refine A_goto (tgt := 84) dX2_tipAll_37 (by decide) ?_
          refine A_iincN (ls1 := [_, _, _]) dX2_tipAll_84 rfl (by decide) rfl rfl ?_
          refine A_goto (tgt := 4) dX2_tipAll_87 (by decide) ?_
          have hd0 : 0 < sD (turnsP c tw t i S) i := Nat.pos_of_ne_zero (fun e => b24 (by rw [e]; decide +kernel))
          have hk : knB c tw i (turnsP c tw t i S) = false := by unfold knB; simp [show ¬ sD (turnsP c tw t i S) i = 0 by omega]
          have h9 := ih (i + 1) _ (by omega) (by omega) (by rw [hstep]; unfold turnP; rw [if_pos hd0]; exact hR1.setD (n := sD (turnsP c tw t i S) i - 1) hi8 (by omega)) (hF1.tr (Fr.up (by omega) (by omega)))
          rw [hbits false hk] at h9
          rw [pk_sub (by omega)]
          exact h9
  refine A_iconst (v := nI 0) dX2_tipAll_0 (by decide +kernel) ?_
  refine A_istore_n (ls1 := [_, _, _]) dX2_tipAll_1 (by decide) rfl rfl ?_
  refine A_iconst (v := nI 0) dX2_tipAll_2 (by decide +kernel) ?_
  refine A_istore_n (ls1 := [_, _, _]) dX2_tipAll_3 (by decide) rfl rfl ?_
  exact loop (N (c 2 0) + 1) 0 μ (by omega) (by omega) hR Fr.rf
/-- a state ahead of a tick: nothing comes later than 20 ticks on, nothing to buckets that there are not -/
def GC (nb : Nat) (S : St) : Prop := (∀ b j, b < 8 → 20 ≤ j → sC S b j = 0) ∧ ∀ b, nb ≤ b → b < 8 → ∀ j, sC S b j = 0
theorem c_step {f w t : Nat} (hF : FlowAt f w) {S : St} {tw μ : MI} {ν : ML} {P : Po} (ht : t < 9000) (hC : WC μ) (hT : TW w tw μ) (hR : RX f t S μ) (hG : GC (N (μ 2 0)) S) (hP : ∀ μ', RX f (t + 1) (stepP μ tw t S) μ' → Fr f 14 μ μ' → P (some (.int (nI (bitsN (setP μ tw t S) (N (μ 2 0)))))) μ' ν) : Ct mX2_step 3 [.ref f] μ ν P := by
  have hr := hF.rng
  have hnb8 := hC.1.1.2
  have hdr := hC.2.2.2.2
  have hdr5 := hdr.2
  refine Ct.of (ls0 := [_, _]) (by decide) rfl (Nat.le_of_ble_eq_true rfl) rfl ?_
  have hz : ∀ b, b < 8 → sC (dripsP μ tw t (N (μ 7 0)) S) b 20 = 0 := fun b hb => by rw [dripsP_C]; exact hG.1 b 20 hb (by omega)
  have hdel : ∀ b, b < N (μ 2 0) → ¬ μ 5 b < 0 → 0 < N (μ 6 b) ∧ N (μ 6 b) ≤ 20 := fun b hb h => ⟨(hC.pipe hb h).2.2.2, (hC.pipe hb h).2.2.1.2⟩
  have h0 : ∀ b, b < 8 → sC (turnsP μ tw t (N (μ 2 0)) (wateredP μ tw t S)) b 0 = 0 := fun b hb => by
    rw [turnsP_C (Or.inl rfl) _ hdel, wateredP_C]
    by_cases e : b < N (μ 2 0)
    · rw [if_pos ⟨e, rfl⟩]
    · rw [if_neg (by omega)]; exact hG.2 b (by omega) hb 0
  have h21 : ∀ b, b < 8 → sC (turnsP μ tw t (N (μ 2 0)) (wateredP μ tw t S)) b 21 = 0 := fun b hb => by
    rw [turnsP_C (Or.inr (by omega)) _ hdel, wateredP_C, if_neg (by omega)]
    exact hG.1 b 21 hb (by omega)
  have hend : ∀ (μ4 : MI), RX f t (turnsP μ tw t (N (μ 2 0)) (wateredP μ tw t S)) μ4 → Fr f 14 μ μ4 → P (some (.int (nI (bitsN (setP μ tw t S) (N (μ 2 0)))))) (up2 μ4 f 2 (nI (t + 1))) ν :=
    fun μ4 hR4 hF4 => hP _ (hR4.shift h0 h21) (hF4.tr (Fr.up (by omega) (by omega)))
  refine A_aload_n dX2_step_0 rfl ?_
  refine A_callV0 dX2_step_1 mlX2_56 (by decide) hF.l0 rfl (Nat.le_of_ble_eq_true rfl) (c_takeDrips hF (by omega) hC hR hT (fun μ1 hR1 hF1 => ?_))
  refine Kn.v ?_
  refine A_aload_n dX2_step_4 rfl ?_
  refine A_callV0 dX2_step_5 mlX2_59 (by decide) hF.l0 rfl (Nat.le_of_ble_eq_true rfl) (c_takeFromPipes hF (by omega) hC ((Sm.rf μ).fr hr.1 hF1) hR1 hz (fun μ2 hR2 hF2 => ?_))
  refine Kn.v ?_
  have hF12 := hF1.tr hF2
  have hlow2 := (Sm.rf μ).fr hr.1 hF12
  refine A_aload_n dX2_step_8 rfl ?_
  refine A_getR dX2_step_9 flX2_29 hF.l0 rfl ?_
  refine A_getI dX2_step_12 flX2_62 rfl rfl ?_
  rw [(hlow2 1 4 (by omega)), hdr.1]
  refine A_aload_n dX2_step_15 rfl ?_
  refine A_getI dX2_step_16 flX2_43 hF.l0 rfl ?_
  rw [hR2.1.1]
  refine A_callN2 dX2_step_19 mlX2_67 (by decide) (Nat.le_of_ble_eq_true rfl) (c_goesInto (by omega) (by omega) (fun g1 g2 => ?_) (fun g0 => ?_))
  · refine Kn.s ?_
    refine A_if_eq (tgt := 29) dX2_step_22 (by decide) (fun h => absurd h (by decide +kernel)) (fun _ => ?_)
    refine A_aload_n dX2_step_25 rfl ?_
    refine A_callV0 dX2_step_26 mlX2_71 (by decide) hF.l0 rfl (Nat.le_of_ble_eq_true rfl) (c_dryUp hF hC hlow2 hR2 (fun μ3 hR3 hF3 => ?_))
    refine Kn.v ?_
    refine A_aload_n dX2_step_29 rfl ?_
    refine A_callV0 dX2_step_30 mlX2_74 (by decide) hF.l0 rfl (Nat.le_of_ble_eq_true rfl) (c_tipAll hF (by omega) hC ((Sm.rf μ).fr hr.1 (hF12.tr hF3)) hT hR3 (fun μ4 hR4 hF4 => ?_))
    refine Kn.s ?_
    refine A_istore_n (ls1 := [_, _]) dX2_step_33 (by decide) rfl rfl ?_
    refine A_aload_n dX2_step_34 rfl ?_
    refine A_dup dX2_step_35 rfl ?_
    refine A_getI dX2_step_36 flX2_43 hF.l0 rfl ?_
    rw [hR4.1.1]
    refine A_iconst (v := nI 1) dX2_step_39 (by decide +kernel) ?_
    refine A_iaddN dX2_step_40 ?_
    refine A_put dX2_step_41 fpX2_43 hF.l0 rfl rfl rfl ?_
    refine A_iload_n dX2_step_44 rfl ?_
    refine A_iret dX2_step_45 rfl rfl ?_
    have e : wateredP μ tw t S = driesP (N (μ 2 0)) (pipesP (N (μ 2 0)) (dripsP μ tw t (N (μ 7 0)) S)) := if_pos (by unfold dryT; simp [g1, g2])
    rw [← e] at hR4 ⊢
    exact hend μ4 hR4 ((hF12.tr hF3).tr hF4)
  · refine Kn.s ?_
    refine A_if_eq (tgt := 29) dX2_step_22 (by decide) (fun _ => ?_) (fun h => absurd h (by decide +kernel))
    refine A_aload_n dX2_step_29 rfl ?_
    refine A_callV0 dX2_step_30 mlX2_74 (by decide) hF.l0 rfl (Nat.le_of_ble_eq_true rfl) (c_tipAll hF (by omega) hC hlow2 hT hR2 (fun μ4 hR4 hF4 => ?_))
    refine Kn.s ?_
    refine A_istore_n (ls1 := [_, _]) dX2_step_33 (by decide) rfl rfl ?_
    refine A_aload_n dX2_step_34 rfl ?_
    refine A_dup dX2_step_35 rfl ?_
    refine A_getI dX2_step_36 flX2_43 hF.l0 rfl ?_
    rw [hR4.1.1]
    refine A_iconst (v := nI 1) dX2_step_39 (by decide +kernel) ?_
    refine A_iaddN dX2_step_40 ?_
    refine A_put dX2_step_41 fpX2_43 hF.l0 rfl rfl rfl ?_
    refine A_iload_n dX2_step_44 rfl ?_
    refine A_iret dX2_step_45 rfl rfl ?_
    have e : wateredP μ tw t S = pipesP (N (μ 2 0)) (dripsP μ tw t (N (μ 7 0)) S) := if_neg (fun q => g0 (by unfold dryT at q; simpa using q))
    rw [← e] at hR4 ⊢
    exact hend μ4 hR4 (hF12.tr hF4)
