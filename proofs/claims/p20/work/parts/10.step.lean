/-! the flow's tick -/
theorem pourP_C (b : Nat) (v : Int32) (S : St) : sC (pourP b v S) = sC S := by
  unfold pourP
  split <;> rfl
theorem dripP_C (c tw : MI) (t s : Nat) (S : St) : sC (dripP c tw t s S) = sC S := by
  unfold dripP
  split
  · rw [pourP_C]; rfl
  · rfl
theorem dripsP_C (c tw : MI) (t : Nat) (S : St) : ∀ k, sC (dripsP c tw t k S) = sC S
  | 0 => rfl
  | k + 1 => by rw [dripsP, dripP_C, dripsP_C c tw t S k]
theorem pipesP_C (S : St) (b j : Nat) : ∀ k, sC (pipesP k S) b j = if b < k ∧ j = 0 then 0 else sC S b j
  | 0 => by simp [pipesP]
  | k + 1 => by
    have ih := pipesP_C S b j k
    show up2 (sC (pourP k (sC (pipesP k S) k 0) (pipesP k S))) k 0 0 b j = _
    rw [pourP_C]
    by_cases e : b = k ∧ j = 0
    · obtain ⟨rfl, rfl⟩ := e
      rw [up2_s]
      simp
    · rw [up2_ne _ _ e, ih]
      by_cases e2 : b < k ∧ j = 0
      · rw [if_pos e2, if_pos ⟨by omega, e2.2⟩]
      · rw [if_neg e2, if_neg (by omega)]
theorem dryP_C (b : Nat) (S : St) : sC (dryP b S) = sC S := by
  unfold dryP
  split <;> rfl
theorem driesP_C (S : St) : ∀ k, sC (driesP k S) = sC S
  | 0 => rfl
  | k + 1 => by rw [driesP, dryP_C, driesP_C S k]
theorem wateredP_C (c tw : MI) (t : Nat) (S : St) (b j : Nat) : sC (wateredP c tw t S) b j = if b < N (c 2 0) ∧ j = 0 then 0 else sC S b j := by
  unfold wateredP
  split
  · rw [driesP_C, pipesP_C, dripsP_C]
  · rw [pipesP_C, dripsP_C]
theorem turnP_C {c tw : MI} {t b : Nat} {S : St} (hd : ¬ c 5 b < 0 → 0 < N (c 6 b) ∧ N (c 6 b) ≤ 20) {a j : Nat} (hj : j = 0 ∨ 20 < j) : sC (turnP c tw t b S) a j = sC S a j := by
  unfold turnP
  split
  · rfl
  · split
    · show sC (fallP c tw b S) a j = _
      unfold fallP
      split
      · rfl
      · next h =>
        have h2 : ¬ c 5 b < 0 := fun q => h (by unfold brookB; simp [q])
        have := hd h2
        exact up2_b _ _ (by omega)
    · rfl
theorem turnsP_C {c tw : MI} {t : Nat} {S : St} {a j : Nat} (hj : j = 0 ∨ 20 < j) : ∀ k, (∀ b, b < k → ¬ c 5 b < 0 → 0 < N (c 6 b) ∧ N (c 6 b) ≤ 20) → sC (turnsP c tw t k S) a j = sC S a j
  | 0, _ => rfl
  | k + 1, h => by rw [turnsP, turnP_C (h k (by omega)) hj, turnsP_C hj k (fun b hb => h b (by omega))]
theorem WC.pipe {c : MI} (h : WC c) {b : Nat} (hb : b < N (c 2 0)) (h5 : ¬ c 5 b < 0) : sm (c 5 b) 7 ∧ N (c 5 b) < N (c 2 0) ∧ sm (c 6 b) 20 ∧ 0 < N (c 6 b) := by
  rcases (h.1.2 b hb).2 with e | e
  · exact absurd (by rw [e]; decide +kernel) h5
  · exact e
/-- cells 0 .. 32 as in c -/
def Sm (c μ : MI) : Prop := ∀ a j, a < 33 → μ a j = c a j
theorem Sm.rf (c : MI) : Sm c c := fun _ _ _ => rfl
theorem Sm.fr {c μ μ' : MI} {f : Nat} (h : Sm c μ) (hf : 33 ≤ f) (hF : Fr f 14 μ μ') : Sm c μ' := fun a j ha => (hF a (Or.inl (by omega)) j).trans (h a j ha)
theorem c_takeFromPipes {f w t : Nat} (hF : FlowAt f w) {S : St} {c μ : MI} {ν : ML} {P : Po} (ht : t < 10000) (hC : WC c) (hc : Sm c μ) (hR : RX f t S μ) (hz : ∀ b, b < 8 → sC S b 20 = 0) (hP : ∀ μ', RX f t (pipesP (N (c 2 0)) S) μ' → Fr f 14 μ μ' → P none μ' ν) : Ct mX2_takeFromPipes 1 [.ref f] μ ν P := by
  have hnb := hC.1.1
  have hr := hF.rng
  have hnb8 := hnb.2
  refine Ct.of (ls0 := [_, _, _]) (by decide) rfl (Nat.le_of_ble_eq_true rfl) rfl ?_
  have loop : ∀ (n i : Nat) (μ1 : MI), N (c 2 0) - i < n → i ≤ N (c 2 0) → RX f t (pipesP i S) μ1 → Fr f 14 μ μ1 → AW mX2_takeFromPipes (1, none) P 10 [some (.ref f), some (.int (nI (t % 20))), some (.int (nI i))] [] μ1 ν := by
    intro n
    induction n with
    | zero => intro i μ1 h; omega
    | succ n ih =>
      intro i μ1 hn hi hR1 hF1
      have hlow := hc.fr hr.1 hF1
      have hz1 : i < 8 → sC (pipesP i S) i 20 = 0 := fun h8 => by rw [pipesP_C, if_neg (by omega)]; exact hz i h8
      refine A_iload_n dX2_takeFromPipes_10 rfl ?_
      refine A_aload_n dX2_takeFromPipes_11 rfl ?_
      refine A_getR dX2_takeFromPipes_12 flX2_29 hF.l0 rfl ?_
      refine A_getR dX2_takeFromPipes_15 flX2_142 rfl rfl ?_
      refine A_getI dX2_takeFromPipes_18 flX2_146 rfl rfl ?_
      rw [(hlow 2 0 (by omega)), hnb.1]
      refine A_icmp_geN (tgt := 52) dX2_takeFromPipes_21 (by decide) (by omega) (by omega) (fun b21 => ?_) (fun b21 => ?_)
      · refine A_vret dX2_takeFromPipes_52 rfl ?_
        exact hP μ1 (by rw [show N (c 2 0) = i by omega]; exact hR1) hF1
      · have hi8 : i < 8 := by omega
        have hm20 : t % 20 < 20 := Nat.mod_lt _ (by omega)
        refine A_aload_n dX2_takeFromPipes_24 rfl ?_
        refine A_iload_n dX2_takeFromPipes_25 rfl ?_
        refine A_aload_n dX2_takeFromPipes_26 rfl ?_
        refine A_getR dX2_takeFromPipes_27 flX2_26 hF.l0 rfl ?_
        refine A_iload_n dX2_takeFromPipes_30 rfl ?_
        refine A_aald (j := i) dX2_takeFromPipes_31 hF.l5 rfl hi8 (by decide) (row_get f hi8) ?_
        refine A_iload_n dX2_takeFromPipes_32 rfl ?_
        refine A_ialdN (j := t % 20) dX2_takeFromPipes_33 (hF.row hi8) rfl hm20 (by decide) ?_
        refine A_callV2 dX2_takeFromPipes_34 mlX2_125 (by decide) hF.l0 rfl (Nat.le_of_ble_eq_true rfl) (c_pour hF hi8 _ ?_)
        refine Kn.v ?_
        refine A_aload_n dX2_takeFromPipes_37 rfl ?_
        refine A_getR dX2_takeFromPipes_38 flX2_26 hF.l0 rfl ?_
        refine A_iload_n dX2_takeFromPipes_41 rfl ?_
        refine A_aald (j := i) dX2_takeFromPipes_42 hF.l5 rfl hi8 (by decide) (row_get f hi8) ?_
        refine A_iload_n dX2_takeFromPipes_43 rfl ?_
        refine A_iconst (v := nI 0) dX2_takeFromPipes_44 (by decide +kernel) ?_
        refine A_iastN (j := t % 20) dX2_takeFromPipes_45 (hF.row hi8) rfl hm20 (by decide) ?_
        refine A_iincN (ls1 := [_, _, _]) dX2_takeFromPipes_46 rfl (by decide) rfl rfl ?_
        refine A_goto (tgt := 10) dX2_takeFromPipes_49 (by decide) ?_
        refine ih (i + 1) _ (by omega) (by omega) ?_ ((hF1.tr (pourX_Fr f _ _ _)).tr (Fr.up (by omega) (by omega)))
        have hv : μ1 (f + 6 + i) (t % 20) = sC (pipesP i S) i 0 := by rw [(hR1.2.2 i hi8).1, hz1 hi8]; exact Int32.add_zero _
        rw [hv]
        exact (hR1.pour hi8 _).clr hi8 (by rw [pourP_C]; exact hz1 hi8)
  refine A_aload_n dX2_takeFromPipes_0 rfl ?_
  refine A_getI dX2_takeFromPipes_1 flX2_43 hF.l0 rfl ?_
  rw [hR.1.1]
  refine A_bipush (v := nI 20) dX2_takeFromPipes_4 (by decide +kernel) ?_
  refine A_iremN dX2_takeFromPipes_6 (by omega) (by omega) (by omega) ?_
  refine A_istore_n (ls1 := [_, _, _]) dX2_takeFromPipes_7 (by decide) rfl rfl ?_
  refine A_iconst (v := nI 0) dX2_takeFromPipes_8 (by decide +kernel) ?_
  refine A_istore_n (ls1 := [_, _, _]) dX2_takeFromPipes_9 (by decide) rfl rfl ?_
  exact loop (N (c 2 0) + 1) 0 μ (by omega) (by omega) hR Fr.rf
theorem c_dryUp {f w t : Nat} (hF : FlowAt f w) {S : St} {c μ : MI} {ν : ML} {P : Po} (hC : WC c) (hc : Sm c μ) (hR : RX f t S μ) (hP : ∀ μ', RX f t (driesP (N (c 2 0)) S) μ' → Fr f 14 μ μ' → P none μ' ν) : Ct mX2_dryUp 0 [.ref f] μ ν P := by
  have hnb := hC.1.1
  have hr := hF.rng
  have hnb8 := hnb.2
  refine Ct.of (ls0 := [_, _]) (by decide) rfl (Nat.le_of_ble_eq_true rfl) rfl ?_
  have loop : ∀ (n i : Nat) (μ1 : MI), N (c 2 0) - i < n → i ≤ N (c 2 0) → RX f t (driesP i S) μ1 → Fr f 14 μ μ1 → AW mX2_dryUp (0, none) P 2 [some (.ref f), some (.int (nI i))] [] μ1 ν := by
    intro n
    induction n with
    | zero => intro i μ1 h; omega
    | succ n ih =>
      intro i μ1 hn hi hR1 hF1
      have hlow := hc.fr hr.1 hF1
      have hstep : driesP (i + 1) S = dryP i (driesP i S) := rfl
      refine A_iload_n dX2_dryUp_2 rfl ?_
      refine A_aload_n dX2_dryUp_3 rfl ?_
      refine A_getR dX2_dryUp_4 flX2_29 hF.l0 rfl ?_
      refine A_getR dX2_dryUp_7 flX2_142 rfl rfl ?_
      refine A_getI dX2_dryUp_10 flX2_146 rfl rfl ?_
      rw [(hlow 2 0 (by omega)), hnb.1]
      refine A_icmp_geN (tgt := 60) dX2_dryUp_13 (by decide) (by omega) (by omega) (fun b13 => ?_) (fun b13 => ?_)
      · refine A_vret dX2_dryUp_60 rfl ?_
        exact hP μ1 (by rw [show N (c 2 0) = i by omega]; exact hR1) hF1
      · have hi8 : i < 8 := by omega
        obtain ⟨g1, g2, g3, -⟩ := hR1.2.1 i hi8
        refine A_aload_n dX2_dryUp_16 rfl ?_
        refine A_getR dX2_dryUp_17 flX2_15 hF.l0 rfl ?_
        refine A_iload_n dX2_dryUp_20 rfl ?_
        refine A_ialdN (j := i) dX2_dryUp_21 hF.l2 rfl hi8 (by decide) ?_
        refine A_if_ne (tgt := 54) dX2_dryUp_22 (by decide) (fun b22 => ?_) (fun b22 => ?_)
        · refine A_iincN (ls1 := [_, _]) dX2_dryUp_54 rfl (by decide) rfl rfl ?_
          refine A_goto (tgt := 2) dX2_dryUp_57 (by decide) ?_
          refine ih (i + 1) μ1 (by omega) (by omega) ?_ hF1
          rw [hstep]; unfold dryP; rw [if_neg (fun q => b22 (by rw [g2, q.1]; rfl))]; exact hR1
        · refine A_aload_n dX2_dryUp_25 rfl ?_
          refine A_getR dX2_dryUp_26 flX2_9 hF.l0 rfl ?_
          refine A_iload_n dX2_dryUp_29 rfl ?_
          refine A_ialdN (j := i) dX2_dryUp_30 hF.l1 rfl hi8 (by decide) ?_
          refine A_if_le (tgt := 54) dX2_dryUp_31 (by decide) (fun b31 => ?_) (fun b31 => ?_)
          · refine A_iincN (ls1 := [_, _]) dX2_dryUp_54 rfl (by decide) rfl rfl ?_
            refine A_goto (tgt := 2) dX2_dryUp_57 (by decide) ?_
            refine ih (i + 1) μ1 (by omega) (by omega) ?_ hF1
            rw [hstep]; unfold dryP; rw [if_neg (fun q => i_lt_n q.2 (by rw [← g1]; exact b31))]; exact hR1
          · refine A_aload_n dX2_dryUp_34 rfl ?_
            refine A_getR dX2_dryUp_35 flX2_9 hF.l0 rfl ?_
            refine A_iload_n dX2_dryUp_38 rfl ?_
            refine A_dup2 dX2_dryUp_39 rfl rfl ?_
            refine A_ialdN (j := i) dX2_dryUp_40 hF.l1 rfl hi8 (by decide) ?_
            refine A_iconst (v := nI 1) dX2_dryUp_41 (by decide +kernel) ?_
            refine A_isub dX2_dryUp_42 ?_
            refine A_iastN (j := i) dX2_dryUp_43 hF.l1 rfl hi8 (by decide) ?_
            refine A_aload_n dX2_dryUp_44 rfl ?_
            refine A_dup dX2_dryUp_45 rfl ?_
            refine A_getI dX2_dryUp_46 flX2_53 hF.l0 rfl ?_
            refine A_iconst (v := nI 1) dX2_dryUp_49 (by decide +kernel) ?_
            refine A_iadd dX2_dryUp_50 ?_
            refine A_put dX2_dryUp_51 fpX2_53 hF.l0 rfl rfl rfl ?_
            refine A_iincN (ls1 := [_, _]) dX2_dryUp_54 rfl (by decide) rfl rfl ?_
            refine A_goto (tgt := 2) dX2_dryUp_57 (by decide) ?_
            refine ih (i + 1) _ (by omega) (by omega) ?_ ((hF1.tr (Fr.up (by omega) (by omega))).tr (Fr.up (by omega) (by omega)))
            have e0 : sD (driesP i S) i = 0 := by
              rw [g2] at b22
              exact (nI_eq (a := sD (driesP i S) i) (b := 0) (by omega) (by omega)).mp b22
            rw [hstep]; unfold dryP; rw [if_pos ⟨e0, by rw [← g1]; exact i_nle b31⟩]
            have h3 := (hR1.setH (v := sH (driesP i S) i - 1) hi8).setQ (i := 2) (v := sQ (driesP i S) 2 + 1) (by omega)
            rw [up2_a _ _ (by omega), g1, hR1.1.2.2.2]
            exact h3
  refine A_iconst (v := nI 0) dX2_dryUp_0 (by decide +kernel) ?_
  refine A_istore_n (ls1 := [_, _]) dX2_dryUp_1 (by decide) rfl rfl ?_
  exact loop (N (c 2 0) + 1) 0 μ (by omega) (by omega) hR Fr.rf
theorem c_tip {f w t b : Nat} (hF : FlowAt f w) {S : St} {c tw μ : MI} {ν : ML} {P : Po} (ht : t < 10000) (hC : WC c) (hc : Sm c μ) (hT : TW w tw c) (hR : RX f t S μ) (hb : b < N (c 2 0)) (hP : ∀ μ', RX f t (tipP c tw t b S) μ' → Fr f 14 μ μ' → P none μ' ν) : Ct mX2_tip 1 [.ref f, .int (nI b)] μ ν P := by
  have hnb := hC.1.1
  have hr := hF.rng
  have hnb8 := hnb.2
  have hb8 : b < 8 := by omega
  obtain ⟨g1, g2, g3, g4, g5⟩ := hR.2.1 b hb8
  have hrest := (hC.1.2 b hb).1
  have hcut : μ (w + 4) b = tw 4 b := by rw [hc _ _ (by omega)]; exact (hT.2.2 b hb8).2
  have h5 : μ 5 b = c 5 b := hc _ _ (by omega)
  have h6 : μ 6 b = c 6 b := hc _ _ (by omega)
  have h4 : μ 4 b = c 4 b := hc _ _ (by omega)
  refine Ct.of (ls0 := [_, _, _]) (by decide) rfl (Nat.le_of_ble_eq_true rfl) rfl ?_
  refine A_aload_n dX2_tip_0 rfl ?_
  refine A_getR dX2_tip_1 flX2_29 hF.l0 rfl ?_
  refine A_getR dX2_tip_4 flX2_142 rfl rfl ?_
  refine A_getR dX2_tip_7 flX2_159 rfl rfl ?_
  refine A_iload_n dX2_tip_10 rfl ?_
  refine A_ialdN (j := b) dX2_tip_11 rfl rfl hb8 (by decide) ?_
  refine A_istore_n (ls1 := [_, _, _]) dX2_tip_12 (by decide) rfl rfl ?_
  refine A_aload_n dX2_tip_13 rfl ?_
  refine A_getR dX2_tip_14 flX2_33 hF.l0 rfl ?_
  refine A_getR dX2_tip_17 flX2_160 hF.tw.l0 rfl ?_
  refine A_iload_n dX2_tip_20 rfl ?_
  refine A_zaldN (j := b) dX2_tip_21 hF.tw.l4 rfl hb8 (by decide) ?_
  refine A_if_ne (tgt := 39) dX2_tip_22 (by decide) (fun b22 => ?_) (fun b22 => ?_)
  · refine A_aload_n dX2_tip_39 rfl ?_
    refine A_dup dX2_tip_40 rfl ?_
    refine A_getI dX2_tip_41 flX2_50 hF.l0 rfl ?_
    refine A_aload_n dX2_tip_44 rfl ?_
    refine A_getR dX2_tip_45 flX2_9 hF.l0 rfl ?_
    refine A_iload_n dX2_tip_48 rfl ?_
    refine A_ialdN (j := b) dX2_tip_49 hF.l1 rfl hb8 (by decide) ?_
    refine A_iadd dX2_tip_50 ?_
    refine A_put dX2_tip_51 fpX2_50 hF.l0 rfl rfl rfl ?_
    refine A_goto (tgt := 93) dX2_tip_54 (by decide) ?_
    refine A_aload_n dX2_tip_93 rfl ?_
    refine A_getR dX2_tip_94 flX2_9 hF.l0 rfl ?_
    refine A_iload_n dX2_tip_97 rfl ?_
    refine A_iconst (v := nI 0) dX2_tip_98 (by decide +kernel) ?_
    refine A_iastN (j := b) dX2_tip_99 hF.l1 rfl hb8 (by decide) ?_
    refine A_aload_n dX2_tip_100 rfl ?_
    refine A_getR dX2_tip_101 flX2_15 hF.l0 rfl ?_
    refine A_iload_n dX2_tip_104 rfl ?_
    refine A_aload_n dX2_tip_105 rfl ?_
    refine A_getR dX2_tip_106 flX2_29 hF.l0 rfl ?_
    refine A_getR dX2_tip_109 flX2_142 rfl rfl ?_
    refine A_getR dX2_tip_112 flX2_169 rfl rfl ?_
    refine A_iload_n dX2_tip_115 rfl ?_
    refine A_ialdN (j := b) dX2_tip_116 rfl rfl hb8 (by decide) ?_
    refine A_iastN (j := b) dX2_tip_117 hF.l2 rfl hb8 (by decide) ?_
    refine A_aload_n dX2_tip_118 rfl ?_
    refine A_getR dX2_tip_119 flX2_18 hF.l0 rfl ?_
    refine A_iload_n dX2_tip_122 rfl ?_
    refine A_dup2 dX2_tip_123 rfl rfl ?_
    refine A_ialdN (j := b) dX2_tip_124 hF.l3 rfl hb8 (by decide) ?_
    refine A_iconst (v := nI 1) dX2_tip_125 (by decide +kernel) ?_
    refine A_iadd dX2_tip_126 ?_
    refine A_iastN (j := b) dX2_tip_127 hF.l3 rfl hb8 (by decide) ?_
    refine A_aload_n dX2_tip_128 rfl ?_
    refine A_getR dX2_tip_129 flX2_21 hF.l0 rfl ?_
    refine A_iload_n dX2_tip_132 rfl ?_
    refine A_aload_n dX2_tip_133 rfl ?_
    refine A_getI dX2_tip_134 flX2_43 hF.l0 rfl ?_
    refine A_iastN (j := b) dX2_tip_137 hF.l4 rfl hb8 (by decide) ?_
    refine A_vret dX2_tip_138 rfl ?_
    refine hP _ ?_ ((((((Fr.up (by omega) (by omega)).tr (Fr.up (by omega) (by omega))).tr (Fr.up (by omega) (by omega))).tr (Fr.up (by omega) (by omega))).tr (Fr.up (by omega) (by omega))))
    have hbr : brookB c tw b = true := by unfold brookB; rw [← hcut]; simp [b22]
    have h9 := ((((hR.setQ (i := 1) (v := sQ S 1 + sH S b) (by omega)).setH (v := 0) hb8).setD (n := N (c 4 b)) hb8 hrest.2).setK (v := sK S b + 1) hb8).setL (v := nI t) hb8
    have e : tipP c tw t b S = setL b (nI t) (setK b (sK S b + 1) (setD b (N (c 4 b)) (setH b 0 (setQ 1 (sQ S 1 + sH S b) S)))) := by
      unfold tipP fallP
      rw [if_pos hbr]
      rfl
    rw [e]
    simp (disch := omega) only [up2_a, up2_b]
    rw [g1, hR.1.2.2.1, g4, h4, hR.1.1]
    rw [← hrest.1] at h9
    exact h9
  · refine A_aload_n dX2_tip_25 rfl ?_
    refine A_getR dX2_tip_26 flX2_29 hF.l0 rfl ?_
    refine A_getR dX2_tip_29 flX2_142 rfl rfl ?_
    refine A_iload_n dX2_tip_32 rfl ?_
    refine A_callV1 dX2_tip_33 mlX2_163 (by decide) rfl rfl (Nat.le_of_ble_eq_true rfl) (c_has _ ((hc 2 0 (by omega)).trans hnb.1) hnb8 (fun g => ?_) (fun g => ?_))
    · refine Kn.s ?_
      refine A_if_ne (tgt := 57) dX2_tip_36 (by decide) (fun _ => ?_) (fun h => absurd h (by decide +kernel))
      have h5n : ¬ c 5 b < 0 := by
        rw [← h5]
        obtain ⟨k, hk, hk2⟩ := g
        rw [hk]
        exact nI_pos (by omega)
      obtain ⟨q1, q2, q3, q4⟩ := hC.pipe hb h5n
      have q1' := q1.2
      have q3' := q3.2
      have hm20 : (t + N (c 6 b)) % 20 < 20 := Nat.mod_lt _ (by omega)
      refine A_aload_n dX2_tip_57 rfl ?_
      refine A_getR dX2_tip_58 flX2_26 hF.l0 rfl ?_
      refine A_iload_n dX2_tip_61 rfl ?_
      refine A_aald (j := N (c 5 b)) dX2_tip_62 hF.l5 (h5.trans q1.1) (by omega) (by decide) (row_get f (by omega)) ?_
      refine A_aload_n dX2_tip_63 rfl ?_
      refine A_getI dX2_tip_64 flX2_43 hF.l0 rfl ?_
      rw [hR.1.1]
      refine A_aload_n dX2_tip_67 rfl ?_
      refine A_getR dX2_tip_68 flX2_29 hF.l0 rfl ?_
      refine A_getR dX2_tip_71 flX2_142 rfl rfl ?_
      refine A_getR dX2_tip_74 flX2_166 rfl rfl ?_
      refine A_iload_n dX2_tip_77 rfl ?_
      refine A_ialdN (j := b) dX2_tip_78 rfl rfl hb8 (by decide) ?_
      rw [h6, q3.1]
      refine A_iaddN dX2_tip_79 ?_
      refine A_bipush (v := nI 20) dX2_tip_80 (by decide +kernel) ?_
      refine A_iremN dX2_tip_82 (by omega) (by omega) (by omega) ?_
      refine A_dup2 dX2_tip_83 rfl rfl ?_
      refine A_ialdN (j := (t + N (c 6 b)) % 20) dX2_tip_84 (hF.row (by omega)) rfl hm20 (by decide) ?_
      refine A_aload_n dX2_tip_85 rfl ?_
      refine A_getR dX2_tip_86 flX2_9 hF.l0 rfl ?_
      refine A_iload_n dX2_tip_89 rfl ?_
      refine A_ialdN (j := b) dX2_tip_90 hF.l1 rfl hb8 (by decide) ?_
      refine A_iadd dX2_tip_91 ?_
      refine A_iastN (j := (t + N (c 6 b)) % 20) dX2_tip_92 (hF.row (by omega)) rfl hm20 (by decide) ?_
      refine A_aload_n dX2_tip_93 rfl ?_
      refine A_getR dX2_tip_94 flX2_9 hF.l0 rfl ?_
      refine A_iload_n dX2_tip_97 rfl ?_
      refine A_iconst (v := nI 0) dX2_tip_98 (by decide +kernel) ?_
      refine A_iastN (j := b) dX2_tip_99 hF.l1 rfl hb8 (by decide) ?_
      refine A_aload_n dX2_tip_100 rfl ?_
      refine A_getR dX2_tip_101 flX2_15 hF.l0 rfl ?_
      refine A_iload_n dX2_tip_104 rfl ?_
      refine A_aload_n dX2_tip_105 rfl ?_
      refine A_getR dX2_tip_106 flX2_29 hF.l0 rfl ?_
      refine A_getR dX2_tip_109 flX2_142 rfl rfl ?_
      refine A_getR dX2_tip_112 flX2_169 rfl rfl ?_
      refine A_iload_n dX2_tip_115 rfl ?_
      refine A_ialdN (j := b) dX2_tip_116 rfl rfl hb8 (by decide) ?_
      refine A_iastN (j := b) dX2_tip_117 hF.l2 rfl hb8 (by decide) ?_
      refine A_aload_n dX2_tip_118 rfl ?_
      refine A_getR dX2_tip_119 flX2_18 hF.l0 rfl ?_
      refine A_iload_n dX2_tip_122 rfl ?_
      refine A_dup2 dX2_tip_123 rfl rfl ?_
      refine A_ialdN (j := b) dX2_tip_124 hF.l3 rfl hb8 (by decide) ?_
      refine A_iconst (v := nI 1) dX2_tip_125 (by decide +kernel) ?_
      refine A_iadd dX2_tip_126 ?_
      refine A_iastN (j := b) dX2_tip_127 hF.l3 rfl hb8 (by decide) ?_
      refine A_aload_n dX2_tip_128 rfl ?_
      refine A_getR dX2_tip_129 flX2_21 hF.l0 rfl ?_
      refine A_iload_n dX2_tip_132 rfl ?_
      refine A_aload_n dX2_tip_133 rfl ?_
      refine A_getI dX2_tip_134 flX2_43 hF.l0 rfl ?_
      refine A_iastN (j := b) dX2_tip_137 hF.l4 rfl hb8 (by decide) ?_
      refine A_vret dX2_tip_138 rfl ?_
      refine hP _ ?_ ((((((Fr.up (by omega) (by omega)).tr (Fr.up (by omega) (by omega))).tr (Fr.up (by omega) (by omega))).tr (Fr.up (by omega) (by omega))).tr (Fr.up (by omega) (by omega))))
      have hbr : brookB c tw b = false := by unfold brookB; rw [← hcut]; simp [b22, h5n]
      have h9 := ((((hR.addC (b := N (c 5 b)) (j := N (c 6 b)) (v := sH S b) (by omega) q4 q3').setH (v := 0) hb8).setD (n := N (c 4 b)) hb8 hrest.2).setK (v := sK S b + 1) hb8).setL (v := nI t) hb8
      have e : tipP c tw t b S = setL b (nI t) (setK b (sK S b + 1) (setD b (N (c 4 b)) (setH b 0 (setC (N (c 5 b)) (N (c 6 b)) (sC S (N (c 5 b)) (N (c 6 b)) + sH S b) S)))) := by
        unfold tipP fallP
        rw [if_neg (by rw [hbr]; decide)]
        rfl
      rw [e]
      simp (disch := omega) only [up2_a, up2_b]
      rw [g1, g4, h4, hR.1.1]
      rw [← hrest.1] at h9
      exact h9
    · refine Kn.s ?_
      refine A_if_ne (tgt := 57) dX2_tip_36 (by decide) (fun h => absurd h (by decide +kernel)) (fun _ => ?_)
      refine A_aload_n dX2_tip_39 rfl ?_
      refine A_dup dX2_tip_40 rfl ?_
      refine A_getI dX2_tip_41 flX2_50 hF.l0 rfl ?_
      refine A_aload_n dX2_tip_44 rfl ?_
      refine A_getR dX2_tip_45 flX2_9 hF.l0 rfl ?_
      refine A_iload_n dX2_tip_48 rfl ?_
      refine A_ialdN (j := b) dX2_tip_49 hF.l1 rfl hb8 (by decide) ?_
      refine A_iadd dX2_tip_50 ?_
      refine A_put dX2_tip_51 fpX2_50 hF.l0 rfl rfl rfl ?_
      refine A_goto (tgt := 93) dX2_tip_54 (by decide) ?_
      refine A_aload_n dX2_tip_93 rfl ?_
      refine A_getR dX2_tip_94 flX2_9 hF.l0 rfl ?_
      refine A_iload_n dX2_tip_97 rfl ?_
      refine A_iconst (v := nI 0) dX2_tip_98 (by decide +kernel) ?_
      refine A_iastN (j := b) dX2_tip_99 hF.l1 rfl hb8 (by decide) ?_
      refine A_aload_n dX2_tip_100 rfl ?_
      refine A_getR dX2_tip_101 flX2_15 hF.l0 rfl ?_
      refine A_iload_n dX2_tip_104 rfl ?_
      refine A_aload_n dX2_tip_105 rfl ?_
      refine A_getR dX2_tip_106 flX2_29 hF.l0 rfl ?_
      refine A_getR dX2_tip_109 flX2_142 rfl rfl ?_
      refine A_getR dX2_tip_112 flX2_169 rfl rfl ?_
      refine A_iload_n dX2_tip_115 rfl ?_
      refine A_ialdN (j := b) dX2_tip_116 rfl rfl hb8 (by decide) ?_
      refine A_iastN (j := b) dX2_tip_117 hF.l2 rfl hb8 (by decide) ?_
      refine A_aload_n dX2_tip_118 rfl ?_
      refine A_getR dX2_tip_119 flX2_18 hF.l0 rfl ?_
      refine A_iload_n dX2_tip_122 rfl ?_
      refine A_dup2 dX2_tip_123 rfl rfl ?_
      refine A_ialdN (j := b) dX2_tip_124 hF.l3 rfl hb8 (by decide) ?_
      refine A_iconst (v := nI 1) dX2_tip_125 (by decide +kernel) ?_
      refine A_iadd dX2_tip_126 ?_
      refine A_iastN (j := b) dX2_tip_127 hF.l3 rfl hb8 (by decide) ?_
      refine A_aload_n dX2_tip_128 rfl ?_
      refine A_getR dX2_tip_129 flX2_21 hF.l0 rfl ?_
      refine A_iload_n dX2_tip_132 rfl ?_
      refine A_aload_n dX2_tip_133 rfl ?_
      refine A_getI dX2_tip_134 flX2_43 hF.l0 rfl ?_
      refine A_iastN (j := b) dX2_tip_137 hF.l4 rfl hb8 (by decide) ?_
      refine A_vret dX2_tip_138 rfl ?_
      refine hP _ ?_ ((((((Fr.up (by omega) (by omega)).tr (Fr.up (by omega) (by omega))).tr (Fr.up (by omega) (by omega))).tr (Fr.up (by omega) (by omega))).tr (Fr.up (by omega) (by omega))))
      have h5n : c 5 b < 0 := by
        rcases (hC.1.2 b hb).2 with e | e
        · rw [e]; decide +kernel
        · exact absurd ⟨N (c 5 b), h5.trans e.1.1, e.2.1⟩ g
      have hbr : brookB c tw b = true := by unfold brookB; simp [h5n]
      have h9 := ((((hR.setQ (i := 1) (v := sQ S 1 + sH S b) (by omega)).setH (v := 0) hb8).setD (n := N (c 4 b)) hb8 hrest.2).setK (v := sK S b + 1) hb8).setL (v := nI t) hb8
      have e : tipP c tw t b S = setL b (nI t) (setK b (sK S b + 1) (setD b (N (c 4 b)) (setH b 0 (setQ 1 (sQ S 1 + sH S b) S)))) := by
        unfold tipP fallP
        rw [if_pos hbr]
        rfl
      rw [e]
      simp (disch := omega) only [up2_a, up2_b]
      rw [g1, hR.1.2.2.1, g4, h4, hR.1.1]
      rw [← hrest.1] at h9
      exact h9
