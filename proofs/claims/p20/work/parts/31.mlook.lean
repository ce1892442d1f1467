/-! the reference's looks: wet, frogs, what a spout gives -/
/-- the reference was told as in c -/
def CM (c μ : MI) : Prop :=
  (μ 75 0 = c 2 0 ∧ μ 75 5 = c 7 0 ∧ μ 75 10 = c 12 0 ∧ μ 75 14 = c 16 0 ∧ μ 75 17 = c 1 4) ∧
  (∀ b, b < N (c 2 0) → μ 76 b = c 3 b ∧ μ 77 b = c 4 b ∧ μ 78 b = c 5 b ∧ μ 79 b = if c 5 b = -1 then -1 else c 6 b) ∧
  (∀ s, s < N (c 7 0) → μ 80 s = c 8 s ∧ μ 81 s = c 9 s ∧ μ 82 s = c 10 s ∧ μ 83 s = c 11 s) ∧
  (∀ k, k < N (c 12 0) → μ 84 k = c 13 k ∧ μ 85 k = c 14 k ∧ μ 86 k = c 15 k) ∧
  (∀ k, k < N (c 16 0) → μ 87 k = c 17 k ∧ μ 88 k = c 18 k)
/-- the reference's settings are as in tw, for the garden g (0: the one that goes on) -/
def TM (g : Nat) (tw μ : MI) : Prop :=
  (∀ s, s < 4 → tw 1 s = (if g = 1 then μ 94 s else 0) ∧ decide (tw 2 s ≠ 0) = (decide (g = 1) && fauB μ s)) ∧
  ∀ b, b < 8 → decide (tw 3 b ≠ 0) = (decide (g = 1) && fauB μ (10 + b)) ∧ decide (tw 4 b ≠ 0) = (decide (g = 1) && fauB μ (20 + b))
theorem m_wetAt {t : Nat} (ht : t < 10000) {c μ : MI} {ν : ML} {P : Po} (hC : WC c) (hc : CM c μ) (hP : P (some (.int (wetP c t))) μ ν) : Ct mX10_wetAt 0 [.ref 75, .int (nI t)] μ ν P := by
  refine Ct.of (ls0 := [_, _, _, _, _]) (by decide) rfl (Nat.le_of_ble_eq_true rfl) rfl ?_
  have hq := hC.2.2.2.1
  have hq1 : μ 75 14 = nI (N (c 16 0)) := hc.1.2.2.2.1.trans hq.1.1
  have hq2 := hq.1.2
  have loop : ∀ (n i : Nat) (bm : Int32), N (c 16 0) - i < n → i ≤ N (c 16 0) → (bm = (wetF (c 17) (c 18) (nI t) i).1 ∨ (bm = -1 ∧ (wetF (c 17) (c 18) (nI t) i).1 = 0)) → AW mX10_wetAt (0, none) P 7 [some (.ref 75), some (.int (nI t)), some (.int (wetF (c 17) (c 18) (nI t) i).2), some (.int bm), some (.int (nI i))] [] μ ν := by
    intro n
    induction n with
    | zero => intro i bm h; omega
    | succ n ih =>
      intro i bm hn hi hb
      refine A_iload dX10_wetAt_7 rfl ?_
      refine A_aload_n dX10_wetAt_9 rfl ?_
      refine A_getI dX10_wetAt_10 flX10_122 rfl rfl ?_
      rw [hq1]
      refine A_icmp_geN (tgt := 60) dX10_wetAt_13 (by decide) (by omega) (by omega) (fun b13 => ?_) (fun b13 => ?_)
      · refine A_iload_n dX10_wetAt_60 rfl ?_
        refine A_iret dX10_wetAt_61 rfl rfl ?_
        rw [show i = N (c 16 0) by omega]
        exact hP
      · obtain ⟨e1, e2⟩ := hc.2.2.2.2 i b13
        have e3 := (hq.2 i b13).1
        refine A_aload_n dX10_wetAt_16 rfl ?_
        refine A_getR dX10_wetAt_17 flX10_43 rfl rfl ?_
        refine A_iload dX10_wetAt_20 rfl ?_
        refine A_ialdN (j := i) dX10_wetAt_22 rfl rfl (by omega) (by decide) ?_
        rw [e1]
        refine A_iload_n dX10_wetAt_23 rfl ?_
        refine A_icmp_gt (tgt := 54) dX10_wetAt_24 (by decide) (fun b24 => ?_) (fun b24 => ?_)
        · refine A_iincN (ls1 := [_, _, _, _, _]) dX10_wetAt_54 rfl (by decide) rfl rfl ?_
          refine A_goto (tgt := 7) dX10_wetAt_57 (by decide) ?_
          have h9 := ih (i + 1) bm (by omega) (by omega) (by rw [wetF, if_neg (fun q => i_le_n q.2 b24)]; exact hb)
          rw [wetF, if_neg (fun q => i_le_n q.2 b24)] at h9
          exact h9
        · refine A_aload_n dX10_wetAt_27 rfl ?_
          refine A_getR dX10_wetAt_28 flX10_43 rfl rfl ?_
          refine A_iload dX10_wetAt_31 rfl ?_
          refine A_ialdN (j := i) dX10_wetAt_33 rfl rfl (by omega) (by decide) ?_
          rw [e1]
          refine A_iload_n dX10_wetAt_34 rfl ?_
          refine A_icmp_lt (tgt := 54) dX10_wetAt_35 (by decide) (fun b35 => ?_) (fun b35 => ?_)
          · refine A_iincN (ls1 := [_, _, _, _, _]) dX10_wetAt_54 rfl (by decide) rfl rfl ?_
            refine A_goto (tgt := 7) dX10_wetAt_57 (by decide) ?_
            have hn2 : ¬ ((wetF (c 17) (c 18) (nI t) i).1 ≤ c 17 i ∧ c 17 i ≤ nI t) := fun q => by
              rcases hb with hb | ⟨hb, hb2⟩
              · rw [hb] at b35
                exact i_le_n q.1 b35
              · rw [hb, e3] at b35
                exact i_lt_n b35 (by rw [fa_le, nI_toInt (by have := (hq.2 i b13).2; omega)]; show (-1 : Int32).toInt ≤ _; rw [show (-1 : Int32).toInt = -1 by decide +kernel]; omega)
            have h9 := ih (i + 1) bm (by omega) (by omega) (by rw [wetF, if_neg hn2]; exact hb)
            rw [wetF, if_neg hn2] at h9
            exact h9
          · refine A_aload_n dX10_wetAt_38 rfl ?_
            refine A_getR dX10_wetAt_39 flX10_43 rfl rfl ?_
            refine A_iload dX10_wetAt_42 rfl ?_
            refine A_ialdN (j := i) dX10_wetAt_44 rfl rfl (by omega) (by decide) ?_
            rw [e1]
            refine A_istore_n (ls1 := [_, _, _, _, _]) dX10_wetAt_45 (by decide) rfl rfl ?_
            refine A_aload_n dX10_wetAt_46 rfl ?_
            refine A_getR dX10_wetAt_47 flX10_46 rfl rfl ?_
            refine A_iload dX10_wetAt_50 rfl ?_
            refine A_ialdN (j := i) dX10_wetAt_52 rfl rfl (by omega) (by decide) ?_
            rw [e2]
            refine A_istore_n (ls1 := [_, _, _, _, _]) dX10_wetAt_53 (by decide) rfl rfl ?_
            refine A_iincN (ls1 := [_, _, _, _, _]) dX10_wetAt_54 rfl (by decide) rfl rfl ?_
            refine A_goto (tgt := 7) dX10_wetAt_57 (by decide) ?_
            have hy2 : (wetF (c 17) (c 18) (nI t) i).1 ≤ c 17 i ∧ c 17 i ≤ nI t := ⟨by
              rcases hb with hb | ⟨hb, hb2⟩
              · rw [← hb]
                exact i_nlt b35
              · rw [hb2, e3]
                exact nI_pos' (by have := (hq.2 i b13).2; omega), i_nlt b24⟩
            have h9 := ih (i + 1) (c 17 i) (by omega) (by omega) (by rw [wetF, if_pos hy2]; exact Or.inl rfl)
            rw [wetF, if_pos hy2] at h9
            exact h9
  refine A_iconst (v := nI 0) dX10_wetAt_0 (by decide +kernel) ?_
  refine A_istore_n (ls1 := [_, _, _, _, _]) dX10_wetAt_1 (by decide) rfl rfl ?_
  refine A_iconst (v := (-1)) dX10_wetAt_2 (by decide +kernel) ?_
  refine A_istore_n (ls1 := [_, _, _, _, _]) dX10_wetAt_3 (by decide) rfl rfl ?_
  refine A_iconst (v := nI 0) dX10_wetAt_4 (by decide +kernel) ?_
  refine A_istore (ls1 := [_, _, _, _, _]) dX10_wetAt_5 (by decide) rfl rfl ?_
  exact loop (N (c 16 0) + 1) 0 (-1) (by omega) (by omega) (Or.inr ⟨rfl, rfl⟩)
def bN (b : Bool) : Nat := if b then 1 else 0
theorem bN_le (b : Bool) : bN b ≤ 1 := by cases b <;> decide
theorem bN_nar (b : Bool) : narrow .boolean (.int (nI (bN b))) = .int (nI (bN b)) := by cases b <;> decide +kernel
theorem bN_ne {b : Bool} (h : ¬ nI (bN b) = 0) : b = true := by
  cases b with
  | false => exact absurd rfl h
  | true => rfl
theorem bN_eq {b : Bool} (h : nI (bN b) = 0) : b = false := by
  cases b with
  | false => rfl
  | true => exact absurd h (by decide +kernel)
theorem m_hasFrog {s t : Nat} (ht : t < 10000) {c μ : MI} {ν : ML} {P : Po} (hC : WC c) (hc : CM c μ) (h1 : frogB c s t = true → P (some (.int (nI 1))) μ ν) (h0 : frogB c s t = false → P (some (.int (nI 0))) μ ν) : Ct mX10_hasFrog 1 [.ref 75, .int (nI s), .int (nI t)] μ ν P := by
  refine Ct.of (ls0 := [_, _, _, _, _]) (by decide) rfl (Nat.le_of_ble_eq_true rfl) rfl ?_
  have hq := hC.2.2.1
  have hq1 : μ 75 10 = nI (N (c 12 0)) := hc.1.2.2.1.trans hq.1
  have hq2 := hq.2
  have loop : ∀ (n i : Nat), N (c 12 0) - i < n → i ≤ N (c 12 0) → AW mX10_hasFrog (1, none) P 5 [some (.ref 75), some (.int (nI s)), some (.int (nI t)), some (.int (nI (bN (anyB (sitQ c s t) i)))), some (.int (nI i))] [] μ ν := by
    intro n
    induction n with
    | zero => intro i h; omega
    | succ n ih =>
      intro i hn hi
      have ih1 : i < N (c 12 0) → _ := fun h => ih (i + 1) (by omega) (by omega)
      rw [anyB] at ih1
      refine A_iload dX10_hasFrog_5 rfl ?_
      refine A_aload_n dX10_hasFrog_7 rfl ?_
      refine A_getI dX10_hasFrog_8 flX10_117 rfl rfl ?_
      rw [hq1]
      refine A_icmp_geN (tgt := 65) dX10_hasFrog_11 (by decide) (by omega) (by omega) (fun b11 => ?_) (fun b11 => ?_)
      · refine A_iload_n dX10_hasFrog_65 rfl ?_
        refine A_iret dX10_hasFrog_66 rfl (bN_nar _) ?_
        rw [show i = N (c 12 0) by omega]
        cases hh : frogB c s t with
        | true => rw [show anyB (sitQ c s t) (N (c 12 0)) = true from hh]; exact h1 hh
        | false => rw [show anyB (sitQ c s t) (N (c 12 0)) = false from hh]; exact h0 hh
      · obtain ⟨e1, e2, e3⟩ := hc.2.2.2.1 i b11
        have ih1 := ih1 b11
        refine A_iload_n dX10_hasFrog_14 rfl ?_
        refine A_if_ne (tgt := 53) dX10_hasFrog_15 (by decide) (fun b15 => ?_) (fun b15 => ?_)
        · refine A_iconst (v := nI 1) dX10_hasFrog_53 (by decide +kernel) ?_
          refine A_goto (tgt := 58) dX10_hasFrog_54 (by decide) ?_
          refine A_istore_n (ls1 := [_, _, _, _, _]) dX10_hasFrog_58 (by decide) rfl rfl ?_
          refine A_iincN (ls1 := [_, _, _, _, _]) dX10_hasFrog_59 rfl (by decide) rfl rfl ?_
          refine A_goto (tgt := 5) dX10_hasFrog_62 (by decide) ?_
          rw [bN_ne b15, Bool.true_or] at ih1
          exact ih1
        · refine A_aload_n dX10_hasFrog_18 rfl ?_
          refine A_getR dX10_hasFrog_19 flX10_34 rfl rfl ?_
          refine A_iload dX10_hasFrog_22 rfl ?_
          refine A_ialdN (j := i) dX10_hasFrog_24 rfl rfl (by omega) (by decide) ?_
          rw [e1]
          refine A_iload_n dX10_hasFrog_25 rfl ?_
          refine A_icmp_ne (tgt := 57) dX10_hasFrog_26 (by decide) (fun b26 => ?_) (fun b26 => ?_)
          · refine A_iconst (v := nI 0) dX10_hasFrog_57 (by decide +kernel) ?_
            refine A_istore_n (ls1 := [_, _, _, _, _]) dX10_hasFrog_58 (by decide) rfl rfl ?_
            refine A_iincN (ls1 := [_, _, _, _, _]) dX10_hasFrog_59 rfl (by decide) rfl rfl ?_
            refine A_goto (tgt := 5) dX10_hasFrog_62 (by decide) ?_
            rw [bN_eq b15, Bool.false_or, show sitQ c s t i = false by unfold sitQ; rw [decide_eq_false b26, Bool.false_and]] at ih1
            exact ih1
          · refine A_iload_n dX10_hasFrog_29 rfl ?_
            refine A_i2l dX10_hasFrog_30 ?_
            refine A_aload_n dX10_hasFrog_31 rfl ?_
            refine A_getR dX10_hasFrog_32 flX10_37 rfl rfl ?_
            refine A_iload dX10_hasFrog_35 rfl ?_
            refine A_ialdN (j := i) dX10_hasFrog_37 rfl rfl (by omega) (by decide) ?_
            rw [e2]
            refine A_i2l dX10_hasFrog_38 ?_
            refine A_aload_n dX10_hasFrog_39 rfl ?_
            refine A_getR dX10_hasFrog_40 flX10_40 rfl rfl ?_
            refine A_iload dX10_hasFrog_43 rfl ?_
            refine A_ialdN (j := i) dX10_hasFrog_45 rfl rfl (by omega) (by decide) ?_
            rw [e3]
            refine A_i2l dX10_hasFrog_46 ?_
            refine A_callS3 dX10_hasFrog_47 mlX10_95 (by decide) (Nat.le_of_ble_eq_true rfl) (m_in (nI t) (c 14 i) (c 15 i) rfl rfl rfl (fun g1 g2 => ?_) (fun g3 => ?_))
            · refine Kn.s ?_
              refine A_if_eq (tgt := 57) dX10_hasFrog_50 (by decide) (fun h => absurd h (by decide +kernel)) (fun _ => ?_)
              refine A_iconst (v := nI 1) dX10_hasFrog_53 (by decide +kernel) ?_
              refine A_goto (tgt := 58) dX10_hasFrog_54 (by decide) ?_
              refine A_istore_n (ls1 := [_, _, _, _, _]) dX10_hasFrog_58 (by decide) rfl rfl ?_
              refine A_iincN (ls1 := [_, _, _, _, _]) dX10_hasFrog_59 rfl (by decide) rfl rfl ?_
              refine A_goto (tgt := 5) dX10_hasFrog_62 (by decide) ?_
              rw [bN_eq b15, Bool.false_or, show sitQ c s t i = true by unfold sitQ; rw [decide_eq_true b26, decide_eq_true g1, decide_eq_true g2]; rfl] at ih1
              exact ih1
            · refine Kn.s ?_
              refine A_if_eq (tgt := 57) dX10_hasFrog_50 (by decide) (fun _ => ?_) (fun h => absurd h (by decide +kernel))
              refine A_iconst (v := nI 0) dX10_hasFrog_57 (by decide +kernel) ?_
              refine A_istore_n (ls1 := [_, _, _, _, _]) dX10_hasFrog_58 (by decide) rfl rfl ?_
              refine A_iincN (ls1 := [_, _, _, _, _]) dX10_hasFrog_59 rfl (by decide) rfl rfl ?_
              refine A_goto (tgt := 5) dX10_hasFrog_62 (by decide) ?_
              rw [bN_eq b15, Bool.false_or, show sitQ c s t i = false by unfold sitQ; rw [decide_eq_true b26, Bool.true_and, ← Bool.decide_and, decide_eq_false g3]] at ih1
              exact ih1
  refine A_iconst (v := nI 0) dX10_hasFrog_0 (by decide +kernel) ?_
  refine A_istore_n (ls1 := [_, _, _, _, _]) dX10_hasFrog_1 (by decide) rfl rfl ?_
  refine A_iconst (v := nI 0) dX10_hasFrog_2 (by decide +kernel) ?_
  refine A_istore (ls1 := [_, _, _, _, _]) dX10_hasFrog_3 (by decide) rfl rfl ?_
  exact loop (N (c 12 0) + 1) 0 (by omega) (by omega)
/-- what a spout gives at a tick -/
def givP (c tw : MI) (t s : Nat) : Int32 := if (dueB c s t && !(heldB c tw s t)) = true then waterP c tw t s else 0
theorem m_dripOf {g s t : Nat} (p : Int32) (ht : t < 10000) {c tw μ : MI} {ν : ML} {P : Po} (hC : WC c) (hc : CM c μ) (hT : TM g tw μ) (hg : g = 0 ∨ g = 1) (hp : tw 0 0 = p) (hs : s < N (c 7 0)) (hP : P (some (.int (givP c tw t s))) μ ν) : Ct mX10_dripOf 2 [.ref 75, .int (nI g), .int (nI s), .int (nI t), .int p] μ ν P := by
  refine Ct.of (ls0 := [_, _, _, _, _, _, _]) (by decide) rfl (Nat.le_of_ble_eq_true rfl) rfl ?_
  have hs4 : s < 4 := Nat.lt_of_lt_of_le hs hC.2.1.1.2
  obtain ⟨e1, e2, e3, e4⟩ := hc.2.2.1 s hs
  obtain ⟨t1, t2⟩ := hT.1 s hs4
  obtain ⟨⟨w1, w2⟩, ⟨w3, w4⟩, w5⟩ := hC.2.1.2 s hs
  have w32 := w3.2
  have w52 := w5.2
  rw [w5.1] at e4
  rw [w3.1] at e3
  have tail3 : ∀ d : Nat, d ≤ 1 → (d = 1 ↔ (dueB c s t && !(heldB c tw s t)) = true) → AW mX10_dripOf (2, none) P 98 [some (.ref 75), some (.int (nI g)), some (.int (nI s)), some (.int (nI t)), some (.int p), some (.int (nI d)), none] [.int (if tw 0 0 = 0 then wetP c t else 0), .int (c 9 s + tw 1 s)] μ ν := by
    intro d hd hi
    unfold givP waterP at hP
    refine A_iadd dX10_dripOf_98 ?_
    refine A_istore (ls1 := [_, _, _, _, _, _, _]) dX10_dripOf_99 (by decide) rfl rfl ?_
    refine A_iload dX10_dripOf_101 rfl ?_
    refine A_if_eq (tgt := 116) dX10_dripOf_103 (by decide) (fun b103 => ?_) (fun b103 => ?_)
    · refine A_iconst (v := nI 0) dX10_dripOf_116 (by decide +kernel) ?_
      refine A_iret dX10_dripOf_117 rfl rfl ?_
      rw [if_neg (fun q => by rw [hi.mpr q] at b103; exact absurd b103 (by decide +kernel))] at hP
      exact hP
    · refine A_iload dX10_dripOf_106 rfl ?_
      refine A_if_le (tgt := 116) dX10_dripOf_108 (by decide) (fun b108 => ?_) (fun b108 => ?_)
      · refine A_iconst (v := nI 0) dX10_dripOf_116 (by decide +kernel) ?_
        refine A_iret dX10_dripOf_117 rfl rfl ?_
        rw [if_neg (i_le_n b108), ite_self] at hP
        exact hP
      · refine A_iload dX10_dripOf_111 rfl ?_
        refine A_goto (tgt := 117) dX10_dripOf_113 (by decide) ?_
        refine A_iret dX10_dripOf_117 rfl rfl ?_
        have hd1 : d = 1 := by
          rcases (show d = 0 ∨ d = 1 by omega) with h | h
          · exact absurd (by rw [h]; rfl) b103
          · exact h
        rw [if_pos (hi.mp hd1), if_pos (i_nle b108)] at hP
        exact hP
  have tail2 : ∀ d : Nat, d ≤ 1 → (d = 1 ↔ (dueB c s t && !(heldB c tw s t)) = true) → AW mX10_dripOf (2, none) P 83 [some (.ref 75), some (.int (nI g)), some (.int (nI s)), some (.int (nI t)), some (.int p), some (.int (nI d)), none] [.int (tw 1 s), .int (c 9 s)] μ ν := by
    intro d hd hi
    have h9 := tail3 d hd hi
    refine A_iadd dX10_dripOf_83 ?_
    refine A_iload dX10_dripOf_84 rfl ?_
    refine A_if_eq (tgt := 93) dX10_dripOf_86 (by decide) (fun b86 => ?_) (fun b86 => ?_)
    · refine A_aload_n dX10_dripOf_93 rfl ?_
      refine A_iload_n dX10_dripOf_94 rfl ?_
      refine A_callV1 dX10_dripOf_95 mlX10_137 (by decide) rfl rfl (Nat.le_of_ble_eq_true rfl) (m_wetAt ht hC hc ?_)
      refine Kn.s ?_
      rw [hp, if_pos b86] at h9
      exact h9
    · refine A_iconst (v := nI 0) dX10_dripOf_89 (by decide +kernel) ?_
      refine A_goto (tgt := 98) dX10_dripOf_90 (by decide) ?_
      rw [hp, if_neg b86] at h9
      exact h9
  have tail : ∀ d : Nat, d ≤ 1 → (d = 1 ↔ (dueB c s t && !(heldB c tw s t)) = true) → AW mX10_dripOf (2, none) P 60 [some (.ref 75), some (.int (nI g)), some (.int (nI s)), some (.int (nI t)), some (.int p), none, none] [.int (nI d)] μ ν := by
    intro d hd hi
    have h9 := tail2 d hd hi
    rw [t1] at h9
    refine A_istore (ls1 := [_, _, _, _, _, _, _]) dX10_dripOf_60 (by decide) rfl rfl ?_
    refine A_aload_n dX10_dripOf_62 rfl ?_
    refine A_getR dX10_dripOf_63 flX10_25 rfl rfl ?_
    refine A_iload_n dX10_dripOf_66 rfl ?_
    refine A_ialdN (j := s) dX10_dripOf_67 rfl rfl hs4 (by decide) ?_
    rw [e2]
    refine A_iload_n dX10_dripOf_68 rfl ?_
    refine A_iconst (v := nI 1) dX10_dripOf_69 (by decide +kernel) ?_
    refine A_icmp_neN (tgt := 82) dX10_dripOf_70 (by decide) (by omega) (by omega) (fun b70 => ?_) (fun b70 => ?_)
    · refine A_iconst (v := nI 0) dX10_dripOf_82 (by decide +kernel) ?_
      rw [if_neg b70] at h9
      exact h9
    · refine A_aload_n dX10_dripOf_73 rfl ?_
      refine A_getR dX10_dripOf_74 flX10_71 rfl rfl ?_
      refine A_iload_n dX10_dripOf_77 rfl ?_
      refine A_ialdN (j := s) dX10_dripOf_78 rfl rfl hs4 (by decide) ?_
      refine A_goto (tgt := 83) dX10_dripOf_79 (by decide) ?_
      rw [if_pos b70] at h9
      exact h9
  have hdue : dueB c s t = (decide (N (c 11 s) ≤ t) && decide ((t - N (c 11 s)) % N (c 10 s) = 0)) := rfl
  have hheld : heldB c tw s t = ((decide (g = 1) && fauB μ s) || (decide (p = 0) && frogB c s t)) := by unfold heldB; rw [t2, hp]
  refine A_iload_n dX10_dripOf_0 rfl ?_
  refine A_aload_n dX10_dripOf_1 rfl ?_
  refine A_getR dX10_dripOf_2 flX10_31 rfl rfl ?_
  refine A_iload_n dX10_dripOf_5 rfl ?_
  refine A_ialdN (j := s) dX10_dripOf_6 rfl rfl hs4 (by decide) ?_
  rw [e4]
  refine A_icmp_ltN (tgt := 59) dX10_dripOf_7 (by decide) (by omega) (by omega) (fun b7 => ?_) (fun b7 => ?_)
  · refine A_iconst (v := nI 0) dX10_dripOf_59 (by decide +kernel) ?_
    first
      | exact tail 0 (by omega) ⟨fun q => by omega, fun q => by rw [hdue, decide_eq_false (show ¬ N (c 11 s) ≤ t by omega)] at q; cases q⟩
      | exact tail 0 (by omega) ⟨fun q => by omega, fun q => by rw [hdue, decide_eq_false (show ¬ (t - N (c 11 s)) % N (c 10 s) = 0 from fun z => b25 (by rw [z]; rfl)), Bool.and_false] at q; cases q⟩
      | exact tail 0 (by omega) ⟨fun q => by omega, fun q => by rw [hheld, decide_eq_true b30, g1, Bool.true_and, Bool.or_true, Bool.not_true, Bool.and_false] at q; cases q⟩
      | exact tail 0 (by omega) ⟨fun q => by omega, fun q => by rw [hheld, decide_eq_true b44, g2, Bool.true_and, Bool.true_or, Bool.not_true, Bool.and_false] at q; cases q⟩
      | (have hd1 : dueB c s t = true := by
           rw [hdue, decide_eq_true b7, decide_eq_true (show (t - N (c 11 s)) % N (c 10 s) = 0 from (nI_eq (b := 0) (by have := Nat.mod_lt (t - N (c 11 s)) w4; omega) (by omega)).mp b25)]
           rfl
         have hd2 : heldB c tw s t = false := by
           rw [hheld]
           first
             | rw [decide_eq_false b44, decide_eq_false b30]; rfl
             | rw [decide_eq_false b44, g1, Bool.and_false]; rfl
             | rw [g2, decide_eq_false b30, Bool.and_false]; rfl
             | rw [g2, g1, Bool.and_false, Bool.and_false]; rfl
         exact tail 1 (by omega) ⟨fun _ => by rw [hd1, hd2]; rfl, fun _ => rfl⟩)
  · refine A_iload_n dX10_dripOf_10 rfl ?_
    refine A_aload_n dX10_dripOf_11 rfl ?_
    refine A_getR dX10_dripOf_12 flX10_31 rfl rfl ?_
    refine A_iload_n dX10_dripOf_15 rfl ?_
    refine A_ialdN (j := s) dX10_dripOf_16 rfl rfl hs4 (by decide) ?_
    rw [e4]
    refine A_isub dX10_dripOf_17 ?_
    rw [pk_sub b7]
    refine A_aload_n dX10_dripOf_18 rfl ?_
    refine A_getR dX10_dripOf_19 flX10_28 rfl rfl ?_
    refine A_iload_n dX10_dripOf_22 rfl ?_
    refine A_ialdN (j := s) dX10_dripOf_23 rfl rfl hs4 (by decide) ?_
    rw [e3]
    refine A_iremN dX10_dripOf_24 (by omega) (by omega) (by omega) ?_
    refine A_if_ne (tgt := 59) dX10_dripOf_25 (by decide) (fun b25 => ?_) (fun b25 => ?_)
    · refine A_iconst (v := nI 0) dX10_dripOf_59 (by decide +kernel) ?_
      first
        | exact tail 0 (by omega) ⟨fun q => by omega, fun q => by rw [hdue, decide_eq_false (show ¬ N (c 11 s) ≤ t by omega)] at q; cases q⟩
        | exact tail 0 (by omega) ⟨fun q => by omega, fun q => by rw [hdue, decide_eq_false (show ¬ (t - N (c 11 s)) % N (c 10 s) = 0 from fun z => b25 (by rw [z]; rfl)), Bool.and_false] at q; cases q⟩
        | exact tail 0 (by omega) ⟨fun q => by omega, fun q => by rw [hheld, decide_eq_true b30, g1, Bool.true_and, Bool.or_true, Bool.not_true, Bool.and_false] at q; cases q⟩
        | exact tail 0 (by omega) ⟨fun q => by omega, fun q => by rw [hheld, decide_eq_true b44, g2, Bool.true_and, Bool.true_or, Bool.not_true, Bool.and_false] at q; cases q⟩
        | (have hd1 : dueB c s t = true := by
             rw [hdue, decide_eq_true b7, decide_eq_true (show (t - N (c 11 s)) % N (c 10 s) = 0 from (nI_eq (b := 0) (by have := Nat.mod_lt (t - N (c 11 s)) w4; omega) (by omega)).mp b25)]
             rfl
           have hd2 : heldB c tw s t = false := by
             rw [hheld]
             first
               | rw [decide_eq_false b44, decide_eq_false b30]; rfl
               | rw [decide_eq_false b44, g1, Bool.and_false]; rfl
               | rw [g2, decide_eq_false b30, Bool.and_false]; rfl
               | rw [g2, g1, Bool.and_false, Bool.and_false]; rfl
           exact tail 1 (by omega) ⟨fun _ => by rw [hd1, hd2]; rfl, fun _ => rfl⟩)
    · refine A_iload dX10_dripOf_28 rfl ?_
      refine A_if_ne (tgt := 42) dX10_dripOf_30 (by decide) (fun b30 => ?_) (fun b30 => ?_)
      · refine A_iload_n dX10_dripOf_42 rfl ?_
        refine A_iconst (v := nI 1) dX10_dripOf_43 (by decide +kernel) ?_
        refine A_icmp_neN (tgt := 55) dX10_dripOf_44 (by decide) (by omega) (by omega) (fun b44 => ?_) (fun b44 => ?_)
        · refine A_iconst (v := nI 1) dX10_dripOf_55 (by decide +kernel) ?_
          refine A_goto (tgt := 60) dX10_dripOf_56 (by decide) ?_
          first
            | exact tail 0 (by omega) ⟨fun q => by omega, fun q => by rw [hdue, decide_eq_false (show ¬ N (c 11 s) ≤ t by omega)] at q; cases q⟩
            | exact tail 0 (by omega) ⟨fun q => by omega, fun q => by rw [hdue, decide_eq_false (show ¬ (t - N (c 11 s)) % N (c 10 s) = 0 from fun z => b25 (by rw [z]; rfl)), Bool.and_false] at q; cases q⟩
            | exact tail 0 (by omega) ⟨fun q => by omega, fun q => by rw [hheld, decide_eq_true b30, g1, Bool.true_and, Bool.or_true, Bool.not_true, Bool.and_false] at q; cases q⟩
            | exact tail 0 (by omega) ⟨fun q => by omega, fun q => by rw [hheld, decide_eq_true b44, g2, Bool.true_and, Bool.true_or, Bool.not_true, Bool.and_false] at q; cases q⟩
            | (have hd1 : dueB c s t = true := by
                 rw [hdue, decide_eq_true b7, decide_eq_true (show (t - N (c 11 s)) % N (c 10 s) = 0 from (nI_eq (b := 0) (by have := Nat.mod_lt (t - N (c 11 s)) w4; omega) (by omega)).mp b25)]
                 rfl
               have hd2 : heldB c tw s t = false := by
                 rw [hheld]
                 first
                   | rw [decide_eq_false b44, decide_eq_false b30]; rfl
                   | rw [decide_eq_false b44, g1, Bool.and_false]; rfl
                   | rw [g2, decide_eq_false b30, Bool.and_false]; rfl
                   | rw [g2, g1, Bool.and_false, Bool.and_false]; rfl
               exact tail 1 (by omega) ⟨fun _ => by rw [hd1, hd2]; rfl, fun _ => rfl⟩)
        · refine A_aload_n dX10_dripOf_47 rfl ?_
          refine A_iload_n dX10_dripOf_48 rfl ?_
          refine A_callV1 dX10_dripOf_49 mlX10_134 (by decide) rfl rfl (Nat.le_of_ble_eq_true rfl) (m_isFault s (fun g2 => ?_) (fun g2 => ?_))
          · refine Kn.s ?_
            refine A_if_ne (tgt := 59) dX10_dripOf_52 (by decide) (fun _ => ?_) (fun h => absurd h (by decide +kernel))
            refine A_iconst (v := nI 0) dX10_dripOf_59 (by decide +kernel) ?_
            first
              | exact tail 0 (by omega) ⟨fun q => by omega, fun q => by rw [hdue, decide_eq_false (show ¬ N (c 11 s) ≤ t by omega)] at q; cases q⟩
              | exact tail 0 (by omega) ⟨fun q => by omega, fun q => by rw [hdue, decide_eq_false (show ¬ (t - N (c 11 s)) % N (c 10 s) = 0 from fun z => b25 (by rw [z]; rfl)), Bool.and_false] at q; cases q⟩
              | exact tail 0 (by omega) ⟨fun q => by omega, fun q => by rw [hheld, decide_eq_true b30, g1, Bool.true_and, Bool.or_true, Bool.not_true, Bool.and_false] at q; cases q⟩
              | exact tail 0 (by omega) ⟨fun q => by omega, fun q => by rw [hheld, decide_eq_true b44, g2, Bool.true_and, Bool.true_or, Bool.not_true, Bool.and_false] at q; cases q⟩
              | (have hd1 : dueB c s t = true := by
                   rw [hdue, decide_eq_true b7, decide_eq_true (show (t - N (c 11 s)) % N (c 10 s) = 0 from (nI_eq (b := 0) (by have := Nat.mod_lt (t - N (c 11 s)) w4; omega) (by omega)).mp b25)]
                   rfl
                 have hd2 : heldB c tw s t = false := by
                   rw [hheld]
                   first
                     | rw [decide_eq_false b44, decide_eq_false b30]; rfl
                     | rw [decide_eq_false b44, g1, Bool.and_false]; rfl
                     | rw [g2, decide_eq_false b30, Bool.and_false]; rfl
                     | rw [g2, g1, Bool.and_false, Bool.and_false]; rfl
                 exact tail 1 (by omega) ⟨fun _ => by rw [hd1, hd2]; rfl, fun _ => rfl⟩)
          · refine Kn.s ?_
            refine A_if_ne (tgt := 59) dX10_dripOf_52 (by decide) (fun h => absurd h (by decide +kernel)) (fun _ => ?_)
            refine A_iconst (v := nI 1) dX10_dripOf_55 (by decide +kernel) ?_
            refine A_goto (tgt := 60) dX10_dripOf_56 (by decide) ?_
            first
              | exact tail 0 (by omega) ⟨fun q => by omega, fun q => by rw [hdue, decide_eq_false (show ¬ N (c 11 s) ≤ t by omega)] at q; cases q⟩
              | exact tail 0 (by omega) ⟨fun q => by omega, fun q => by rw [hdue, decide_eq_false (show ¬ (t - N (c 11 s)) % N (c 10 s) = 0 from fun z => b25 (by rw [z]; rfl)), Bool.and_false] at q; cases q⟩
              | exact tail 0 (by omega) ⟨fun q => by omega, fun q => by rw [hheld, decide_eq_true b30, g1, Bool.true_and, Bool.or_true, Bool.not_true, Bool.and_false] at q; cases q⟩
              | exact tail 0 (by omega) ⟨fun q => by omega, fun q => by rw [hheld, decide_eq_true b44, g2, Bool.true_and, Bool.true_or, Bool.not_true, Bool.and_false] at q; cases q⟩
              | (have hd1 : dueB c s t = true := by
                   rw [hdue, decide_eq_true b7, decide_eq_true (show (t - N (c 11 s)) % N (c 10 s) = 0 from (nI_eq (b := 0) (by have := Nat.mod_lt (t - N (c 11 s)) w4; omega) (by omega)).mp b25)]
                   rfl
                 have hd2 : heldB c tw s t = false := by
                   rw [hheld]
                   first
                     | rw [decide_eq_false b44, decide_eq_false b30]; rfl
                     | rw [decide_eq_false b44, g1, Bool.and_false]; rfl
                     | rw [g2, decide_eq_false b30, Bool.and_false]; rfl
                     | rw [g2, g1, Bool.and_false, Bool.and_false]; rfl
                 exact tail 1 (by omega) ⟨fun _ => by rw [hd1, hd2]; rfl, fun _ => rfl⟩)
      · refine A_aload_n dX10_dripOf_33 rfl ?_
        refine A_iload_n dX10_dripOf_34 rfl ?_
        refine A_iload_n dX10_dripOf_35 rfl ?_
        refine A_callV2 dX10_dripOf_36 mlX10_130 (by decide) rfl rfl (Nat.le_of_ble_eq_true rfl) (m_hasFrog ht hC hc (fun g1 => ?_) (fun g1 => ?_))
        · refine Kn.s ?_
          refine A_if_ne (tgt := 59) dX10_dripOf_39 (by decide) (fun _ => ?_) (fun h => absurd h (by decide +kernel))
          refine A_iconst (v := nI 0) dX10_dripOf_59 (by decide +kernel) ?_
          first
            | exact tail 0 (by omega) ⟨fun q => by omega, fun q => by rw [hdue, decide_eq_false (show ¬ N (c 11 s) ≤ t by omega)] at q; cases q⟩
            | exact tail 0 (by omega) ⟨fun q => by omega, fun q => by rw [hdue, decide_eq_false (show ¬ (t - N (c 11 s)) % N (c 10 s) = 0 from fun z => b25 (by rw [z]; rfl)), Bool.and_false] at q; cases q⟩
            | exact tail 0 (by omega) ⟨fun q => by omega, fun q => by rw [hheld, decide_eq_true b30, g1, Bool.true_and, Bool.or_true, Bool.not_true, Bool.and_false] at q; cases q⟩
            | exact tail 0 (by omega) ⟨fun q => by omega, fun q => by rw [hheld, decide_eq_true b44, g2, Bool.true_and, Bool.true_or, Bool.not_true, Bool.and_false] at q; cases q⟩
            | (have hd1 : dueB c s t = true := by
                 rw [hdue, decide_eq_true b7, decide_eq_true (show (t - N (c 11 s)) % N (c 10 s) = 0 from (nI_eq (b := 0) (by have := Nat.mod_lt (t - N (c 11 s)) w4; omega) (by omega)).mp b25)]
                 rfl
               have hd2 : heldB c tw s t = false := by
                 rw [hheld]
                 first
                   | rw [decide_eq_false b44, decide_eq_false b30]; rfl
                   | rw [decide_eq_false b44, g1, Bool.and_false]; rfl
                   | rw [g2, decide_eq_false b30, Bool.and_false]; rfl
                   | rw [g2, g1, Bool.and_false, Bool.and_false]; rfl
               exact tail 1 (by omega) ⟨fun _ => by rw [hd1, hd2]; rfl, fun _ => rfl⟩)
        · refine Kn.s ?_
          refine A_if_ne (tgt := 59) dX10_dripOf_39 (by decide) (fun h => absurd h (by decide +kernel)) (fun _ => ?_)
          refine A_iload_n dX10_dripOf_42 rfl ?_
          refine A_iconst (v := nI 1) dX10_dripOf_43 (by decide +kernel) ?_
          refine A_icmp_neN (tgt := 55) dX10_dripOf_44 (by decide) (by omega) (by omega) (fun b44 => ?_) (fun b44 => ?_)
          · refine A_iconst (v := nI 1) dX10_dripOf_55 (by decide +kernel) ?_
            refine A_goto (tgt := 60) dX10_dripOf_56 (by decide) ?_
            first
              | exact tail 0 (by omega) ⟨fun q => by omega, fun q => by rw [hdue, decide_eq_false (show ¬ N (c 11 s) ≤ t by omega)] at q; cases q⟩
              | exact tail 0 (by omega) ⟨fun q => by omega, fun q => by rw [hdue, decide_eq_false (show ¬ (t - N (c 11 s)) % N (c 10 s) = 0 from fun z => b25 (by rw [z]; rfl)), Bool.and_false] at q; cases q⟩
              | exact tail 0 (by omega) ⟨fun q => by omega, fun q => by rw [hheld, decide_eq_true b30, g1, Bool.true_and, Bool.or_true, Bool.not_true, Bool.and_false] at q; cases q⟩
              | exact tail 0 (by omega) ⟨fun q => by omega, fun q => by rw [hheld, decide_eq_true b44, g2, Bool.true_and, Bool.true_or, Bool.not_true, Bool.and_false] at q; cases q⟩
              | (have hd1 : dueB c s t = true := by
                   rw [hdue, decide_eq_true b7, decide_eq_true (show (t - N (c 11 s)) % N (c 10 s) = 0 from (nI_eq (b := 0) (by have := Nat.mod_lt (t - N (c 11 s)) w4; omega) (by omega)).mp b25)]
                   rfl
                 have hd2 : heldB c tw s t = false := by
                   rw [hheld]
                   first
                     | rw [decide_eq_false b44, decide_eq_false b30]; rfl
                     | rw [decide_eq_false b44, g1, Bool.and_false]; rfl
                     | rw [g2, decide_eq_false b30, Bool.and_false]; rfl
                     | rw [g2, g1, Bool.and_false, Bool.and_false]; rfl
                 exact tail 1 (by omega) ⟨fun _ => by rw [hd1, hd2]; rfl, fun _ => rfl⟩)
          · refine A_aload_n dX10_dripOf_47 rfl ?_
            refine A_iload_n dX10_dripOf_48 rfl ?_
            refine A_callV1 dX10_dripOf_49 mlX10_134 (by decide) rfl rfl (Nat.le_of_ble_eq_true rfl) (m_isFault s (fun g2 => ?_) (fun g2 => ?_))
            · refine Kn.s ?_
              refine A_if_ne (tgt := 59) dX10_dripOf_52 (by decide) (fun _ => ?_) (fun h => absurd h (by decide +kernel))
              refine A_iconst (v := nI 0) dX10_dripOf_59 (by decide +kernel) ?_
              first
                | exact tail 0 (by omega) ⟨fun q => by omega, fun q => by rw [hdue, decide_eq_false (show ¬ N (c 11 s) ≤ t by omega)] at q; cases q⟩
                | exact tail 0 (by omega) ⟨fun q => by omega, fun q => by rw [hdue, decide_eq_false (show ¬ (t - N (c 11 s)) % N (c 10 s) = 0 from fun z => b25 (by rw [z]; rfl)), Bool.and_false] at q; cases q⟩
                | exact tail 0 (by omega) ⟨fun q => by omega, fun q => by rw [hheld, decide_eq_true b30, g1, Bool.true_and, Bool.or_true, Bool.not_true, Bool.and_false] at q; cases q⟩
                | exact tail 0 (by omega) ⟨fun q => by omega, fun q => by rw [hheld, decide_eq_true b44, g2, Bool.true_and, Bool.true_or, Bool.not_true, Bool.and_false] at q; cases q⟩
                | (have hd1 : dueB c s t = true := by
                     rw [hdue, decide_eq_true b7, decide_eq_true (show (t - N (c 11 s)) % N (c 10 s) = 0 from (nI_eq (b := 0) (by have := Nat.mod_lt (t - N (c 11 s)) w4; omega) (by omega)).mp b25)]
                     rfl
                   have hd2 : heldB c tw s t = false := by
                     rw [hheld]
                     first
                       | rw [decide_eq_false b44, decide_eq_false b30]; rfl
                       | rw [decide_eq_false b44, g1, Bool.and_false]; rfl
                       | rw [g2, decide_eq_false b30, Bool.and_false]; rfl
                       | rw [g2, g1, Bool.and_false, Bool.and_false]; rfl
                   exact tail 1 (by omega) ⟨fun _ => by rw [hd1, hd2]; rfl, fun _ => rfl⟩)
            · refine Kn.s ?_
              refine A_if_ne (tgt := 59) dX10_dripOf_52 (by decide) (fun h => absurd h (by decide +kernel)) (fun _ => ?_)
              refine A_iconst (v := nI 1) dX10_dripOf_55 (by decide +kernel) ?_
              refine A_goto (tgt := 60) dX10_dripOf_56 (by decide) ?_
              first
                | exact tail 0 (by omega) ⟨fun q => by omega, fun q => by rw [hdue, decide_eq_false (show ¬ N (c 11 s) ≤ t by omega)] at q; cases q⟩
                | exact tail 0 (by omega) ⟨fun q => by omega, fun q => by rw [hdue, decide_eq_false (show ¬ (t - N (c 11 s)) % N (c 10 s) = 0 from fun z => b25 (by rw [z]; rfl)), Bool.and_false] at q; cases q⟩
                | exact tail 0 (by omega) ⟨fun q => by omega, fun q => by rw [hheld, decide_eq_true b30, g1, Bool.true_and, Bool.or_true, Bool.not_true, Bool.and_false] at q; cases q⟩
                | exact tail 0 (by omega) ⟨fun q => by omega, fun q => by rw [hheld, decide_eq_true b44, g2, Bool.true_and, Bool.true_or, Bool.not_true, Bool.and_false] at q; cases q⟩
                | (have hd1 : dueB c s t = true := by
                     rw [hdue, decide_eq_true b7, decide_eq_true (show (t - N (c 11 s)) % N (c 10 s) = 0 from (nI_eq (b := 0) (by have := Nat.mod_lt (t - N (c 11 s)) w4; omega) (by omega)).mp b25)]
                     rfl
                   have hd2 : heldB c tw s t = false := by
                     rw [hheld]
                     first
                       | rw [decide_eq_false b44, decide_eq_false b30]; rfl
                       | rw [decide_eq_false b44, g1, Bool.and_false]; rfl
                       | rw [g2, decide_eq_false b30, Bool.and_false]; rfl
                       | rw [g2, g1, Bool.and_false, Bool.and_false]; rfl
                   exact tail 1 (by omega) ⟨fun _ => by rw [hd1, hd2]; rfl, fun _ => rfl⟩)
