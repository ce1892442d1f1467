/-! the reference's step -/
theorem m_come {g b t k : Nat} (v : Int32) {S : St} {μ : MI} {ν : ML} {P : Po} (hg : g = 0 ∨ g = 1) (hb : b < 8) (ht : t < 10000) (hR : RM g t 0 S μ) (hP : ∀ μ', RM g t 0 (pourP b v S) μ' → Mr g μ μ' → P none μ' ν) : Ct mX10_come 0 [.ref 75, .int (nI g), .int (nI b), .int v, .int (nI t)] μ ν P := by
  refine Ct.of (ls0 := [_, _, _, _, _]) (by decide) rfl (Nat.le_of_ble_eq_true rfl) rfl ?_
  have hu := hR.1.2.1 b hb
  rw [if_neg (by omega)] at hu
  have hge := hu.1.ge ht hu.2
  have hl := hR.1.1 b hb
  have brook : ∀ x : Int32, x = (if g = 0 then v else 0) → nI t ≤ μ 90 (8 * g + b) → P none (up2 μ 75 24 (μ 75 24 + x)) ν := by
    intro x hx hb13
    obtain ⟨h1, h2⟩ := hR.q (i := 1) (w := v) (by omega) hx
    refine hP _ ?_ h2
    unfold pourP
    rw [if_neg (by have := hge.mp hb13; omega)]
    exact h1
  refine A_aload_n dX10_come_0 rfl ?_
  refine A_getR dX10_come_1 flX10_52 rfl rfl ?_
  refine A_bipush (v := nI 8) dX10_come_4 (by decide +kernel) ?_
  refine A_iload_n dX10_come_6 rfl ?_
  refine A_imulN dX10_come_7 ?_
  refine A_iload_n dX10_come_8 rfl ?_
  refine A_iaddN dX10_come_9 ?_
  refine A_ialdN (j := 8 * g + b) dX10_come_10 rfl rfl (by omega) (by decide) ?_
  refine A_iload dX10_come_11 rfl ?_
  refine A_icmp_lt (tgt := 37) dX10_come_13 (by decide) (fun b13 => ?_) (fun b13 => ?_)
  · refine A_aload_n dX10_come_37 rfl ?_
    refine A_getR dX10_come_38 flX10_49 rfl rfl ?_
    refine A_bipush (v := nI 8) dX10_come_41 (by decide +kernel) ?_
    refine A_iload_n dX10_come_43 rfl ?_
    refine A_imulN dX10_come_44 ?_
    refine A_iload_n dX10_come_45 rfl ?_
    refine A_iaddN dX10_come_46 ?_
    refine A_dup2 dX10_come_47 rfl rfl ?_
    refine A_ialdN (j := 8 * g + b) dX10_come_48 rfl rfl (by omega) (by decide) ?_
    refine A_iload_n dX10_come_49 rfl ?_
    refine A_iadd dX10_come_50 ?_
    refine A_iastN (j := 8 * g + b) dX10_come_51 rfl rfl (by omega) (by decide) ?_
    refine A_vret dX10_come_52 rfl ?_
    have h0 : sD S b = 0 := by
      rcases Nat.eq_zero_or_pos (sD S b) with e | e
      · exact e
      · exact absurd (hge.mpr e) (i_lt_n b13)
    obtain ⟨h1, h2⟩ := hR.lev (v := sH S b + v) hb
    rw [hl]
    refine hP _ ?_ h2
    unfold pourP
    rw [if_pos h0]
    exact h1
  · have h13 : nI t ≤ μ 90 (8 * g + b) := i_nlt b13
    refine A_aload_n dX10_come_16 rfl ?_
    refine A_dup dX10_come_17 rfl ?_
    refine A_getI dX10_come_18 flX10_141 rfl rfl ?_
    refine A_iload_n dX10_come_21 rfl ?_
    refine A_if_ne (tgt := 29) dX10_come_22 (by decide) (fun b22 => ?_) (fun b22 => ?_)
    · refine A_iconst (v := nI 0) dX10_come_29 (by decide +kernel) ?_
      refine A_iadd dX10_come_30 ?_
      refine A_put dX10_come_31 fpX10_141 rfl rfl rfl rfl ?_
      refine A_goto (tgt := 52) dX10_come_34 (by decide) ?_
      refine A_vret dX10_come_52 rfl ?_
      exact brook 0 (by rw [if_neg (fun q => b22 (by rw [q]; rfl))]) h13
    · refine A_iload_n dX10_come_25 rfl ?_
      refine A_goto (tgt := 30) dX10_come_26 (by decide) ?_
      refine A_iadd dX10_come_30 ?_
      refine A_put dX10_come_31 fpX10_141 rfl rfl rfl rfl ?_
      refine A_goto (tgt := 52) dX10_come_34 (by decide) ?_
      refine A_vret dX10_come_52 rfl ?_
      exact brook v (by rw [if_pos ((nI_eq (b := 0) (by omega) (by omega)).mp b22)]) h13
theorem knB_n {c tw : MI} {b : Nat} {S : St} : knB c tw b S = (decide (sD S b = 0) && (decide (c 3 b ≤ sH S b) && !decide (tw 3 b ≠ 0))) := by
  unfold knB
  congr 2
  by_cases h : tw 3 b = 0
  · rw [decide_eq_true h, decide_eq_false (fun q => q h)]; rfl
  · rw [decide_eq_false h, decide_eq_true h]; rfl
theorem m_knock {g b t : Nat} {S : St} {c tw μ : MI} {ν : ML} {P : Po} (hg : g = 0 ∨ g = 1) (ht : t < 9000) (hC : WC c) (hc : CM c μ) (hT : TM g tw μ) (hb : b < N (c 2 0)) (hR : RM g t b S μ) (h1 : ∀ μ', knB c tw b S = true → RM g t (b + 1) (turnP c tw t b S) μ' → Mr g μ μ' → P (some (.int (nI 1))) μ' ν) (h0 : ∀ μ', knB c tw b S = false → RM g t (b + 1) (turnP c tw t b S) μ' → Mr g μ μ' → P (some (.int (nI 0))) μ' ν) : Ct mX10_knock 1 [.ref 75, .int (nI g), .int (nI b), .int (nI t)] μ ν P := by
  refine Ct.of (ls0 := [_, _, _, _, _, _]) (by decide) rfl (Nat.le_of_ble_eq_true rfl) rfl ?_
  have hb8 : b < 8 := Nat.lt_of_lt_of_le hb hC.1.1.2
  have hu := hR.1.2.1 b hb8
  rw [if_neg (by omega)] at hu
  have hge := hu.1.ge (by omega) hu.2
  have hl := hR.1.1 b hb8
  obtain ⟨e1, e2, e3, e4⟩ := hc.2.1 b hb
  obtain ⟨t3, t4⟩ := hT.2 b hb8
  obtain ⟨r1, r2⟩ := hC.1.2 b hb
  have r12 := r1.2
  have hk := knB_n (c := c) (tw := tw) (b := b) (S := S)
  have no : knB c tw b S = false → sD S b = 0 → P (some (.int (nI 0))) μ ν := by
    intro q1 q2
    refine h0 μ q1 ?_ Mr.rf
    unfold turnP
    rw [if_neg (by omega), q1, if_neg (by decide)]
    exact hR.k0 hb8 (by omega) q2
  have down : 0 < sD S b → P (some (.int (nI 0))) μ ν := by
    intro q
    refine h0 μ (by rw [hk, decide_eq_false (by omega), Bool.false_and]) ?_ Mr.rf
    unfold turnP
    rw [if_pos q]
    exact hR.kd hb8 (by omega)
  have hbr : brookB c tw b = (decide (tw 4 b ≠ 0) || decide (c 5 b < 0)) := rfl
  have done : ∀ (S1 : St) (μ1 : MI), knB c tw b S = true → fallP c tw b S = S1 → RM g t b S1 μ1 → Mr g μ μ1 → P (some (.int (nI 1))) (up2 (up2 μ1 89 (8 * g + b) 0) 90 (8 * g + b) (nI (t + N (c 4 b)))) ν := by
    intro S1 μ1 q1 q2 q3 q4
    obtain ⟨k1, k2⟩ := q3.lev (v := 0) hb8
    obtain ⟨k3, k4⟩ := k1.kn (r := N (c 4 b)) hb8 (by omega) r12
    refine h1 _ q1 ?_ ((q4.tr k2).tr k4)
    have hz : ¬ 0 < sD S b := by
      intro z
      rw [hk, decide_eq_false (by omega), Bool.false_and] at q1
      cases q1
    unfold turnP
    rw [if_neg hz, if_pos q1]
    unfold tipP
    rw [q2]
    exact k3.kl rfl rfl rfl rfl
  have tailA : ∀ to : Int32, to < 0 → brookB c tw b = true → knB c tw b S = true → AW mX10_knock (1, none) P 79 [some (.ref 75), some (.int (nI g)), some (.int (nI b)), some (.int (nI t)), some (.int (nI (8 * g + b))), none] [.int to] μ ν := by
    intro to hto q1 q2
    have fin : ∀ x : Int32, x = (if g = 0 then sH S b else 0) → P (some (.int (nI 1))) (up2 (up2 (up2 μ 75 24 (μ 75 24 + x)) 89 (8 * g + b) 0) 90 (8 * g + b) (nI (t + N (c 4 b)))) ν := by
      intro x hx
      obtain ⟨k1, k2⟩ := hR.q (i := 1) (w := sH S b) (by omega) hx
      exact done _ _ q2 (by unfold fallP; rw [if_pos q1]) k1 k2
    refine A_istore (ls1 := [_, _, _, _, _, _]) dX10_knock_79 (by decide) rfl rfl ?_
    refine A_iload dX10_knock_81 rfl ?_
    refine A_if_ge (tgt := 113) dX10_knock_83 (by decide) (fun b83 => absurd b83 (i_lt_n hto)) (fun b83 => ?_)
    refine A_aload_n dX10_knock_86 rfl ?_
    refine A_dup dX10_knock_87 rfl ?_
    refine A_getI dX10_knock_88 flX10_141 rfl rfl ?_
    refine A_iload_n dX10_knock_91 rfl ?_
    refine A_if_ne (tgt := 105) dX10_knock_92 (by decide) (fun b92 => ?_) (fun b92 => ?_)
    · refine A_iconst (v := nI 0) dX10_knock_105 (by decide +kernel) ?_
      refine A_iadd dX10_knock_106 ?_
      refine A_put dX10_knock_107 fpX10_141 rfl rfl rfl rfl ?_
      refine A_goto (tgt := 150) dX10_knock_110 (by decide) ?_
      refine A_aload_n dX10_knock_150 rfl ?_
      refine A_getR dX10_knock_151 flX10_49 rfl rfl ?_
      refine A_iload dX10_knock_154 rfl ?_
      refine A_iconst (v := nI 0) dX10_knock_156 (by decide +kernel) ?_
      refine A_iastN (j := 8 * g + b) dX10_knock_157 rfl rfl (by omega) (by decide) ?_
      refine A_aload_n dX10_knock_158 rfl ?_
      refine A_getR dX10_knock_159 flX10_52 rfl rfl ?_
      refine A_iload dX10_knock_162 rfl ?_
      refine A_iload_n dX10_knock_164 rfl ?_
      refine A_aload_n dX10_knock_165 rfl ?_
      refine A_getR dX10_knock_166 flX10_13 rfl rfl ?_
      refine A_iload_n dX10_knock_169 rfl ?_
      refine A_ialdN (j := b) dX10_knock_170 rfl rfl hb8 (by decide) ?_
      simp (disch := omega) only [up2_a, e2]; rw [r1.1]
      refine A_iaddN dX10_knock_171 ?_
      refine A_iastN (j := 8 * g + b) dX10_knock_172 rfl rfl (by omega) (by decide) ?_
      refine A_iconst (v := nI 1) dX10_knock_173 (by decide +kernel) ?_
      refine A_iret dX10_knock_174 rfl (by decide +kernel) ?_
      exact fin 0 (by rw [if_neg (fun q => b92 (by rw [q]; rfl))])
    · refine A_aload_n dX10_knock_95 rfl ?_
      refine A_getR dX10_knock_96 flX10_49 rfl rfl ?_
      refine A_iload dX10_knock_99 rfl ?_
      refine A_ialdN (j := 8 * g + b) dX10_knock_101 rfl rfl (by omega) (by decide) ?_
      rw [hl]
      refine A_goto (tgt := 106) dX10_knock_102 (by decide) ?_
      refine A_iadd dX10_knock_106 ?_
      refine A_put dX10_knock_107 fpX10_141 rfl rfl rfl rfl ?_
      refine A_goto (tgt := 150) dX10_knock_110 (by decide) ?_
      refine A_aload_n dX10_knock_150 rfl ?_
      refine A_getR dX10_knock_151 flX10_49 rfl rfl ?_
      refine A_iload dX10_knock_154 rfl ?_
      refine A_iconst (v := nI 0) dX10_knock_156 (by decide +kernel) ?_
      refine A_iastN (j := 8 * g + b) dX10_knock_157 rfl rfl (by omega) (by decide) ?_
      refine A_aload_n dX10_knock_158 rfl ?_
      refine A_getR dX10_knock_159 flX10_52 rfl rfl ?_
      refine A_iload dX10_knock_162 rfl ?_
      refine A_iload_n dX10_knock_164 rfl ?_
      refine A_aload_n dX10_knock_165 rfl ?_
      refine A_getR dX10_knock_166 flX10_13 rfl rfl ?_
      refine A_iload_n dX10_knock_169 rfl ?_
      refine A_ialdN (j := b) dX10_knock_170 rfl rfl hb8 (by decide) ?_
      simp (disch := omega) only [up2_a, e2]; rw [r1.1]
      refine A_iaddN dX10_knock_171 ?_
      refine A_iastN (j := 8 * g + b) dX10_knock_172 rfl rfl (by omega) (by decide) ?_
      refine A_iconst (v := nI 1) dX10_knock_173 (by decide +kernel) ?_
      refine A_iret dX10_knock_174 rfl (by decide +kernel) ?_
      exact fin _ (by rw [if_pos ((nI_eq (b := 0) (by omega) (by omega)).mp b92)])
  have tailB : brookB c tw b = false → knB c tw b S = true → AW mX10_knock (1, none) P 79 [some (.ref 75), some (.int (nI g)), some (.int (nI b)), some (.int (nI t)), some (.int (nI (8 * g + b))), none] [.int (c 5 b)] μ ν := by
    intro q1 q2
    have n5 : ¬ c 5 b < 0 := fun z => by rw [hbr, decide_eq_true z, Bool.or_true] at q1; cases q1
    obtain ⟨p1, p2, p3, p4⟩ := hC.pipe hb n5
    have p12 := p1.2
    have p32 := p3.2
    have e4' : μ 79 b = nI (N (c 6 b)) := by
      rw [e4, if_neg (fun z => n5 (by rw [z]; decide +kernel))]
      exact p3.1
    have eC := hR.1.2.2 (N (c 5 b)) (by omega) (N (c 6 b)) p32
    have hmod := Nat.mod_lt (t + N (c 6 b)) (show 0 < 21 by omega)
    obtain ⟨k1, k2⟩ := hR.add (b := N (c 5 b)) (j := N (c 6 b)) (v := sC S (N (c 5 b)) (N (c 6 b)) + sH S b) (by omega) p32
    have h9 := done _ _ q2 (by unfold fallP; rw [if_neg (by rw [q1]; decide)]) k1 k2
    rw [p1.1]
    refine A_istore (ls1 := [_, _, _, _, _, _]) dX10_knock_79 (by decide) rfl rfl ?_
    refine A_iload dX10_knock_81 rfl ?_
    refine A_if_ge (tgt := 113) dX10_knock_83 (by decide) (fun b83 => ?_) (fun b83 => absurd b83 (fun q => q (nI_pos' (n := N (c 5 b)) (by omega))))
    refine A_aload_n dX10_knock_113 rfl ?_
    refine A_getR dX10_knock_114 flX10_55 rfl rfl ?_
    refine A_bipush (v := nI 21) dX10_knock_117 (by decide +kernel) ?_
    refine A_bipush (v := nI 8) dX10_knock_119 (by decide +kernel) ?_
    refine A_iload_n dX10_knock_121 rfl ?_
    refine A_imulN dX10_knock_122 ?_
    refine A_iload dX10_knock_123 rfl ?_
    refine A_iaddN dX10_knock_125 ?_
    refine A_imulN dX10_knock_126 ?_
    refine A_iload_n dX10_knock_127 rfl ?_
    refine A_aload_n dX10_knock_128 rfl ?_
    refine A_getR dX10_knock_129 flX10_19 rfl rfl ?_
    refine A_iload_n dX10_knock_132 rfl ?_
    refine A_ialdN (j := b) dX10_knock_133 rfl rfl hb8 (by decide) ?_
    rw [e4']
    refine A_iaddN dX10_knock_134 ?_
    refine A_bipush (v := nI 21) dX10_knock_135 (by decide +kernel) ?_
    refine A_iremN dX10_knock_137 (by omega) (by omega) (by omega) ?_
    refine A_iaddN dX10_knock_138 ?_
    refine A_dup2 dX10_knock_139 rfl rfl ?_
    refine A_ialdN (j := 21 * (8 * g + N (c 5 b)) + (t + N (c 6 b)) % 21) dX10_knock_140 rfl rfl (by omega) (by decide) ?_
    rw [eC]
    refine A_aload_n dX10_knock_141 rfl ?_
    refine A_getR dX10_knock_142 flX10_49 rfl rfl ?_
    refine A_iload dX10_knock_145 rfl ?_
    refine A_ialdN (j := 8 * g + b) dX10_knock_147 rfl rfl (by omega) (by decide) ?_
    rw [hl]
    refine A_iadd dX10_knock_148 ?_
    refine A_iastN (j := 21 * (8 * g + N (c 5 b)) + (t + N (c 6 b)) % 21) dX10_knock_149 rfl rfl (by omega) (by decide) ?_
    refine A_aload_n dX10_knock_150 rfl ?_
    refine A_getR dX10_knock_151 flX10_49 rfl rfl ?_
    refine A_iload dX10_knock_154 rfl ?_
    refine A_iconst (v := nI 0) dX10_knock_156 (by decide +kernel) ?_
    refine A_iastN (j := 8 * g + b) dX10_knock_157 rfl rfl (by omega) (by decide) ?_
    refine A_aload_n dX10_knock_158 rfl ?_
    refine A_getR dX10_knock_159 flX10_52 rfl rfl ?_
    refine A_iload dX10_knock_162 rfl ?_
    refine A_iload_n dX10_knock_164 rfl ?_
    refine A_aload_n dX10_knock_165 rfl ?_
    refine A_getR dX10_knock_166 flX10_13 rfl rfl ?_
    refine A_iload_n dX10_knock_169 rfl ?_
    refine A_ialdN (j := b) dX10_knock_170 rfl rfl hb8 (by decide) ?_
    simp (disch := omega) only [up2_a, e2]; rw [r1.1]
    refine A_iaddN dX10_knock_171 ?_
    refine A_iastN (j := 8 * g + b) dX10_knock_172 rfl rfl (by omega) (by decide) ?_
    refine A_iconst (v := nI 1) dX10_knock_173 (by decide +kernel) ?_
    refine A_iret dX10_knock_174 rfl (by decide +kernel) ?_
    exact h9
  refine A_bipush (v := nI 8) dX10_knock_0 (by decide +kernel) ?_
  refine A_iload_n dX10_knock_2 rfl ?_
  refine A_imulN dX10_knock_3 ?_
  refine A_iload_n dX10_knock_4 rfl ?_
  refine A_iaddN dX10_knock_5 ?_
  refine A_istore (ls1 := [_, _, _, _, _, _]) dX10_knock_6 (by decide) rfl rfl ?_
  refine A_aload_n dX10_knock_8 rfl ?_
  refine A_getR dX10_knock_9 flX10_52 rfl rfl ?_
  refine A_iload dX10_knock_12 rfl ?_
  refine A_ialdN (j := 8 * g + b) dX10_knock_14 rfl rfl (by omega) (by decide) ?_
  refine A_iload_n dX10_knock_15 rfl ?_
  refine A_icmp_ge (tgt := 51) dX10_knock_16 (by decide) (fun b16 => ?_) (fun b16 => ?_)
  · refine A_iconst (v := nI 0) dX10_knock_51 (by decide +kernel) ?_
    refine A_iret dX10_knock_52 rfl (by decide +kernel) ?_
    exact down (hge.mp b16)
  · have hz : sD S b = 0 := by
      rcases Nat.eq_zero_or_pos (sD S b) with e | e
      · exact e
      · exact absurd (hge.mpr e) (i_lt_n (i_nle b16))
    refine A_aload_n dX10_knock_19 rfl ?_
    refine A_getR dX10_knock_20 flX10_49 rfl rfl ?_
    refine A_iload dX10_knock_23 rfl ?_
    refine A_ialdN (j := 8 * g + b) dX10_knock_25 rfl rfl (by omega) (by decide) ?_
    rw [hl]
    refine A_aload_n dX10_knock_26 rfl ?_
    refine A_getR dX10_knock_27 flX10_7 rfl rfl ?_
    refine A_iload_n dX10_knock_30 rfl ?_
    refine A_ialdN (j := b) dX10_knock_31 rfl rfl hb8 (by decide) ?_
    rw [e1]
    refine A_icmp_lt (tgt := 51) dX10_knock_32 (by decide) (fun b32 => ?_) (fun b32 => ?_)
    · refine A_iconst (v := nI 0) dX10_knock_51 (by decide +kernel) ?_
      refine A_iret dX10_knock_52 rfl (by decide +kernel) ?_
      exact no (by rw [hk, decide_eq_false (i_lt_n b32), Bool.false_and, Bool.and_false]) hz
    · refine A_iload_n dX10_knock_35 rfl ?_
      refine A_iconst (v := nI 1) dX10_knock_36 (by decide +kernel) ?_
      refine A_icmp_neN (tgt := 53) dX10_knock_37 (by decide) (by omega) (by omega) (fun b37 => ?_) (fun b37 => ?_)
      · refine A_iload_n dX10_knock_53 rfl ?_
        refine A_iconst (v := nI 1) dX10_knock_54 (by decide +kernel) ?_
        refine A_icmp_neN (tgt := 73) dX10_knock_55 (by decide) (by omega) (by omega) (fun b55 => ?_) (fun b55 => ?_)
        · refine A_aload_n dX10_knock_73 rfl ?_
          refine A_getR dX10_knock_74 flX10_16 rfl rfl ?_
          refine A_iload_n dX10_knock_77 rfl ?_
          refine A_ialdN (j := b) dX10_knock_78 rfl rfl hb8 (by decide) ?_
          rw [e3]
          have hy : knB c tw b S = true := by
            rw [hk, decide_eq_true hz, decide_eq_true (i_nlt b32), t3]
            first
              | rw [g1, Bool.and_false]; rfl
              | rw [decide_eq_false b37]; rfl
          first
            | exact tailA (-1) (by decide +kernel) (by rw [hbr, t4, g2, decide_eq_true b55]; rfl) hy
            | (have e : brookB c tw b = decide (c 5 b < 0) := by
                 rw [hbr, t4]
                 first
                   | rw [g2, Bool.and_false, Bool.false_or]
                   | rw [decide_eq_false b55, Bool.false_and, Bool.false_or]
               by_cases n5 : c 5 b < 0
               · exact tailA _ n5 (by rw [e, decide_eq_true n5]) hy
               · exact tailB (by rw [e, decide_eq_false n5]) hy)
        · refine A_aload_n dX10_knock_58 rfl ?_
          refine A_bipush (v := nI 20) dX10_knock_59 (by decide +kernel) ?_
          refine A_iload_n dX10_knock_61 rfl ?_
          refine A_iaddN dX10_knock_62 ?_
          refine A_callV1 dX10_knock_63 mlX10_134 (by decide) rfl rfl (Nat.le_of_ble_eq_true rfl) (m_isFault (20 + b) (fun g2 => ?_) (fun g2 => ?_))
          · refine Kn.s ?_
            refine A_if_eq (tgt := 73) dX10_knock_66 (by decide) (fun h => absurd h (by decide +kernel)) (fun _ => ?_)
            refine A_iconst (v := (-1)) dX10_knock_69 (by decide +kernel) ?_
            refine A_goto (tgt := 79) dX10_knock_70 (by decide) ?_
            have hy : knB c tw b S = true := by
              rw [hk, decide_eq_true hz, decide_eq_true (i_nlt b32), t3]
              first
                | rw [g1, Bool.and_false]; rfl
                | rw [decide_eq_false b37]; rfl
            first
              | exact tailA (-1) (by decide +kernel) (by rw [hbr, t4, g2, decide_eq_true b55]; rfl) hy
              | (have e : brookB c tw b = decide (c 5 b < 0) := by
                   rw [hbr, t4]
                   first
                     | rw [g2, Bool.and_false, Bool.false_or]
                     | rw [decide_eq_false b55, Bool.false_and, Bool.false_or]
                 by_cases n5 : c 5 b < 0
                 · exact tailA _ n5 (by rw [e, decide_eq_true n5]) hy
                 · exact tailB (by rw [e, decide_eq_false n5]) hy)
          · refine Kn.s ?_
            refine A_if_eq (tgt := 73) dX10_knock_66 (by decide) (fun _ => ?_) (fun h => absurd h (by decide +kernel))
            refine A_aload_n dX10_knock_73 rfl ?_
            refine A_getR dX10_knock_74 flX10_16 rfl rfl ?_
            refine A_iload_n dX10_knock_77 rfl ?_
            refine A_ialdN (j := b) dX10_knock_78 rfl rfl hb8 (by decide) ?_
            rw [e3]
            have hy : knB c tw b S = true := by
              rw [hk, decide_eq_true hz, decide_eq_true (i_nlt b32), t3]
              first
                | rw [g1, Bool.and_false]; rfl
                | rw [decide_eq_false b37]; rfl
            first
              | exact tailA (-1) (by decide +kernel) (by rw [hbr, t4, g2, decide_eq_true b55]; rfl) hy
              | (have e : brookB c tw b = decide (c 5 b < 0) := by
                   rw [hbr, t4]
                   first
                     | rw [g2, Bool.and_false, Bool.false_or]
                     | rw [decide_eq_false b55, Bool.false_and, Bool.false_or]
                 by_cases n5 : c 5 b < 0
                 · exact tailA _ n5 (by rw [e, decide_eq_true n5]) hy
                 · exact tailB (by rw [e, decide_eq_false n5]) hy)
      · refine A_aload_n dX10_knock_40 rfl ?_
        refine A_bipush (v := nI 10) dX10_knock_41 (by decide +kernel) ?_
        refine A_iload_n dX10_knock_43 rfl ?_
        refine A_iaddN dX10_knock_44 ?_
        refine A_callV1 dX10_knock_45 mlX10_134 (by decide) rfl rfl (Nat.le_of_ble_eq_true rfl) (m_isFault (10 + b) (fun g1 => ?_) (fun g1 => ?_))
        · refine Kn.s ?_
          refine A_if_eq (tgt := 53) dX10_knock_48 (by decide) (fun h => absurd h (by decide +kernel)) (fun _ => ?_)
          refine A_iconst (v := nI 0) dX10_knock_51 (by decide +kernel) ?_
          refine A_iret dX10_knock_52 rfl (by decide +kernel) ?_
          exact no (by rw [hk, t3, g1, decide_eq_true b37]; simp) hz
        · refine Kn.s ?_
          refine A_if_eq (tgt := 53) dX10_knock_48 (by decide) (fun _ => ?_) (fun h => absurd h (by decide +kernel))
          refine A_iload_n dX10_knock_53 rfl ?_
          refine A_iconst (v := nI 1) dX10_knock_54 (by decide +kernel) ?_
          refine A_icmp_neN (tgt := 73) dX10_knock_55 (by decide) (by omega) (by omega) (fun b55 => ?_) (fun b55 => ?_)
          · refine A_aload_n dX10_knock_73 rfl ?_
            refine A_getR dX10_knock_74 flX10_16 rfl rfl ?_
            refine A_iload_n dX10_knock_77 rfl ?_
            refine A_ialdN (j := b) dX10_knock_78 rfl rfl hb8 (by decide) ?_
            rw [e3]
            have hy : knB c tw b S = true := by
              rw [hk, decide_eq_true hz, decide_eq_true (i_nlt b32), t3]
              first
                | rw [g1, Bool.and_false]; rfl
                | rw [decide_eq_false b37]; rfl
            first
              | exact tailA (-1) (by decide +kernel) (by rw [hbr, t4, g2, decide_eq_true b55]; rfl) hy
              | (have e : brookB c tw b = decide (c 5 b < 0) := by
                   rw [hbr, t4]
                   first
                     | rw [g2, Bool.and_false, Bool.false_or]
                     | rw [decide_eq_false b55, Bool.false_and, Bool.false_or]
                 by_cases n5 : c 5 b < 0
                 · exact tailA _ n5 (by rw [e, decide_eq_true n5]) hy
                 · exact tailB (by rw [e, decide_eq_false n5]) hy)
          · refine A_aload_n dX10_knock_58 rfl ?_
            refine A_bipush (v := nI 20) dX10_knock_59 (by decide +kernel) ?_
            refine A_iload_n dX10_knock_61 rfl ?_
            refine A_iaddN dX10_knock_62 ?_
            refine A_callV1 dX10_knock_63 mlX10_134 (by decide) rfl rfl (Nat.le_of_ble_eq_true rfl) (m_isFault (20 + b) (fun g2 => ?_) (fun g2 => ?_))
            · refine Kn.s ?_
              refine A_if_eq (tgt := 73) dX10_knock_66 (by decide) (fun h => absurd h (by decide +kernel)) (fun _ => ?_)
              refine A_iconst (v := (-1)) dX10_knock_69 (by decide +kernel) ?_
              refine A_goto (tgt := 79) dX10_knock_70 (by decide) ?_
              have hy : knB c tw b S = true := by
                rw [hk, decide_eq_true hz, decide_eq_true (i_nlt b32), t3]
                first
                  | rw [g1, Bool.and_false]; rfl
                  | rw [decide_eq_false b37]; rfl
              first
                | exact tailA (-1) (by decide +kernel) (by rw [hbr, t4, g2, decide_eq_true b55]; rfl) hy
                | (have e : brookB c tw b = decide (c 5 b < 0) := by
                     rw [hbr, t4]
                     first
                       | rw [g2, Bool.and_false, Bool.false_or]
                       | rw [decide_eq_false b55, Bool.false_and, Bool.false_or]
                   by_cases n5 : c 5 b < 0
                   · exact tailA _ n5 (by rw [e, decide_eq_true n5]) hy
                   · exact tailB (by rw [e, decide_eq_false n5]) hy)
            · refine Kn.s ?_
              refine A_if_eq (tgt := 73) dX10_knock_66 (by decide) (fun _ => ?_) (fun h => absurd h (by decide +kernel))
              refine A_aload_n dX10_knock_73 rfl ?_
              refine A_getR dX10_knock_74 flX10_16 rfl rfl ?_
              refine A_iload_n dX10_knock_77 rfl ?_
              refine A_ialdN (j := b) dX10_knock_78 rfl rfl hb8 (by decide) ?_
              rw [e3]
              have hy : knB c tw b S = true := by
                rw [hk, decide_eq_true hz, decide_eq_true (i_nlt b32), t3]
                first
                  | rw [g1, Bool.and_false]; rfl
                  | rw [decide_eq_false b37]; rfl
              first
                | exact tailA (-1) (by decide +kernel) (by rw [hbr, t4, g2, decide_eq_true b55]; rfl) hy
                | (have e : brookB c tw b = decide (c 5 b < 0) := by
                     rw [hbr, t4]
                     first
                       | rw [g2, Bool.and_false, Bool.false_or]
                       | rw [decide_eq_false b55, Bool.false_and, Bool.false_or]
                   by_cases n5 : c 5 b < 0
                   · exact tailA _ n5 (by rw [e, decide_eq_true n5]) hy
                   · exact tailB (by rw [e, decide_eq_false n5]) hy)
theorem RM.z {g t k b : Nat} {S : St} {μ : MI} (h : RM g t k (pourP b 0 (addQ 0 0 S)) μ) : RM g t k S μ := by
  have e : pourP b 0 (addQ 0 0 S) = S := by
    have u : ∀ (f : Nat → Int32) (i : Nat), un f i (f i + 0) = f := fun f i => by
      funext j
      by_cases e : j = i
      · subst e
        rw [un_s, i32_add0]
      · rw [un_n _ _ e]
    have a0 : addQ 0 0 S = S := by
      unfold addQ mkS
      rw [u]
    rw [a0]
    unfold pourP mkS
    split
    · rw [u]
    · rw [u]
  rw [e] at h
  exact h
theorem m_step {g t : Nat} (p : Int32) {S : St} {c tw μ : MI} {ν : ML} {P : Po} (hg : g = 0 ∨ g = 1) (ht : t < 9000) (hC : WC c) (hc : CM c μ) (hT : TM g tw μ) (hp : tw 0 0 = p) (hR : RM g t 0 S μ) (hG : GC (N (c 2 0)) S) (hD : GD (N (c 2 0)) S) (hP : ∀ μ', RM g (t + 1) 0 (stepP c tw t S) μ' → Mr g μ μ' → P (some (.int (nI (bitsN (setP c tw t S) (N (c 2 0)))))) μ' ν) : Ct mX10_step 3 [.ref 75, .int (nI g), .int (nI t), .int p] μ ν P := by
  refine Ct.of (ls0 := [_, _, _, _, _, _]) (by decide) rfl (Nat.le_of_ble_eq_true rfl) rfl ?_
  have hnb := hC.1.1
  have hns := hC.2.1.1
  have hdr := hC.2.2.2.2
  have hnb2 := hnb.2
  have hns2 := hns.2
  have hdr2 := hdr.2
  have hmod := Nat.mod_lt t (show 0 < 21 by omega)
  have loop4 : ∀ (n i : Nat) (μ1 : MI), N (c 2 0) - i < n → i ≤ N (c 2 0) → RM g t i (turnsP c tw t i (wateredP c tw t S)) μ1 → Mr g μ μ1 → AW mX10_step (3, none) P 220 [some (.ref 75), some (.int (nI g)), some (.int (nI t)), some (.int p), some (.int (nI (bitsN (setP c tw t S) i))), some (.int (nI i))] [] μ1 ν := by
    intro n
    induction n with
    | zero => intro i μ1 h; omega
    | succ n ih =>
      intro i μ1 hn hi hR1 hM1
      have hc1 := hc.mr hM1
      have hb0 : μ1 75 0 = nI (N (c 2 0)) := hc1.1.1.trans hnb.1
      have ih1 : ∀ μ2, i < N (c 2 0) → _ := fun μ2 h => ih (i + 1) μ2 (by omega) (by omega)
      refine A_iload dX10_step_220 rfl ?_
      refine A_aload_n dX10_step_222 rfl ?_
      refine A_getI dX10_step_223 flX10_92 rfl rfl ?_
      rw [hb0]
      refine A_icmp_geN (tgt := 259) dX10_step_226 (by decide) (by omega) (by omega) (fun b226 => ?_) (fun b226 => ?_)
      · refine A_iload dX10_step_259 rfl ?_
        refine A_iret dX10_step_261 rfl rfl ?_
        rw [show i = N (c 2 0) by omega] at hR1 ⊢
        have hdel : ∀ b, b < N (c 2 0) → ¬ c 5 b < 0 → 0 < N (c 6 b) ∧ N (c 6 b) ≤ 20 := fun b hb h => ⟨(hC.pipe hb h).2.2.2, (hC.pipe hb h).2.2.1.2⟩
        refine hP μ1 (hR1.sh (by omega) (fun b hb => ?_) (fun b hb => ?_) (fun b hb => ?_)) hM1
        · rw [turnsP_C (Or.inl rfl) _ hdel, wateredP_C]
          by_cases q : b < N (c 2 0)
          · rw [if_pos ⟨q, rfl⟩]
          · rw [if_neg (fun z => q z.1)]
            exact hG.2 b (by omega) hb 0
        · rw [turnsP_C (Or.inr (by omega)) _ hdel, wateredP_C, if_neg (by omega)]
          exact hG.1 b 21 hb (by omega)
        · rw [turnsP_D _ hb, wateredP_D]
          exact hD b hb
      · refine A_iload dX10_step_229 rfl ?_
        refine A_aload_n dX10_step_231 rfl ?_
        refine A_iload_n dX10_step_232 rfl ?_
        refine A_iload dX10_step_233 rfl ?_
        refine A_iload_n dX10_step_235 rfl ?_
        refine A_callV3 dX10_step_236 mlX10_158 (by decide) rfl rfl (Nat.le_of_ble_eq_true rfl) (m_knock hg ht hC hc1 (hT.mr hM1) b226 hR1 (fun μ2 q1 q2 q3 => ?_) (fun μ2 q1 q2 q3 => ?_))
        · refine Kn.s ?_
          refine A_if_eq (tgt := 249) dX10_step_239 (by decide) (fun h => absurd h (by decide +kernel)) (fun _ => ?_)
          refine A_iconst (v := nI 1) dX10_step_242 (by decide +kernel) ?_
          refine A_iload dX10_step_243 rfl ?_
          refine A_ishl dX10_step_245 ?_
          refine A_goto (tgt := 250) dX10_step_246 (by decide) ?_
          refine A_ior dX10_step_250 ?_
          refine A_istore (ls1 := [_, _, _, _, _, _]) dX10_step_251 (by decide) rfl rfl ?_
          refine A_iincN (ls1 := [_, _, _, _, _, _]) dX10_step_253 rfl (by decide) rfl rfl ?_
          refine A_goto (tgt := 220) dX10_step_256 (by decide) ?_
          rw [nI_or_bit (by omega) (bitsN_lt _ _)]
          have h9 := ih1 μ2 b226 q2 (hM1.tr q3)
          rw [bitsN_t (show setP c tw t S i = true from q1)] at h9
          exact h9
        · refine Kn.s ?_
          refine A_if_eq (tgt := 249) dX10_step_239 (by decide) (fun _ => ?_) (fun h => absurd h (by decide +kernel))
          refine A_iconst (v := nI 0) dX10_step_249 (by decide +kernel) ?_
          refine A_ior dX10_step_250 ?_
          refine A_istore (ls1 := [_, _, _, _, _, _]) dX10_step_251 (by decide) rfl rfl ?_
          refine A_iincN (ls1 := [_, _, _, _, _, _]) dX10_step_253 rfl (by decide) rfl rfl ?_
          refine A_goto (tgt := 220) dX10_step_256 (by decide) ?_
          rw [show nI (bitsN (setP c tw t S) i) ||| nI 0 = nI (bitsN (setP c tw t S) i) from Int32.or_zero]
          have h9 := ih1 μ2 b226 q2 (hM1.tr q3)
          rw [bitsN_f (show setP c tw t S i = false from q1)] at h9
          exact h9
  have loop3 : ∀ (n i : Nat) (μ1 : MI), N (c 2 0) - i < n → i ≤ N (c 2 0) → RM g t 0 (if dryT c t = true then driesP i (pipesP (N (c 2 0)) (dripsP c tw t (N (c 7 0)) S)) else pipesP (N (c 2 0)) (dripsP c tw t (N (c 7 0)) S)) μ1 → Mr g μ μ1 → AW mX10_step (3, none) P 124 [some (.ref 75), some (.int (nI g)), some (.int (nI t)), some (.int p), some (.int (nI i)), none] [] μ1 ν := by
    intro n
    induction n with
    | zero => intro i μ1 h; omega
    | succ n ih =>
      intro i μ1 hn hi hR1 hM1
      have hc1 := hc.mr hM1
      have hb0 : μ1 75 0 = nI (N (c 2 0)) := hc1.1.1.trans hnb.1
      have hd0 : μ1 75 17 = nI (N (c 1 4)) := hc1.1.2.2.2.2.trans hdr.1
      have next : ∀ μ2, i < N (c 2 0) → RM g t 0 (if dryT c t = true then driesP (i + 1) (pipesP (N (c 2 0)) (dripsP c tw t (N (c 7 0)) S)) else pipesP (N (c 2 0)) (dripsP c tw t (N (c 7 0)) S)) μ2 → Mr g μ μ2 → _ := fun μ2 h => ih (i + 1) μ2 (by omega) (by omega)
      have hdt : dryT c t = (decide (0 < N (c 1 4)) && decide (t % N (c 1 4) = 0)) := rfl
      refine A_iload dX10_step_124 rfl ?_
      refine A_aload_n dX10_step_126 rfl ?_
      refine A_getI dX10_step_127 flX10_92 rfl rfl ?_
      rw [hb0]
      refine A_icmp_geN (tgt := 214) dX10_step_130 (by decide) (by omega) (by omega) (fun b130 => ?_) (fun b130 => ?_)
      · rw [show i = N (c 2 0) by omega] at hR1
        refine A_iconst (v := nI 0) dX10_step_214 (by decide +kernel) ?_
        refine A_istore (ls1 := [_, _, _, _, _, _]) dX10_step_215 (by decide) rfl rfl ?_
        refine A_iconst (v := nI 0) dX10_step_217 (by decide +kernel) ?_
        refine A_istore (ls1 := [_, _, _, _, _, _]) dX10_step_218 (by decide) rfl rfl ?_
        exact loop4 (N (c 2 0) + 1) 0 μ1 (by omega) (by omega) hR1 hM1
      · have hi8 : i < 8 := by omega
        refine A_bipush (v := nI 8) dX10_step_133 (by decide +kernel) ?_
        refine A_iload_n dX10_step_135 rfl ?_
        refine A_imulN dX10_step_136 ?_
        refine A_iload dX10_step_137 rfl ?_
        refine A_iaddN dX10_step_139 ?_
        refine A_istore (ls1 := [_, _, _, _, _, _]) dX10_step_140 (by decide) rfl rfl ?_
        refine A_aload_n dX10_step_142 rfl ?_
        refine A_getI dX10_step_143 flX10_127 rfl rfl ?_
        rw [hd0]
        refine A_if_le (tgt := 208) dX10_step_146 (by decide) (fun b146 => ?_) (fun b146 => ?_)
        · refine A_iincN (ls1 := [_, _, _, _, _, _]) dX10_step_208 rfl (by decide) rfl rfl ?_
          refine A_goto (tgt := 124) dX10_step_211 (by decide) ?_
          have hdry : dryT c t = false := by rw [hdt, decide_eq_false (show ¬ 0 < N (c 1 4) from fun q => nI_nle q (by omega) b146), Bool.false_and]
          rw [hdry] at hR1
          exact A_weak (next μ1 b130 (by rw [hdry]; exact hR1) hM1) (by repeat first | exact fw_0 | refine fw_s ?_ | refine fw_n ?_)
        · have hpos : 0 < N (c 1 4) := Nat.pos_of_ne_zero (fun e => b146 (by rw [e]; decide +kernel))
          refine A_iload_n dX10_step_149 rfl ?_
          refine A_aload_n dX10_step_150 rfl ?_
          refine A_getI dX10_step_151 flX10_127 rfl rfl ?_
          rw [hd0]
          refine A_iremN dX10_step_154 (by omega) (by omega) (by omega) ?_
          refine A_if_ne (tgt := 208) dX10_step_155 (by decide) (fun b155 => ?_) (fun b155 => ?_)
          · refine A_iincN (ls1 := [_, _, _, _, _, _]) dX10_step_208 rfl (by decide) rfl rfl ?_
            refine A_goto (tgt := 124) dX10_step_211 (by decide) ?_
            have hdry : dryT c t = false := by rw [hdt, decide_eq_false (show ¬ t % N (c 1 4) = 0 from fun q => b155 (by rw [q]; rfl)), Bool.and_false]
            rw [hdry] at hR1
            exact A_weak (next μ1 b130 (by rw [hdry]; exact hR1) hM1) (by repeat first | exact fw_0 | refine fw_s ?_ | refine fw_n ?_)
          · have hdry : dryT c t = true := by
              rw [hdt, decide_eq_true hpos, decide_eq_true (show t % N (c 1 4) = 0 from (nI_eq (b := 0) (by have := Nat.mod_lt t hpos; omega) (by omega)).mp b155)]
              rfl
            rw [if_pos hdry] at hR1
            have next := fun μ2 => next μ2 b130
            rw [hdry] at next
            simp only [if_true, driesP] at next
            have hu := hR1.1.2.1 i hi8
            rw [if_neg (by omega)] at hu
            have hge := hu.1.ge (by omega) hu.2
            have hl := hR1.1.1 i hi8
            refine A_aload_n dX10_step_158 rfl ?_
            refine A_getR dX10_step_159 flX10_52 rfl rfl ?_
            refine A_iload dX10_step_162 rfl ?_
            refine A_ialdN (j := 8 * g + i) dX10_step_164 rfl rfl (by omega) (by decide) ?_
            refine A_iload_n dX10_step_165 rfl ?_
            refine A_icmp_ge (tgt := 208) dX10_step_166 (by decide) (fun b166 => ?_) (fun b166 => ?_)
            · refine A_iincN (ls1 := [_, _, _, _, _, _]) dX10_step_208 rfl (by decide) rfl rfl ?_
              refine A_goto (tgt := 124) dX10_step_211 (by decide) ?_
              have e9 : dryP i (driesP i (pipesP (N (c 2 0)) (dripsP c tw t (N (c 7 0)) S))) = (driesP i (pipesP (N (c 2 0)) (dripsP c tw t (N (c 7 0)) S))) := by
                unfold dryP
                rw [if_neg (fun q => by have := hge.mp b166; omega)]
              exact A_weak (next μ1 (by rw [e9]; exact hR1) hM1) (by repeat first | exact fw_0 | refine fw_s ?_ | refine fw_n ?_)
            · refine A_aload_n dX10_step_169 rfl ?_
              refine A_getR dX10_step_170 flX10_49 rfl rfl ?_
              refine A_iload dX10_step_173 rfl ?_
              refine A_ialdN (j := 8 * g + i) dX10_step_175 rfl rfl (by omega) (by decide) ?_
              rw [hl]
              refine A_if_le (tgt := 208) dX10_step_176 (by decide) (fun b176 => ?_) (fun b176 => ?_)
              · refine A_iincN (ls1 := [_, _, _, _, _, _]) dX10_step_208 rfl (by decide) rfl rfl ?_
                refine A_goto (tgt := 124) dX10_step_211 (by decide) ?_
                have e9 : dryP i (driesP i (pipesP (N (c 2 0)) (dripsP c tw t (N (c 7 0)) S))) = (driesP i (pipesP (N (c 2 0)) (dripsP c tw t (N (c 7 0)) S))) := by
                  unfold dryP
                  rw [if_neg (fun q => i_le_n b176 q.2)]
                exact A_weak (next μ1 (by rw [e9]; exact hR1) hM1) (by repeat first | exact fw_0 | refine fw_s ?_ | refine fw_n ?_)
              · refine A_aload_n dX10_step_179 rfl ?_
                refine A_getR dX10_step_180 flX10_49 rfl rfl ?_
                refine A_iload dX10_step_183 rfl ?_
                refine A_dup2 dX10_step_185 rfl rfl ?_
                refine A_ialdN (j := 8 * g + i) dX10_step_186 rfl rfl (by omega) (by decide) ?_
                rw [hl]
                refine A_iconst (v := nI 1) dX10_step_187 (by decide +kernel) ?_
                refine A_isub dX10_step_188 ?_
                refine A_iastN (j := 8 * g + i) dX10_step_189 rfl rfl (by omega) (by decide) ?_
                refine A_aload_n dX10_step_190 rfl ?_
                refine A_dup dX10_step_191 rfl ?_
                refine A_getI dX10_step_192 flX10_155 rfl rfl ?_
                refine A_iload_n dX10_step_195 rfl ?_
                refine A_if_ne (tgt := 203) dX10_step_196 (by decide) (fun b196 => ?_) (fun b196 => ?_)
                · refine A_iconst (v := nI 0) dX10_step_203 (by decide +kernel) ?_
                  refine A_iadd dX10_step_204 ?_
                  refine A_put dX10_step_205 fpX10_155 rfl rfl rfl rfl ?_
                  refine A_iincN (ls1 := [_, _, _, _, _, _]) dX10_step_208 rfl (by decide) rfl rfl ?_
                  refine A_goto (tgt := 124) dX10_step_211 (by decide) ?_
                  have hz : sD (driesP i (pipesP (N (c 2 0)) (dripsP c tw t (N (c 7 0)) S))) i = 0 := by
                    rcases Nat.eq_zero_or_pos (sD (driesP i (pipesP (N (c 2 0)) (dripsP c tw t (N (c 7 0)) S))) i) with e | e
                    · exact e
                    · exact absurd (hge.mpr e) (i_lt_n (i_nle b166))
                  obtain ⟨k1, k2⟩ := hR1.lev (v := sH (driesP i (pipesP (N (c 2 0)) (dripsP c tw t (N (c 7 0)) S))) i - 1) hi8
                  obtain ⟨k3, k4⟩ := k1.q (i := 2) (w := 1) (x := 0) (by omega) (by rw [if_neg (fun q => b196 (by rw [q]; rfl))])
                  have e9 : dryP i (driesP i (pipesP (N (c 2 0)) (dripsP c tw t (N (c 7 0)) S))) = addQ 2 1 (setH i (sH (driesP i (pipesP (N (c 2 0)) (dripsP c tw t (N (c 7 0)) S))) i - 1) (driesP i (pipesP (N (c 2 0)) (dripsP c tw t (N (c 7 0)) S)))) := by
                    unfold dryP
                    rw [if_pos ⟨hz, i_nle b176⟩]
                    rfl
                  rw [← e9] at k3
                  exact A_weak (next _ k3 ((hM1.tr k2).tr k4)) (by repeat first | exact fw_0 | refine fw_s ?_ | refine fw_n ?_)
                · refine A_iconst (v := nI 1) dX10_step_199 (by decide +kernel) ?_
                  refine A_goto (tgt := 204) dX10_step_200 (by decide) ?_
                  refine A_iadd dX10_step_204 ?_
                  refine A_put dX10_step_205 fpX10_155 rfl rfl rfl rfl ?_
                  refine A_iincN (ls1 := [_, _, _, _, _, _]) dX10_step_208 rfl (by decide) rfl rfl ?_
                  refine A_goto (tgt := 124) dX10_step_211 (by decide) ?_
                  have hz : sD (driesP i (pipesP (N (c 2 0)) (dripsP c tw t (N (c 7 0)) S))) i = 0 := by
                    rcases Nat.eq_zero_or_pos (sD (driesP i (pipesP (N (c 2 0)) (dripsP c tw t (N (c 7 0)) S))) i) with e | e
                    · exact e
                    · exact absurd (hge.mpr e) (i_lt_n (i_nle b166))
                  obtain ⟨k1, k2⟩ := hR1.lev (v := sH (driesP i (pipesP (N (c 2 0)) (dripsP c tw t (N (c 7 0)) S))) i - 1) hi8
                  obtain ⟨k3, k4⟩ := k1.q (i := 2) (w := 1) (x := 1) (by omega) (by rw [if_pos ((nI_eq (b := 0) (by omega) (by omega)).mp b196)])
                  have e9 : dryP i (driesP i (pipesP (N (c 2 0)) (dripsP c tw t (N (c 7 0)) S))) = addQ 2 1 (setH i (sH (driesP i (pipesP (N (c 2 0)) (dripsP c tw t (N (c 7 0)) S))) i - 1) (driesP i (pipesP (N (c 2 0)) (dripsP c tw t (N (c 7 0)) S)))) := by
                    unfold dryP
                    rw [if_pos ⟨hz, i_nle b176⟩]
                    rfl
                  rw [← e9] at k3
                  exact A_weak (next _ k3 ((hM1.tr k2).tr k4)) (by repeat first | exact fw_0 | refine fw_s ?_ | refine fw_n ?_)
  have loop2 : ∀ (n i : Nat) (μ1 : MI), N (c 2 0) - i < n → i ≤ N (c 2 0) → RM g t 0 (pipesP i (dripsP c tw t (N (c 7 0)) S)) μ1 → Mr g μ μ1 → AW mX10_step (3, none) P 66 [some (.ref 75), some (.int (nI g)), some (.int (nI t)), some (.int p), some (.int (nI i)), none] [] μ1 ν := by
    intro n
    induction n with
    | zero => intro i μ1 h; omega
    | succ n ih =>
      intro i μ1 hn hi hR1 hM1
      have hc1 := hc.mr hM1
      have hb0 : μ1 75 0 = nI (N (c 2 0)) := hc1.1.1.trans hnb.1
      refine A_iload dX10_step_66 rfl ?_
      refine A_aload_n dX10_step_68 rfl ?_
      refine A_getI dX10_step_69 flX10_92 rfl rfl ?_
      rw [hb0]
      refine A_icmp_geN (tgt := 121) dX10_step_72 (by decide) (by omega) (by omega) (fun b72 => ?_) (fun b72 => ?_)
      · rw [show i = N (c 2 0) by omega] at hR1
        refine A_iconst (v := nI 0) dX10_step_121 (by decide +kernel) ?_
        refine A_istore (ls1 := [_, _, _, _, _, _]) dX10_step_122 (by decide) rfl rfl ?_
        refine A_weak (loop3 (N (c 2 0) + 1) 0 μ1 (by omega) (by omega) ?_ hM1) (by repeat first | exact fw_0 | refine fw_s ?_ | refine fw_n ?_)
        by_cases q : dryT c t = true
        · rw [if_pos q]; exact hR1
        · rw [if_neg q]; exact hR1
      · have hi8 : i < 8 := by omega
        have hco := hR1.1.2.2 i hi8 0 (by omega)
        rw [Nat.add_zero] at hco
        refine A_bipush (v := nI 21) dX10_step_75 (by decide +kernel) ?_
        refine A_bipush (v := nI 8) dX10_step_77 (by decide +kernel) ?_
        refine A_iload_n dX10_step_79 rfl ?_
        refine A_imulN dX10_step_80 ?_
        refine A_iload dX10_step_81 rfl ?_
        refine A_iaddN dX10_step_83 ?_
        refine A_imulN dX10_step_84 ?_
        refine A_iload_n dX10_step_85 rfl ?_
        refine A_bipush (v := nI 21) dX10_step_86 (by decide +kernel) ?_
        refine A_iremN dX10_step_88 (by omega) (by omega) (by omega) ?_
        refine A_iaddN dX10_step_89 ?_
        refine A_istore (ls1 := [_, _, _, _, _, _]) dX10_step_90 (by decide) rfl rfl ?_
        refine A_aload_n dX10_step_92 rfl ?_
        refine A_iload_n dX10_step_93 rfl ?_
        refine A_iload dX10_step_94 rfl ?_
        refine A_aload_n dX10_step_96 rfl ?_
        refine A_getR dX10_step_97 flX10_55 rfl rfl ?_
        refine A_iload dX10_step_100 rfl ?_
        refine A_ialdN (j := 21 * (8 * g + i) + t % 21) dX10_step_102 rfl rfl (by omega) (by decide) ?_
        rw [hco]
        refine A_iload_n dX10_step_103 rfl ?_
        refine A_callV4 dX10_step_104 mlX10_151 (by decide) rfl rfl (Nat.le_of_ble_eq_true rfl) (m_come (k := 0) _ hg hi8 (by omega) hR1 (fun μ2 q1 q2 => ?_))
        refine Kn.v ?_
        refine A_aload_n dX10_step_107 rfl ?_
        refine A_getR dX10_step_108 flX10_55 rfl rfl ?_
        refine A_iload dX10_step_111 rfl ?_
        refine A_iconst (v := nI 0) dX10_step_113 (by decide +kernel) ?_
        refine A_iastN (j := 21 * (8 * g + i) + t % 21) dX10_step_114 rfl rfl (by omega) (by decide) ?_
        refine A_iincN (ls1 := [_, _, _, _, _, _]) dX10_step_115 rfl (by decide) rfl rfl ?_
        refine A_goto (tgt := 66) dX10_step_118 (by decide) ?_
        obtain ⟨k1, k2⟩ := q1.add (j := 0) (v := 0) hi8 (by omega)
        rw [Nat.add_zero] at k1 k2
        exact A_weak (ih (i + 1) _ (by omega) (by omega) k1 ((hM1.tr q2).tr k2)) (by repeat first | exact fw_0 | refine fw_s ?_ | refine fw_n ?_)
  have loop1 : ∀ (n i : Nat) (μ1 : MI), N (c 7 0) - i < n → i ≤ N (c 7 0) → RM g t 0 (dripsP c tw t i S) μ1 → Mr g μ μ1 → AW mX10_step (3, none) P 3 [some (.ref 75), some (.int (nI g)), some (.int (nI t)), some (.int p), some (.int (nI i)), none] [] μ1 ν := by
    intro n
    induction n with
    | zero => intro i μ1 h; omega
    | succ n ih =>
      intro i μ1 hn hi hR1 hM1
      have hc1 := hc.mr hM1
      have hs0 : μ1 75 5 = nI (N (c 7 0)) := hc1.1.2.1.trans hns.1
      have fin : ∀ x : Int32, i < N (c 7 0) → x = (if g = 0 then givP c tw t i else 0) → AW mX10_step (3, none) P 42 [some (.ref 75), some (.int (nI g)), some (.int (nI t)), some (.int p), some (.int (nI i)), some (.int (givP c tw t i))] [] (up2 μ1 75 23 (μ1 75 23 + x)) ν := by
        intro x hi2 hx
        obtain ⟨k1, k2⟩ := hR1.q (i := 0) (w := givP c tw t i) (by omega) hx
        have hM2 := hM1.tr k2
        obtain ⟨e1, _⟩ := (hc.mr hM2).2.2.1 i hi2
        obtain ⟨⟨w1, w2⟩, _⟩ := hC.2.1.2 i hi2
        rw [w1.1] at e1
        refine A_aload_n dX10_step_42 rfl ?_
        refine A_iload_n dX10_step_43 rfl ?_
        refine A_aload_n dX10_step_44 rfl ?_
        refine A_getR dX10_step_45 flX10_22 rfl rfl ?_
        refine A_iload dX10_step_48 rfl ?_
        refine A_ialdN (j := i) dX10_step_50 rfl rfl (by omega) (by decide) ?_
        rw [show up2 μ1 75 (23 + 0) (μ1 75 (23 + 0) + x) 80 i = _ from e1]
        refine A_iload dX10_step_51 rfl ?_
        refine A_iload_n dX10_step_53 rfl ?_
        refine A_callV4 dX10_step_54 mlX10_151 (by decide) rfl rfl (Nat.le_of_ble_eq_true rfl) (m_come (k := 0) _ hg (by omega) (by omega) k1 (fun μ2 q1 q2 => ?_))
        refine Kn.v ?_
        refine A_iincN (ls1 := [_, _, _, _, _, _]) dX10_step_57 rfl (by decide) rfl rfl ?_
        refine A_goto (tgt := 3) dX10_step_60 (by decide) ?_
        refine A_weak (ih (i + 1) μ2 (by omega) (by omega) ?_ (hM2.tr q2)) (by repeat first | exact fw_0 | refine fw_s ?_ | refine fw_n ?_)
        rw [dripsP]
        unfold dripP
        unfold givP at q1
        by_cases q : (dueB c i t && !(heldB c tw i t)) = true
        · rw [if_pos q] at q1 ⊢
          exact q1
        · rw [if_neg q] at q1 ⊢
          exact q1.z
      refine A_iload dX10_step_3 rfl ?_
      refine A_aload_n dX10_step_5 rfl ?_
      refine A_getI dX10_step_6 flX10_99 rfl rfl ?_
      rw [hs0]
      refine A_icmp_geN (tgt := 63) dX10_step_9 (by decide) (by omega) (by omega) (fun b9 => ?_) (fun b9 => ?_)
      · rw [show i = N (c 7 0) by omega] at hR1
        refine A_iconst (v := nI 0) dX10_step_63 (by decide +kernel) ?_
        refine A_istore (ls1 := [_, _, _, _, _, _]) dX10_step_64 (by decide) rfl rfl ?_
        exact A_weak (loop2 (N (c 2 0) + 1) 0 μ1 (by omega) (by omega) hR1 hM1) (by repeat first | exact fw_0 | refine fw_s ?_ | refine fw_n ?_)
      · refine A_aload_n dX10_step_12 rfl ?_
        refine A_iload_n dX10_step_13 rfl ?_
        refine A_iload dX10_step_14 rfl ?_
        refine A_iload_n dX10_step_16 rfl ?_
        refine A_iload_n dX10_step_17 rfl ?_
        refine A_callV4 dX10_step_18 mlX10_144 (by decide) rfl rfl (Nat.le_of_ble_eq_true rfl) (m_dripOf _ (by omega) hC hc1 (hT.mr hM1) hg hp b9 ?_)
        refine Kn.s ?_
        refine A_istore (ls1 := [_, _, _, _, _, _]) dX10_step_21 (by decide) rfl rfl ?_
        refine A_aload_n dX10_step_23 rfl ?_
        refine A_dup dX10_step_24 rfl ?_
        refine A_getI dX10_step_25 flX10_148 rfl rfl ?_
        refine A_iload_n dX10_step_28 rfl ?_
        refine A_if_ne (tgt := 37) dX10_step_29 (by decide) (fun b29 => ?_) (fun b29 => ?_)
        · refine A_iconst (v := nI 0) dX10_step_37 (by decide +kernel) ?_
          refine A_iadd dX10_step_38 ?_
          refine A_put dX10_step_39 fpX10_148 rfl rfl rfl rfl ?_
          exact fin 0 b9 (by rw [if_neg (fun q => b29 (by rw [q]; rfl))])
        · refine A_iload dX10_step_32 rfl ?_
          refine A_goto (tgt := 38) dX10_step_34 (by decide) ?_
          refine A_iadd dX10_step_38 ?_
          refine A_put dX10_step_39 fpX10_148 rfl rfl rfl rfl ?_
          exact fin _ b9 (by rw [if_pos ((nI_eq (b := 0) (by omega) (by omega)).mp b29)])
  refine A_iconst (v := nI 0) dX10_step_0 (by decide +kernel) ?_
  refine A_istore (ls1 := [_, _, _, _, _, _]) dX10_step_1 (by decide) rfl rfl ?_
  exact loop1 (N (c 7 0) + 1) 0 μ (by omega) (by omega) hR Mr.rf
