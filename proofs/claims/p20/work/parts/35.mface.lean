/-! the reference's face: what is told, counted, ticked, heard -/
theorem sumI_succ (h : Nat → Int32) : ∀ n, h 0 + sumI (fun j => h (j + 1)) n = sumI h n + h n
  | 0 => by simp [sumI]
  | n + 1 => by rw [sumI, ← Int32.add_assoc, sumI_succ h n, sumI]
theorem i32_canc {a x y : Int32} (h : a + x = y + a) : x = y := by
  have h2 : (a + x) - a = (y + a) - a := by rw [h]
  rw [Int32.add_comm a x] at h2
  simpa using h2
theorem sumI_rot (f : Nat → Int32) {n : Nat} (hn : 0 < n) : ∀ t, sumI (fun j => f ((t + j) % n)) n = sumI f n
  | 0 => sumI_cong (fun k hk => by rw [Nat.zero_add, Nat.mod_eq_of_lt hk])
  | t + 1 => by
    have e := sumI_succ (fun j => f ((t + j) % n)) n
    have e2 : f ((t + n) % n) = f ((t + 0) % n) := by rw [Nat.add_mod_right, Nat.add_zero]
    simp only [e2] at e
    have e3 := i32_canc e
    rw [sumI_rot f hn t] at e3
    rw [← e3]
    exact sumI_cong (fun k _ => by rw [show t + 1 + k = t + (k + 1) by omega])
theorem m_onTheWay {b t : Nat} {S : St} {μ : MI} {ν : ML} {P : Po} (hb : b < 8) (hR : RA 0 t 0 S μ) (hP : P (some (.int (sumI (sC S b) 21))) μ ν) : Ct mX10_onTheWay 0 [.ref 75, .int (nI b)] μ ν P := by
  refine Ct.of (ls0 := [_, _, _, _]) (by decide) rfl (Nat.le_of_ble_eq_true rfl) rfl ?_
  have e : sumI (fun k => μ 91 (21 * b + k)) 21 = sumI (sC S b) 21 := by
    rw [← sumI_rot (fun k => μ 91 (21 * b + k)) (show 0 < 21 by omega) t]
    refine sumI_cong (fun j hj => ?_)
    have := hR.2.2 b hb j (by omega)
    rw [show 21 * (8 * 0 + b) = 21 * b by omega] at this
    exact this
  have loop : ∀ (n i : Nat), 21 - i < n → i ≤ 21 → AW mX10_onTheWay (0, none) P 4 [some (.ref 75), some (.int (nI b)), some (.int (sumI (fun k => μ 91 (21 * b + k)) i)), some (.int (nI i))] [] μ ν := by
    intro n
    induction n with
    | zero => intro i h; omega
    | succ n ih =>
      intro i hn hi
      refine A_iload_n dX10_onTheWay_4 rfl ?_
      refine A_bipush (v := nI 21) dX10_onTheWay_5 (by decide +kernel) ?_
      refine A_icmp_geN (tgt := 30) dX10_onTheWay_7 (by decide) (by omega) (by omega) (fun b7 => ?_) (fun b7 => ?_)
      · refine A_iload_n dX10_onTheWay_30 rfl ?_
        refine A_iret dX10_onTheWay_31 rfl rfl ?_
        rw [show i = 21 by omega, e]
        exact hP
      · refine A_iload_n dX10_onTheWay_10 rfl ?_
        refine A_aload_n dX10_onTheWay_11 rfl ?_
        refine A_getR dX10_onTheWay_12 flX10_55 rfl rfl ?_
        refine A_bipush (v := nI 21) dX10_onTheWay_15 (by decide +kernel) ?_
        refine A_iload_n dX10_onTheWay_17 rfl ?_
        refine A_imulN dX10_onTheWay_18 ?_
        refine A_iload_n dX10_onTheWay_19 rfl ?_
        refine A_iaddN dX10_onTheWay_20 ?_
        refine A_ialdN (j := 21 * b + i) dX10_onTheWay_21 rfl rfl (by omega) (by decide) ?_
        refine A_iadd dX10_onTheWay_22 ?_
        refine A_istore_n (ls1 := [_, _, _, _]) dX10_onTheWay_23 (by decide) rfl rfl ?_
        refine A_iincN (ls1 := [_, _, _, _]) dX10_onTheWay_24 rfl (by decide) rfl rfl ?_
        refine A_goto (tgt := 4) dX10_onTheWay_27 (by decide) ?_
        exact ih (i + 1) (by omega) (by omega)
  refine A_iconst (v := nI 0) dX10_onTheWay_0 (by decide +kernel) ?_
  refine A_istore_n (ls1 := [_, _, _, _]) dX10_onTheWay_1 (by decide) rfl rfl ?_
  refine A_iconst (v := nI 0) dX10_onTheWay_2 (by decide +kernel) ?_
  refine A_istore_n (ls1 := [_, _, _, _]) dX10_onTheWay_3 (by decide) rfl rfl ?_
  exact loop 22 0 (by omega) (by omega)
/-- what is told of a bucket -/
def tolS (c : MI) (S : St) (k : Nat) (j : Nat) : Int32 := match j with
  | 0 => c 3 k
  | 1 => c 4 k
  | 2 => c 5 k
  | 3 => if c 5 k = -1 then -1 else c 6 k
  | 4 => sH S k
  | 5 => nI (sD S k)
  | 6 => sK S k
  | 7 => sL S k
  | _ => sumI (sC S k) 21
theorem m_told (b what : Int32) {m t : Nat} {S : St} {c μ : MI} {ν : ML} {P : Po} (hc : CM c μ) (hm : c 2 0 = nI m) (hm8 : m ≤ 8) (ht : t < 9000) (hR : RM 0 t 0 S μ) (hn : μ 75 21 = nI t) (hK : ∀ b, b < 8 → μ 92 b = sK S b ∧ μ 93 b = sL S b) (hu : ¬ inR b m → P (some (.int (-1001))) μ ν) (ha : ∀ k j, b = nI k → k < m → j < 9 → what = nI j → P (some (.int (tolS c S k j))) μ ν) (ho : inR b m → (what.toInt < 0 ∨ 8 < what.toInt) → P (some (.int (-1002))) μ ν) : Ct mX10_told 2 [.ref 75, .int b, .int what] μ ν P := by
  refine Ct.of (ls0 := [_, _, _]) (by decide) rfl (Nat.le_of_ble_eq_true rfl) rfl ?_
  have hN : N (c 2 0) = m := by rw [hm]; exact N_nI (by omega)
  refine A_aload_n dX10_told_0 rfl ?_
  refine A_iload_n dX10_told_1 rfl ?_
  refine A_callV1 dX10_told_2 mlX10_106 (by decide) rfl rfl (Nat.le_of_ble_eq_true rfl) (m_noBucket _ (hc.1.1.trans hm) hm8 (fun g1 => ?_) (fun g1 => ?_))
  · refine Kn.s ?_
    refine A_if_eq (tgt := 12) dX10_told_5 (by decide) (fun _ => ?_) (fun h => absurd h (by decide +kernel))
    have g1' := g1
    obtain ⟨k, rfl, hk⟩ := g1
    have hk8 : k < 8 := by omega
    obtain ⟨e1, e2, e3, e4⟩ := hc.2.1 k (by omega)
    have hl := hR.1.1 k hk8
    rw [show 8 * 0 + k = k by omega] at hl
    have hu2 := hR.1.2.1 k hk8
    rw [show 8 * 0 + k = k by omega, if_neg (by omega)] at hu2
    have hge := hu2.1.ge (by omega) hu2.2
    refine A_iload_n dX10_told_12 rfl ?_
    rcases sw_of (what) (n := 9) (by decide) with ⟨k13, hk13, hs13⟩ | hs13
    · rcases (show k13 = 0 ∨ k13 = 1 ∨ k13 = 2 ∨ k13 = 3 ∨ k13 = 4 ∨ k13 = 5 ∨ k13 = 6 ∨ k13 = 7 ∨ k13 = 8 by omega) with rfl | rfl | rfl | rfl | rfl | rfl | rfl | rfl | rfl
      · rw [hs13]
        refine A_tableIn (off := 51) (tgt := 64) dX10_told_13 (by decide +kernel) (by decide +kernel) (by decide +kernel) (by decide) ?_
        refine A_aload_n dX10_told_64 rfl ?_
        refine A_getR dX10_told_65 flX10_7 rfl rfl ?_
        refine A_iload_n dX10_told_68 rfl ?_
        refine A_ialdN (j := k) dX10_told_69 rfl rfl hk8 (by decide) ?_
        refine A_iret dX10_told_70 rfl rfl ?_
        rw [e1]; exact ha k 0 rfl hk (by omega) hs13
      · rw [hs13]
        refine A_tableIn (off := 58) (tgt := 71) dX10_told_13 (by decide +kernel) (by decide +kernel) (by decide +kernel) (by decide) ?_
        refine A_aload_n dX10_told_71 rfl ?_
        refine A_getR dX10_told_72 flX10_13 rfl rfl ?_
        refine A_iload_n dX10_told_75 rfl ?_
        refine A_ialdN (j := k) dX10_told_76 rfl rfl hk8 (by decide) ?_
        refine A_iret dX10_told_77 rfl rfl ?_
        rw [e2]; exact ha k 1 rfl hk (by omega) hs13
      · rw [hs13]
        refine A_tableIn (off := 65) (tgt := 78) dX10_told_13 (by decide +kernel) (by decide +kernel) (by decide +kernel) (by decide) ?_
        refine A_aload_n dX10_told_78 rfl ?_
        refine A_getR dX10_told_79 flX10_16 rfl rfl ?_
        refine A_iload_n dX10_told_82 rfl ?_
        refine A_ialdN (j := k) dX10_told_83 rfl rfl hk8 (by decide) ?_
        refine A_iret dX10_told_84 rfl rfl ?_
        rw [e3]; exact ha k 2 rfl hk (by omega) hs13
      · rw [hs13]
        refine A_tableIn (off := 72) (tgt := 85) dX10_told_13 (by decide +kernel) (by decide +kernel) (by decide +kernel) (by decide) ?_
        refine A_aload_n dX10_told_85 rfl ?_
        refine A_getR dX10_told_86 flX10_19 rfl rfl ?_
        refine A_iload_n dX10_told_89 rfl ?_
        refine A_ialdN (j := k) dX10_told_90 rfl rfl hk8 (by decide) ?_
        refine A_iret dX10_told_91 rfl rfl ?_
        rw [e4]; exact ha k 3 rfl hk (by omega) hs13
      · rw [hs13]
        refine A_tableIn (off := 79) (tgt := 92) dX10_told_13 (by decide +kernel) (by decide +kernel) (by decide +kernel) (by decide) ?_
        refine A_aload_n dX10_told_92 rfl ?_
        refine A_getR dX10_told_93 flX10_49 rfl rfl ?_
        refine A_iload_n dX10_told_96 rfl ?_
        refine A_ialdN (j := k) dX10_told_97 rfl rfl (by omega) (by decide) ?_
        refine A_iret dX10_told_98 rfl rfl ?_
        rw [hl]; exact ha k 4 rfl hk (by omega) hs13
      · rw [hs13]
        refine A_tableIn (off := 86) (tgt := 99) dX10_told_13 (by decide +kernel) (by decide +kernel) (by decide +kernel) (by decide) ?_
        refine A_aload_n dX10_told_99 rfl ?_
        refine A_getR dX10_told_100 flX10_52 rfl rfl ?_
        refine A_iload_n dX10_told_103 rfl ?_
        refine A_ialdN (j := k) dX10_told_104 rfl rfl (by omega) (by decide) ?_
        refine A_aload_n dX10_told_105 rfl ?_
        refine A_getI dX10_told_106 flX10_162 rfl rfl ?_
        rw [hn]
        refine A_icmp_lt (tgt := 128) dX10_told_109 (by decide) (fun b109 => ?_) (fun b109 => ?_)
        · refine A_iconst (v := nI 0) dX10_told_128 (by decide +kernel) ?_
          refine A_iret dX10_told_129 rfl rfl ?_
          have hd : sD S k = 0 := by
            rcases Nat.eq_zero_or_pos (sD S k) with e | e
            · exact e
            · exact absurd (hge.mpr e) (i_lt_n b109)
          have h9 := ha k 5 rfl hk (by omega) hs13
          simp only [tolS] at h9
          rw [hd] at h9
          exact h9
        · refine A_aload_n dX10_told_112 rfl ?_
          refine A_getR dX10_told_113 flX10_52 rfl rfl ?_
          refine A_iload_n dX10_told_116 rfl ?_
          refine A_ialdN (j := k) dX10_told_117 rfl rfl (by omega) (by decide) ?_
          refine A_aload_n dX10_told_118 rfl ?_
          refine A_getI dX10_told_119 flX10_162 rfl rfl ?_
          rw [hn]
          refine A_isub dX10_told_122 ?_
          refine A_iconst (v := nI 1) dX10_told_123 (by decide +kernel) ?_
          refine A_iadd dX10_told_124 ?_
          refine A_goto (tgt := 129) dX10_told_125 (by decide) ?_
          refine A_iret dX10_told_129 rfl rfl ?_
          have hd : 0 < sD S k := hge.mp (i_nlt b109)
          have h9 := ha k 5 rfl hk (by omega) hs13
          simp only [tolS] at h9
          rw [hu2.1.2 hd, pk_sub (by omega), nI_add, show t + sD S k - 1 - t + 1 = sD S k by omega]
          exact h9
      · rw [hs13]
        refine A_tableIn (off := 117) (tgt := 130) dX10_told_13 (by decide +kernel) (by decide +kernel) (by decide +kernel) (by decide) ?_
        refine A_aload_n dX10_told_130 rfl ?_
        refine A_getR dX10_told_131 flX10_58 rfl rfl ?_
        refine A_iload_n dX10_told_134 rfl ?_
        refine A_ialdN (j := k) dX10_told_135 rfl rfl hk8 (by decide) ?_
        refine A_iret dX10_told_136 rfl rfl ?_
        rw [(hK k hk8).1]; exact ha k 6 rfl hk (by omega) hs13
      · rw [hs13]
        refine A_tableIn (off := 124) (tgt := 137) dX10_told_13 (by decide +kernel) (by decide +kernel) (by decide +kernel) (by decide) ?_
        refine A_aload_n dX10_told_137 rfl ?_
        refine A_getR dX10_told_138 flX10_61 rfl rfl ?_
        refine A_iload_n dX10_told_141 rfl ?_
        refine A_ialdN (j := k) dX10_told_142 rfl rfl hk8 (by decide) ?_
        refine A_iret dX10_told_143 rfl rfl ?_
        rw [(hK k hk8).2]; exact ha k 7 rfl hk (by omega) hs13
      · rw [hs13]
        refine A_tableIn (off := 131) (tgt := 144) dX10_told_13 (by decide +kernel) (by decide +kernel) (by decide +kernel) (by decide) ?_
        refine A_aload_n dX10_told_144 rfl ?_
        refine A_iload_n dX10_told_145 rfl ?_
        refine A_callV1 dX10_told_146 mlX10_165 (by decide) rfl rfl (Nat.le_of_ble_eq_true rfl) (m_onTheWay hk8 hR.1 ?_)
        refine Kn.s ?_
        refine A_iret dX10_told_149 rfl rfl ?_
        exact ha k 8 rfl hk (by omega) hs13
    · refine A_tableOut (tgt := 150) dX10_told_13 hs13 (by decide) ?_
      refine A_sipush (v := (-1002)) dX10_told_150 (by decide +kernel) ?_
      refine A_iret dX10_told_153 rfl rfl ?_
      exact ho g1' hs13
  · refine Kn.s ?_
    refine A_if_eq (tgt := 12) dX10_told_5 (by decide) (fun h => absurd h (by decide +kernel)) (fun _ => ?_)
    refine A_sipush (v := (-1001)) dX10_told_8 (by decide +kernel) ?_
    refine A_iret dX10_told_11 rfl rfl ?_
    exact hu g1
/-- how many are heard -/
def heaN (μ : MI) (nb : Nat) : Nat := cntB (fun b => decide (μ 97 b ≠ 0)) nb
def couM (S : St) (nb : Nat) (μ : MI) (j : Nat) : Int32 := match j with
  | 0 => μ 75 21
  | 1 => μ 75 0
  | 2 => μ 75 5
  | 3 => μ 75 10
  | 4 => μ 75 14
  | 5 => μ 75 22
  | 6 => μ 75 23
  | 7 => sumI (sH S) nb
  | 8 => sumI (fun b => sumI (sC S b) 21) nb
  | 9 => μ 75 24
  | 10 => μ 75 25
  | _ => nI (heaN μ nb)
theorem m_count (what : Int32) {m t : Nat} {S : St} {μ : MI} {ν : ML} {P : Po} (hm : μ 75 0 = nI m) (hm8 : m ≤ 8) (hR : RA 0 t 0 S μ) (ha : ∀ j, j < 12 → what = nI j → P (some (.int (couM S m μ j))) μ ν) (ho : (what.toInt < 0 ∨ 11 < what.toInt) → P (some (.int (-1002))) μ ν) : Ct mX10_count 1 [.ref 75, .int what] μ ν P := by
  refine Ct.of (ls0 := [_, _, _, _, _, _]) (by decide) rfl (Nat.le_of_ble_eq_true rfl) rfl ?_
  have loop : ∀ (n i : Nat), m - i < n → i ≤ m → AW mX10_count (1, none) P 10 [some (.ref 75), some (.int what), some (.int (sumI (sH S) i)), some (.int (sumI (fun b => sumI (sC S b) 21) i)), some (.int (nI (heaN μ i))), some (.int (nI i))] [] μ ν := by
    intro n
    induction n with
    | zero => intro i h; omega
    | succ n ih =>
      intro i hn hi
      have ih1 : i < m → _ := fun h => ih (i + 1) (by omega) (by omega)
      unfold heaN at ih1
      rw [sumI, sumI, cntB] at ih1
      refine A_iload dX10_count_10 rfl ?_
      refine A_aload_n dX10_count_12 rfl ?_
      refine A_getI dX10_count_13 flX10_92 rfl rfl ?_
      rw [hm]
      refine A_icmp_geN (tgt := 64) dX10_count_16 (by decide) (by omega) (by omega) (fun b16 => ?_) (fun b16 => ?_)
      · have e : i = m := by omega
        subst e
        refine A_iload_n dX10_count_64 rfl ?_
        rcases sw_of (what) (n := 12) (by decide) with ⟨k65, hk65, hs65⟩ | hs65
        · rcases (show k65 = 0 ∨ k65 = 1 ∨ k65 = 2 ∨ k65 = 3 ∨ k65 = 4 ∨ k65 = 5 ∨ k65 = 6 ∨ k65 = 7 ∨ k65 = 8 ∨ k65 = 9 ∨ k65 = 10 ∨ k65 = 11 by omega) with rfl | rfl | rfl | rfl | rfl | rfl | rfl | rfl | rfl | rfl | rfl | rfl
          · rw [hs65]
            refine A_tableIn (off := 63) (tgt := 128) dX10_count_65 (by decide +kernel) (by decide +kernel) (by decide +kernel) (by decide) ?_
            refine A_aload_n dX10_count_128 rfl ?_
            refine A_getI dX10_count_129 flX10_162 rfl rfl ?_
            refine A_iret dX10_count_132 rfl rfl ?_
            exact ha 0 (by omega) hs65
          · rw [hs65]
            refine A_tableIn (off := 68) (tgt := 133) dX10_count_65 (by decide +kernel) (by decide +kernel) (by decide +kernel) (by decide) ?_
            refine A_aload_n dX10_count_133 rfl ?_
            refine A_getI dX10_count_134 flX10_92 rfl rfl ?_
            refine A_iret dX10_count_137 rfl rfl ?_
            exact ha 1 (by omega) hs65
          · rw [hs65]
            refine A_tableIn (off := 73) (tgt := 138) dX10_count_65 (by decide +kernel) (by decide +kernel) (by decide +kernel) (by decide) ?_
            refine A_aload_n dX10_count_138 rfl ?_
            refine A_getI dX10_count_139 flX10_99 rfl rfl ?_
            refine A_iret dX10_count_142 rfl rfl ?_
            exact ha 2 (by omega) hs65
          · rw [hs65]
            refine A_tableIn (off := 78) (tgt := 143) dX10_count_65 (by decide +kernel) (by decide +kernel) (by decide +kernel) (by decide) ?_
            refine A_aload_n dX10_count_143 rfl ?_
            refine A_getI dX10_count_144 flX10_117 rfl rfl ?_
            refine A_iret dX10_count_147 rfl rfl ?_
            exact ha 3 (by omega) hs65
          · rw [hs65]
            refine A_tableIn (off := 83) (tgt := 148) dX10_count_65 (by decide +kernel) (by decide +kernel) (by decide +kernel) (by decide) ?_
            refine A_aload_n dX10_count_148 rfl ?_
            refine A_getI dX10_count_149 flX10_122 rfl rfl ?_
            refine A_iret dX10_count_152 rfl rfl ?_
            exact ha 4 (by omega) hs65
          · rw [hs65]
            refine A_tableIn (off := 88) (tgt := 153) dX10_count_65 (by decide +kernel) (by decide +kernel) (by decide +kernel) (by decide) ?_
            refine A_aload_n dX10_count_153 rfl ?_
            refine A_getI dX10_count_154 flX10_168 rfl rfl ?_
            refine A_iret dX10_count_157 rfl rfl ?_
            exact ha 5 (by omega) hs65
          · rw [hs65]
            refine A_tableIn (off := 93) (tgt := 158) dX10_count_65 (by decide +kernel) (by decide +kernel) (by decide +kernel) (by decide) ?_
            refine A_aload_n dX10_count_158 rfl ?_
            refine A_getI dX10_count_159 flX10_148 rfl rfl ?_
            refine A_iret dX10_count_162 rfl rfl ?_
            exact ha 6 (by omega) hs65
          · rw [hs65]
            refine A_tableIn (off := 98) (tgt := 163) dX10_count_65 (by decide +kernel) (by decide +kernel) (by decide +kernel) (by decide) ?_
            refine A_iload_n dX10_count_163 rfl ?_
            refine A_iret dX10_count_164 rfl rfl ?_
            exact ha 7 (by omega) hs65
          · rw [hs65]
            refine A_tableIn (off := 100) (tgt := 165) dX10_count_65 (by decide +kernel) (by decide +kernel) (by decide +kernel) (by decide) ?_
            refine A_iload_n dX10_count_165 rfl ?_
            refine A_iret dX10_count_166 rfl rfl ?_
            exact ha 8 (by omega) hs65
          · rw [hs65]
            refine A_tableIn (off := 102) (tgt := 167) dX10_count_65 (by decide +kernel) (by decide +kernel) (by decide +kernel) (by decide) ?_
            refine A_aload_n dX10_count_167 rfl ?_
            refine A_getI dX10_count_168 flX10_141 rfl rfl ?_
            refine A_iret dX10_count_171 rfl rfl ?_
            exact ha 9 (by omega) hs65
          · rw [hs65]
            refine A_tableIn (off := 107) (tgt := 172) dX10_count_65 (by decide +kernel) (by decide +kernel) (by decide +kernel) (by decide) ?_
            refine A_aload_n dX10_count_172 rfl ?_
            refine A_getI dX10_count_173 flX10_155 rfl rfl ?_
            refine A_iret dX10_count_176 rfl rfl ?_
            exact ha 10 (by omega) hs65
          · rw [hs65]
            refine A_tableIn (off := 112) (tgt := 177) dX10_count_65 (by decide +kernel) (by decide +kernel) (by decide +kernel) (by decide) ?_
            refine A_iload dX10_count_177 rfl ?_
            refine A_iret dX10_count_179 rfl rfl ?_
            exact ha 11 (by omega) hs65
        · refine A_tableOut (tgt := 180) dX10_count_65 hs65 (by decide) ?_
          refine A_sipush (v := (-1002)) dX10_count_180 (by decide +kernel) ?_
          refine A_iret dX10_count_183 rfl rfl ?_
          exact ho hs65
      · have hl := hR.1 i (by omega)
        rw [show 8 * 0 + i = i by omega] at hl
        refine A_iload_n dX10_count_19 rfl ?_
        refine A_aload_n dX10_count_20 rfl ?_
        refine A_getR dX10_count_21 flX10_49 rfl rfl ?_
        refine A_iload dX10_count_24 rfl ?_
        refine A_ialdN (j := i) dX10_count_26 rfl rfl (by omega) (by decide) ?_
        rw [hl]
        refine A_iadd dX10_count_27 ?_
        refine A_istore_n (ls1 := [_, _, _, _, _, _]) dX10_count_28 (by decide) rfl rfl ?_
        refine A_iload_n dX10_count_29 rfl ?_
        refine A_aload_n dX10_count_30 rfl ?_
        refine A_iload dX10_count_31 rfl ?_
        refine A_callV1 dX10_count_33 mlX10_165 (by decide) rfl rfl (Nat.le_of_ble_eq_true rfl) (m_onTheWay (by omega) hR ?_)
        refine Kn.s ?_
        refine A_iadd dX10_count_36 ?_
        refine A_istore_n (ls1 := [_, _, _, _, _, _]) dX10_count_37 (by decide) rfl rfl ?_
        refine A_iload dX10_count_38 rfl ?_
        refine A_aload_n dX10_count_40 rfl ?_
        refine A_getR dX10_count_41 flX10_82 rfl rfl ?_
        refine A_iload dX10_count_44 rfl ?_
        refine A_zaldN (j := i) dX10_count_46 rfl rfl (by omega) (by decide) ?_
        refine A_if_eq (tgt := 54) dX10_count_47 (by decide) (fun b47 => ?_) (fun b47 => ?_)
        · refine A_iconst (v := nI 0) dX10_count_54 (by decide +kernel) ?_
          refine A_iaddN dX10_count_55 ?_
          refine A_istore (ls1 := [_, _, _, _, _, _]) dX10_count_56 (by decide) rfl rfl ?_
          refine A_iincN (ls1 := [_, _, _, _, _, _]) dX10_count_58 rfl (by decide) rfl rfl ?_
          refine A_goto (tgt := 10) dX10_count_61 (by decide) ?_
          have h9 := ih1 b16
          rw [if_neg (by rw [decide_eq_false (fun q => q b47)]; decide)] at h9
          exact h9
        · refine A_iconst (v := nI 1) dX10_count_50 (by decide +kernel) ?_
          refine A_goto (tgt := 55) dX10_count_51 (by decide) ?_
          refine A_iaddN dX10_count_55 ?_
          refine A_istore (ls1 := [_, _, _, _, _, _]) dX10_count_56 (by decide) rfl rfl ?_
          refine A_iincN (ls1 := [_, _, _, _, _, _]) dX10_count_58 rfl (by decide) rfl rfl ?_
          refine A_goto (tgt := 10) dX10_count_61 (by decide) ?_
          have h9 := ih1 b16
          rw [if_pos (by rw [decide_eq_true b47])] at h9
          exact h9
  refine A_iconst (v := nI 0) dX10_count_0 (by decide +kernel) ?_
  refine A_istore_n (ls1 := [_, _, _, _, _, _]) dX10_count_1 (by decide) rfl rfl ?_
  refine A_iconst (v := nI 0) dX10_count_2 (by decide +kernel) ?_
  refine A_istore_n (ls1 := [_, _, _, _, _, _]) dX10_count_3 (by decide) rfl rfl ?_
  refine A_iconst (v := nI 0) dX10_count_4 (by decide +kernel) ?_
  refine A_istore (ls1 := [_, _, _, _, _, _]) dX10_count_5 (by decide) rfl rfl ?_
  refine A_iconst (v := nI 0) dX10_count_7 (by decide +kernel) ?_
  refine A_istore (ls1 := [_, _, _, _, _, _]) dX10_count_8 (by decide) rfl rfl ?_
  exact loop (m + 1) 0 (by omega) (by omega)
theorem sar_60 {n : Nat} (h : n < 2 ^ 63) : lN n >>> ((nI 60).toInt64 &&& 63) = lN (n / 2 ^ 60) := by
  have hd : n / 2 ^ 60 ≤ n := Nat.div_le_self _ _
  apply Int64.toInt_inj.mp
  have e : (lN n >>> ((nI 60).toInt64 &&& 63)).toInt = (lN n).toInt >>> 60 := by
    have hD : (((nI 60).toInt64 &&& 63).toBitVec.smod 64).toNat = 60 := by decide +kernel
    conv => rhs; rw [← hD]
    exact BitVec.toInt_sshiftRight ..
  rw [e, Int.shiftRight_eq_div_pow, pf_lI (by omega), pf_lI (by omega)]
  rfl
theorem uL_neg (r : Int64) : r < 0 ↔ ¬ uL r < 2 ^ 63 := by
  rw [fa_lt64]
  have e : r.toInt = if 2 * uL r < 2 ^ 64 then (uL r : Int) else (uL r : Int) - 2 ^ 64 := by
    show r.toBitVec.toInt = _
    rw [BitVec.toInt_eq_toNat_cond]
    rfl
  have h := uL_lt r
  rw [e, show (0 : Int64).toInt = 0 by decide +kernel]
  split <;> omega
theorem m_isRow (r : Int64) {μ : MI} {ν : ML} {P : Po} (h1 : uL r < 2 ^ 60 → P (some (.int (nI 1))) μ ν) (h0 : ¬ uL r < 2 ^ 60 → P (some (.int (nI 0))) μ ν) : Ct mX10_isRow 0 [.long r] μ ν P := by
  refine Ct.of (ls0 := [_, _]) (by decide) rfl (Nat.le_of_ble_eq_true rfl) rfl ?_
  refine A_lload_n dX10_isRow_0 rfl ?_
  refine A_lconst (v := 0) dX10_isRow_1 rfl ?_
  refine A_lcmp dX10_isRow_2 ?_
  refine A_if_lt (tgt := 19) dX10_isRow_3 (by decide) (fun b3 => ?_) (fun b3 => ?_)
  · refine A_iconst (v := nI 0) dX10_isRow_19 (by decide +kernel) ?_
    refine A_iret dX10_isRow_20 rfl (by decide +kernel) ?_
    exact h0 (fun q => by
        have := (uL_neg r).mp ((lg_cmp_lt _ _).mp b3)
        omega)
  · have h63 : uL r < 2 ^ 63 := by
      rcases Nat.lt_or_ge (uL r) (2 ^ 63) with q | q
      · exact q
      · exact absurd ((lg_cmp_lt _ _).mpr ((uL_neg r).mpr (by omega))) b3
    have e60 : r >>> ((nI 60).toInt64 &&& 63) = lN (uL r / 2 ^ 60) := by
      conv => lhs; rw [← lN_uL r]
      exact sar_60 h63
    refine A_lload_n dX10_isRow_6 rfl ?_
    refine A_bipush (v := nI 60) dX10_isRow_7 (by decide +kernel) ?_
    refine A_lshr dX10_isRow_9 ?_
    rw [e60]
    refine A_lconst (v := 0) dX10_isRow_10 rfl ?_
    refine A_lcmp dX10_isRow_11 ?_
    refine A_if_ne (tgt := 19) dX10_isRow_12 (by decide) (fun b12 => ?_) (fun b12 => ?_)
    · refine A_iconst (v := nI 0) dX10_isRow_19 (by decide +kernel) ?_
      refine A_iret dX10_isRow_20 rfl (by decide +kernel) ?_
      exact h0 (fun q => b12 ((lg_cmp_eq _ _).mpr (by
          rw [show uL r / 2 ^ 60 = 0 by omega]
          rfl)))
    · refine A_iconst (v := nI 1) dX10_isRow_15 (by decide +kernel) ?_
      refine A_goto (tgt := 20) dX10_isRow_16 (by decide) ?_
      refine A_iret dX10_isRow_20 rfl (by decide +kernel) ?_
      have h2 : lN (uL r / 2 ^ 60) = lN 0 := (lg_cmp_eq _ _).mp b12
      have h3 := (pk_lEQ (a := uL r / 2 ^ 60) (b := 0) (by omega) (by omega)).mp h2
      exact h1 (by omega)
theorem RA.ext {g t k : Nat} {S : St} {μ μ' : MI} (h : RA g t k S μ) (e : ∀ a, 89 ≤ a → a ≤ 91 → ∀ j, μ' a j = μ a j) : RA g t k S μ' :=
  ⟨fun b hb => (e 89 (by omega) (by omega) _).trans (h.1 b hb), fun b hb => by rw [e 90 (by omega) (by omega)]; exact h.2.1 b hb, fun b hb j hj => (e 91 (by omega) (by omega) _).trans (h.2.2 b hb j hj)⟩
theorem m_hear (b : Int32) (r : Int64) {m t : Nat} {S : St} {μ : MI} {ν : ML} {P : Po} (hm : μ 75 0 = nI m) (hm8 : m ≤ 8) (hR : RA 0 t 0 S μ) (hu : ¬ inR b m → P (some (.int (-1001))) μ ν) (ho : inR b m → ¬ uL r < 2 ^ 60 → P (some (.int (-1002))) μ ν) (ha : ∀ k, b = nI k → k < m → uL r < 2 ^ 60 → P (some (.int (nI (heaN (up2 μ 97 k (nI 1)) m)))) (up2 μ 97 k (nI 1)) (up2 ν 98 k r)) : Ct mX10_hear 2 [.ref 75, .int b, .long r] μ ν P := by
  refine Ct.of (ls0 := [_, _, _, _]) (by decide) rfl (Nat.le_of_ble_eq_true rfl) rfl ?_
  refine A_aload_n dX10_hear_0 rfl ?_
  refine A_iload_n dX10_hear_1 rfl ?_
  refine A_callV1 dX10_hear_2 mlX10_106 (by decide) rfl rfl (Nat.le_of_ble_eq_true rfl) (m_noBucket _ hm hm8 (fun g1 => ?_) (fun g1 => ?_))
  · refine Kn.s ?_
    refine A_if_eq (tgt := 12) dX10_hear_5 (by decide) (fun _ => ?_) (fun h => absurd h (by decide +kernel))
    refine A_lload_n dX10_hear_12 rfl ?_
    refine A_callS1 dX10_hear_13 mlX10_202 (by decide) (Nat.le_of_ble_eq_true rfl) (m_isRow _ (fun g2 => ?_) (fun g2 => ?_))
    · refine Kn.s ?_
      refine A_if_ne (tgt := 23) dX10_hear_16 (by decide) (fun _ => ?_) (fun h => absurd h (by decide +kernel))
      obtain ⟨k, rfl, hk⟩ := id g1
      refine A_aload_n dX10_hear_23 rfl ?_
      refine A_getR dX10_hear_24 flX10_82 rfl rfl ?_
      refine A_iload_n dX10_hear_27 rfl ?_
      refine A_iconst (v := nI 1) dX10_hear_28 (by decide +kernel) ?_
      refine A_zastN (j := k) dX10_hear_29 rfl rfl (by omega) (by decide) rfl ?_
      refine A_aload_n dX10_hear_30 rfl ?_
      refine A_getR dX10_hear_31 flX10_86 rfl rfl ?_
      refine A_iload_n dX10_hear_34 rfl ?_
      refine A_lload_n dX10_hear_35 rfl ?_
      refine A_lastN (j := k) dX10_hear_36 rfl rfl (by omega) (by decide) ?_
      refine A_aload_n dX10_hear_37 rfl ?_
      refine A_bipush (v := nI 11) dX10_hear_38 (by decide +kernel) ?_
      refine A_callV1 dX10_hear_40 mlX10_216 (by decide) rfl rfl (Nat.le_of_ble_eq_true rfl) (m_count _ ((up2_a _ _ (by omega)).trans hm) hm8 (hR.ext (fun a q1 q2 j => up2_a _ _ (by omega))) (fun j hj hj2 => ?_) (fun z => absurd z (by decide +kernel)))
      refine Kn.s ?_
      refine A_iret dX10_hear_43 rfl rfl ?_
      have ej : j = 11 := (nI_inj (by omega) (by omega)).mp hj2.symm
      subst ej
      exact ha k rfl hk g2
    · refine Kn.s ?_
      refine A_if_ne (tgt := 23) dX10_hear_16 (by decide) (fun h => absurd h (by decide +kernel)) (fun _ => ?_)
      refine A_sipush (v := (-1002)) dX10_hear_19 (by decide +kernel) ?_
      refine A_iret dX10_hear_22 rfl rfl ?_
      exact ho g1 g2
  · refine Kn.s ?_
    refine A_if_eq (tgt := 12) dX10_hear_5 (by decide) (fun h => absurd h (by decide +kernel)) (fun _ => ?_)
    refine A_sipush (v := (-1001)) dX10_hear_8 (by decide +kernel) ?_
    refine A_iret dX10_hear_11 rfl rfl ?_
    exact hu g1
theorem m_hush {m t : Nat} {S : St} {μ : MI} {ν : ML} {P : Po} (hm : μ 75 0 = nI m) (hm8 : m ≤ 8) (hR : RA 0 t 0 S μ) (hP : P (some (.int (nI (heaN μ m)))) (fillX μ 97 8 (nI 0)) ν) : Ct mX10_hush 2 [.ref 75] μ ν P := by
  refine Ct.of (ls0 := [_, _, _]) (by decide) rfl (Nat.le_of_ble_eq_true rfl) rfl ?_
  have loop : ∀ (n i : Nat), 8 - i < n → i ≤ 8 → AW mX10_hush (2, none) P 9 [some (.ref 75), some (.int (nI (heaN μ m))), some (.int (nI i))] [] (fillX μ 97 i (nI 0)) ν := by
    intro n
    induction n with
    | zero => intro i h; omega
    | succ n ih =>
      intro i hn hi
      refine A_iload_n dX10_hush_9 rfl ?_
      refine A_bipush (v := nI 8) dX10_hush_10 (by decide +kernel) ?_
      refine A_icmp_geN (tgt := 28) dX10_hush_12 (by decide) (by omega) (by omega) (fun b12 => ?_) (fun b12 => ?_)
      · refine A_iload_n dX10_hush_28 rfl ?_
        refine A_iret dX10_hush_29 rfl rfl ?_
        rw [show i = 8 by omega]; exact hP
      · refine A_aload_n dX10_hush_15 rfl ?_
        refine A_getR dX10_hush_16 flX10_82 rfl rfl ?_
        refine A_iload_n dX10_hush_19 rfl ?_
        refine A_iconst (v := nI 0) dX10_hush_20 (by decide +kernel) ?_
        refine A_zastN (j := i) dX10_hush_21 rfl rfl (by omega) (by decide) rfl ?_
        refine A_iincN (ls1 := [_, _, _]) dX10_hush_22 rfl (by decide) rfl rfl ?_
        refine A_goto (tgt := 9) dX10_hush_25 (by decide) ?_
        have h9 := ih (i + 1) (by omega) (by omega)
        rw [← fillX_up] at h9
        exact h9
  refine A_aload_n dX10_hush_0 rfl ?_
  refine A_bipush (v := nI 11) dX10_hush_1 (by decide +kernel) ?_
  refine A_callV1 dX10_hush_3 mlX10_216 (by decide) rfl rfl (Nat.le_of_ble_eq_true rfl) (m_count _ hm hm8 hR (fun j hj hj2 => ?_) (fun z => absurd z (by decide +kernel)))
  refine Kn.s ?_
  refine A_istore_n (ls1 := [_, _, _]) dX10_hush_6 (by decide) rfl rfl ?_
  refine A_iconst (v := nI 0) dX10_hush_7 (by decide +kernel) ?_
  refine A_istore_n (ls1 := [_, _, _]) dX10_hush_8 (by decide) rfl rfl ?_
  have ej : j = 11 := (nI_inj (by omega) (by omega)).mp hj2.symm
  subst ej
  have h9 := loop 9 0 (by omega) (by omega)
  rw [fillX_0] at h9
  exact h9
