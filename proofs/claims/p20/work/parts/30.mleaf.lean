/-! ===== the reference's small methods and what is told to it ===== -/
/-! pasted from kit/laws/NUMBERS.to-paste: an order of ints through longs -/
theorem fa_lt (a b : Int32) : a < b ↔ a.toInt < b.toInt := Int32.lt_iff_toInt_lt
theorem fa_le (a b : Int32) : a ≤ b ↔ a.toInt ≤ b.toInt := Int32.le_iff_toInt_le
theorem fa_lt64 (a b : Int64) : a < b ↔ a.toInt < b.toInt := Int64.lt_iff_toInt_lt
theorem fa_wide_lt (a b : Int32) : a.toInt64 < b.toInt64 ↔ a < b := by rw [fa_lt64, fa_lt, Int32.toInt_toInt64, Int32.toInt_toInt64]
theorem m_in (v lo hi : Int32) {V Lo Hi : Int64} (hV : V = v.toInt64) (hLo : Lo = lo.toInt64) (hHi : Hi = hi.toInt64) {μ : MI} {ν : ML} {P : Po} (h1 : lo ≤ v → v ≤ hi → P (some (.int (nI 1))) μ ν) (h0 : ¬ (lo ≤ v ∧ v ≤ hi) → P (some (.int (nI 0))) μ ν) : Ct mX10_in 0 [.long V, .long Lo, .long Hi] μ ν P := by
  refine Ct.of (ls0 := [_, _, _, _, _, _]) (by decide) rfl (Nat.le_of_ble_eq_true rfl) rfl ?_
  subst hV
  subst hLo
  subst hHi
  refine A_lload_n dX10_in_0 rfl ?_
  refine A_lload_n dX10_in_1 rfl ?_
  refine A_lcmp dX10_in_2 ?_
  refine A_if_lt (tgt := 17) dX10_in_3 (by decide) (fun b3 => ?_) (fun b3 => ?_)
  · refine A_iconst (v := nI 0) dX10_in_17 (by decide +kernel) ?_
    refine A_iret dX10_in_18 rfl (by decide +kernel) ?_
    exact h0 (fun q => i_le_n q.1 ((fa_wide_lt _ _).mp ((lg_cmp_lt _ _).mp b3)))
  · refine A_lload_n dX10_in_6 rfl ?_
    refine A_lload dX10_in_7 rfl ?_
    refine A_lcmp dX10_in_9 ?_
    refine A_if_gt (tgt := 17) dX10_in_10 (by decide) (fun b10 => ?_) (fun b10 => ?_)
    · refine A_iconst (v := nI 0) dX10_in_17 (by decide +kernel) ?_
      refine A_iret dX10_in_18 rfl (by decide +kernel) ?_
      exact h0 (fun q => i_le_n q.2 ((fa_wide_lt _ _).mp ((lg_cmp_gt _ _).mp b10)))
    · refine A_iconst (v := nI 1) dX10_in_13 (by decide +kernel) ?_
      refine A_goto (tgt := 18) dX10_in_14 (by decide) ?_
      refine A_iret dX10_in_18 rfl (by decide +kernel) ?_
      exact h1 (i_nlt (fun q => b3 ((lg_cmp_lt _ _).mpr ((fa_wide_lt _ _).mpr q)))) (i_nlt (fun q => b10 ((lg_cmp_gt _ _).mpr ((fa_wide_lt _ _).mpr q))))
theorem inR_m {b : Int32} {m : Nat} (hm : m ≤ 100) : (nI 0 ≤ b ∧ b ≤ nI m - nI 1) ↔ inR b m := by
  rw [fa_le, fa_le, nI_toInt (by omega), pk_sub_toInt (by omega) (by omega)]
  constructor
  · rintro ⟨h1, h2⟩
    obtain ⟨j, hj, rfl⟩ := nI_of (x := b) (by rw [fa_lt]; show ¬ b.toInt < 0; omega)
    rw [nI_toInt hj] at h2
    exact ⟨j, rfl, by omega⟩
  · rintro ⟨k, rfl, hk⟩
    rw [nI_toInt (by omega)]
    omega
theorem m_noBucket (b : Int32) {m : Nat} {μ : MI} {ν : ML} {P : Po} (hm : μ 75 0 = nI m) (hm8 : m ≤ 8) (h1 : inR b m → P (some (.int (nI 0))) μ ν) (h0 : ¬ inR b m → P (some (.int (nI 1))) μ ν) : Ct mX10_noBucket 1 [.ref 75, .int b] μ ν P := by
  refine Ct.of (ls0 := [_, _]) (by decide) rfl (Nat.le_of_ble_eq_true rfl) rfl ?_
  refine A_iload_n dX10_noBucket_0 rfl ?_
  refine A_i2l dX10_noBucket_1 ?_
  refine A_lconst (v := 0) dX10_noBucket_2 rfl ?_
  refine A_aload_n dX10_noBucket_3 rfl ?_
  refine A_getI dX10_noBucket_4 flX10_92 rfl rfl ?_
  rw [hm]
  refine A_iconst (v := nI 1) dX10_noBucket_7 (by decide +kernel) ?_
  refine A_isub dX10_noBucket_8 ?_
  refine A_i2l dX10_noBucket_9 ?_
  refine A_callS3 dX10_noBucket_10 mlX10_95 (by decide) (Nat.le_of_ble_eq_true rfl) (m_in b (nI 0) (nI m - nI 1) rfl (by decide +kernel) rfl (fun g1 g2 => ?_) (fun g3 => ?_))
  · refine Kn.s ?_
    refine A_if_ne (tgt := 20) dX10_noBucket_13 (by decide) (fun _ => ?_) (fun h => absurd h (by decide +kernel))
    refine A_iconst (v := nI 0) dX10_noBucket_20 (by decide +kernel) ?_
    refine A_iret dX10_noBucket_21 rfl (by decide +kernel) ?_
    exact h1 ((inR_m (by omega)).mp ⟨g1, g2⟩)
  · refine Kn.s ?_
    refine A_if_ne (tgt := 20) dX10_noBucket_13 (by decide) (fun h => absurd h (by decide +kernel)) (fun _ => ?_)
    refine A_iconst (v := nI 1) dX10_noBucket_16 (by decide +kernel) ?_
    refine A_goto (tgt := 21) dX10_noBucket_17 (by decide) ?_
    refine A_iret dX10_noBucket_21 rfl (by decide +kernel) ?_
    exact h0 (fun q => g3 ((inR_m (by omega)).mpr q))
theorem m_noSpout (b : Int32) {m : Nat} {μ : MI} {ν : ML} {P : Po} (hm : μ 75 5 = nI m) (hm8 : m ≤ 4) (h1 : inR b m → P (some (.int (nI 0))) μ ν) (h0 : ¬ inR b m → P (some (.int (nI 1))) μ ν) : Ct mX10_noSpout 1 [.ref 75, .int b] μ ν P := by
  refine Ct.of (ls0 := [_, _]) (by decide) rfl (Nat.le_of_ble_eq_true rfl) rfl ?_
  refine A_iload_n dX10_noSpout_0 rfl ?_
  refine A_i2l dX10_noSpout_1 ?_
  refine A_lconst (v := 0) dX10_noSpout_2 rfl ?_
  refine A_aload_n dX10_noSpout_3 rfl ?_
  refine A_getI dX10_noSpout_4 flX10_99 rfl rfl ?_
  rw [hm]
  refine A_iconst (v := nI 1) dX10_noSpout_7 (by decide +kernel) ?_
  refine A_isub dX10_noSpout_8 ?_
  refine A_i2l dX10_noSpout_9 ?_
  refine A_callS3 dX10_noSpout_10 mlX10_95 (by decide) (Nat.le_of_ble_eq_true rfl) (m_in b (nI 0) (nI m - nI 1) rfl (by decide +kernel) rfl (fun g1 g2 => ?_) (fun g3 => ?_))
  · refine Kn.s ?_
    refine A_if_ne (tgt := 20) dX10_noSpout_13 (by decide) (fun _ => ?_) (fun h => absurd h (by decide +kernel))
    refine A_iconst (v := nI 0) dX10_noSpout_20 (by decide +kernel) ?_
    refine A_iret dX10_noSpout_21 rfl (by decide +kernel) ?_
    exact h1 ((inR_m (by omega)).mp ⟨g1, g2⟩)
  · refine Kn.s ?_
    refine A_if_ne (tgt := 20) dX10_noSpout_13 (by decide) (fun h => absurd h (by decide +kernel)) (fun _ => ?_)
    refine A_iconst (v := nI 1) dX10_noSpout_16 (by decide +kernel) ?_
    refine A_goto (tgt := 21) dX10_noSpout_17 (by decide) ?_
    refine A_iret dX10_noSpout_21 rfl (by decide +kernel) ?_
    exact h0 (fun q => g3 ((inR_m (by omega)).mpr q))
theorem m_bucket (x y : Int32) {m : Nat} {μ : MI} {ν : ML} {P : Po} (hm : μ 75 0 = nI m) (hm8 : m ≤ 8) (hx : ¬ okB x y → P (some (.int (-1002))) μ ν) (hf : okB x y → m = 8 → P (some (.int (-1004))) μ ν) (ha : okB x y → m < 8 → P (some (.int (nI m))) (up2 (up2 (up2 (up2 (up2 μ 76 m x) 77 m y) 78 m (-1)) 79 m (-1)) 75 0 (nI (m + 1))) ν) : Ct mX10_bucket 1 [.ref 75, .int x, .int y] μ ν P := by
  refine Ct.of (ls0 := [_, _, _]) (by decide) rfl (Nat.le_of_ble_eq_true rfl) rfl ?_
  refine A_iload_n dX10_bucket_0 rfl ?_
  refine A_i2l dX10_bucket_1 ?_
  refine A_lconst (v := 1) dX10_bucket_2 rfl ?_
  refine A_ldc2 dX10_bucket_3 kcX10_102 ?_
  refine A_callS3 dX10_bucket_6 mlX10_95 (by decide) (Nat.le_of_ble_eq_true rfl) (m_in x (nI 1) (nI 100) rfl (by decide +kernel) (by decide +kernel) (fun g1 g2 => ?_) (fun g3 => ?_))
  · refine Kn.s ?_
    refine A_if_eq (tgt := 24) dX10_bucket_9 (by decide) (fun h => absurd h (by decide +kernel)) (fun _ => ?_)
    refine A_iload_n dX10_bucket_12 rfl ?_
    refine A_i2l dX10_bucket_13 ?_
    refine A_lconst (v := 0) dX10_bucket_14 rfl ?_
    refine A_ldc2 dX10_bucket_15 kcX10_104 ?_
    refine A_callS3 dX10_bucket_18 mlX10_95 (by decide) (Nat.le_of_ble_eq_true rfl) (m_in y (nI 0) (nI 20) rfl (by decide +kernel) (by decide +kernel) (fun g4 g5 => ?_) (fun g6 => ?_))
    · refine Kn.s ?_
      refine A_if_ne (tgt := 28) dX10_bucket_21 (by decide) (fun _ => ?_) (fun h => absurd h (by decide +kernel))
      refine A_aload_n dX10_bucket_28 rfl ?_
      refine A_getI dX10_bucket_29 flX10_92 rfl rfl ?_
      rw [hm]
      refine A_bipush (v := nI 8) dX10_bucket_32 (by decide +kernel) ?_
      refine A_icmp_neN (tgt := 41) dX10_bucket_34 (by decide) (by omega) (by omega) (fun b34 => ?_) (fun b34 => ?_)
      · refine A_aload_n dX10_bucket_41 rfl ?_
        refine A_getR dX10_bucket_42 flX10_7 rfl rfl ?_
        refine A_aload_n dX10_bucket_45 rfl ?_
        refine A_getI dX10_bucket_46 flX10_92 rfl rfl ?_
        simp (disch := omega) only [up2_a, hm]
        refine A_iload_n dX10_bucket_49 rfl ?_
        refine A_iastN (j := m) dX10_bucket_50 rfl rfl (by omega) (by decide) ?_
        refine A_aload_n dX10_bucket_51 rfl ?_
        refine A_getR dX10_bucket_52 flX10_13 rfl rfl ?_
        refine A_aload_n dX10_bucket_55 rfl ?_
        refine A_getI dX10_bucket_56 flX10_92 rfl rfl ?_
        simp (disch := omega) only [up2_a, hm]
        refine A_iload_n dX10_bucket_59 rfl ?_
        refine A_iastN (j := m) dX10_bucket_60 rfl rfl (by omega) (by decide) ?_
        refine A_aload_n dX10_bucket_61 rfl ?_
        refine A_getR dX10_bucket_62 flX10_16 rfl rfl ?_
        refine A_aload_n dX10_bucket_65 rfl ?_
        refine A_getI dX10_bucket_66 flX10_92 rfl rfl ?_
        simp (disch := omega) only [up2_a, hm]
        refine A_iconst (v := (-1)) dX10_bucket_69 (by decide +kernel) ?_
        refine A_iastN (j := m) dX10_bucket_70 rfl rfl (by omega) (by decide) ?_
        refine A_aload_n dX10_bucket_71 rfl ?_
        refine A_getR dX10_bucket_72 flX10_19 rfl rfl ?_
        refine A_aload_n dX10_bucket_75 rfl ?_
        refine A_getI dX10_bucket_76 flX10_92 rfl rfl ?_
        simp (disch := omega) only [up2_a, hm]
        refine A_iconst (v := (-1)) dX10_bucket_79 (by decide +kernel) ?_
        refine A_iastN (j := m) dX10_bucket_80 rfl rfl (by omega) (by decide) ?_
        refine A_aload_n dX10_bucket_81 rfl ?_
        refine A_dup dX10_bucket_82 rfl ?_
        refine A_getI dX10_bucket_83 flX10_92 rfl rfl ?_
        simp (disch := omega) only [up2_a, hm]
        refine A_iconst (v := nI 1) dX10_bucket_86 (by decide +kernel) ?_
        refine A_iaddN dX10_bucket_87 ?_
        refine A_put dX10_bucket_88 fpX10_92 rfl rfl rfl rfl ?_
        refine A_aload_n dX10_bucket_91 rfl ?_
        refine A_getI dX10_bucket_92 flX10_92 rfl rfl ?_
        rw [up2_s]
        refine A_iconst (v := nI 1) dX10_bucket_95 (by decide +kernel) ?_
        refine A_isub dX10_bucket_96 ?_
        refine A_iret dX10_bucket_97 rfl rfl ?_
        rw [pk_sub (by omega), Nat.add_sub_cancel]
        exact ha ⟨⟨g1, g2⟩, g4, g5⟩ (by omega)
      · refine A_sipush (v := (-1004)) dX10_bucket_37 (by decide +kernel) ?_
        refine A_iret dX10_bucket_40 rfl rfl ?_
        exact hf ⟨⟨g1, g2⟩, g4, g5⟩ b34
    · refine Kn.s ?_
      refine A_if_ne (tgt := 28) dX10_bucket_21 (by decide) (fun h => absurd h (by decide +kernel)) (fun _ => ?_)
      refine A_sipush (v := (-1002)) dX10_bucket_24 (by decide +kernel) ?_
      refine A_iret dX10_bucket_27 rfl rfl ?_
      exact hx (fun q => g6 q.2)
  · refine Kn.s ?_
    refine A_if_eq (tgt := 24) dX10_bucket_9 (by decide) (fun _ => ?_) (fun h => absurd h (by decide +kernel))
    refine A_sipush (v := (-1002)) dX10_bucket_24 (by decide +kernel) ?_
    refine A_iret dX10_bucket_27 rfl rfl ?_
    exact hx (fun q => g3 q.1)
theorem m_pipe (b to dl : Int32) {m : Nat} {μ : MI} {ν : ML} {P : Po} (hm : μ 75 0 = nI m) (hm8 : m ≤ 8) (hu : (¬ inR b m ∨ (¬ to = -1 ∧ ¬ inR to m)) → P (some (.int (-1001))) μ ν) (ho : ¬ okD dl → inR b m → (to = -1 ∨ inR to m) → P (some (.int (-1002))) μ ν) (ha : ∀ k, okD dl → b = nI k → k < m → (to = -1 ∨ inR to m) → P (some (.int (nI 1))) (up2 (up2 μ 78 k to) 79 k (if to < 0 then -1 else dl)) ν) : Ct mX10_pipe 2 [.ref 75, .int b, .int to, .int dl] μ ν P := by
  refine Ct.of (ls0 := [_, _, _, _]) (by decide) rfl (Nat.le_of_ble_eq_true rfl) rfl ?_
  have main : inR b m → (to = -1 ∨ inR to m) → AW mX10_pipe (2, none) P 25 [some (.ref 75), some (.int b), some (.int to), some (.int dl)] [] μ ν := by
    intro gb gt
    refine A_iload_n dX10_pipe_25 rfl ?_
    refine A_i2l dX10_pipe_26 ?_
    refine A_lconst (v := 1) dX10_pipe_27 rfl ?_
    refine A_ldc2 dX10_pipe_28 kcX10_104 ?_
    refine A_callS3 dX10_pipe_31 mlX10_95 (by decide) (Nat.le_of_ble_eq_true rfl) (m_in dl (nI 1) (nI 20) rfl (by decide +kernel) (by decide +kernel) (fun g1 g2 => ?_) (fun g3 => ?_))
    · refine Kn.s ?_
      refine A_if_ne (tgt := 41) dX10_pipe_34 (by decide) (fun _ => ?_) (fun h => absurd h (by decide +kernel))
      obtain ⟨k, rfl, hk⟩ := id gb
      have h9 := ha k ⟨g1, g2⟩ rfl hk gt
      refine A_aload_n dX10_pipe_41 rfl ?_
      refine A_getR dX10_pipe_42 flX10_16 rfl rfl ?_
      refine A_iload_n dX10_pipe_45 rfl ?_
      refine A_iload_n dX10_pipe_46 rfl ?_
      refine A_iastN (j := k) dX10_pipe_47 rfl rfl (by omega) (by decide) ?_
      refine A_aload_n dX10_pipe_48 rfl ?_
      refine A_getR dX10_pipe_49 flX10_19 rfl rfl ?_
      refine A_iload_n dX10_pipe_52 rfl ?_
      refine A_iload_n dX10_pipe_53 rfl ?_
      refine A_if_ge (tgt := 61) dX10_pipe_54 (by decide) (fun b54 => ?_) (fun b54 => ?_)
      · refine A_iload_n dX10_pipe_61 rfl ?_
        refine A_iastN (j := k) dX10_pipe_62 rfl rfl (by omega) (by decide) ?_
        refine A_iconst (v := nI 1) dX10_pipe_63 (by decide +kernel) ?_
        refine A_iret dX10_pipe_64 rfl rfl ?_
        rw [if_neg (i_le_n b54)] at h9
        exact h9
      · refine A_iconst (v := (-1)) dX10_pipe_57 (by decide +kernel) ?_
        refine A_goto (tgt := 62) dX10_pipe_58 (by decide) ?_
        refine A_iastN (j := k) dX10_pipe_62 rfl rfl (by omega) (by decide) ?_
        refine A_iconst (v := nI 1) dX10_pipe_63 (by decide +kernel) ?_
        refine A_iret dX10_pipe_64 rfl rfl ?_
        rw [if_pos (i_nle b54)] at h9
        exact h9
    · refine Kn.s ?_
      refine A_if_ne (tgt := 41) dX10_pipe_34 (by decide) (fun h => absurd h (by decide +kernel)) (fun _ => ?_)
      refine A_sipush (v := (-1002)) dX10_pipe_37 (by decide +kernel) ?_
      refine A_iret dX10_pipe_40 rfl rfl ?_
      exact ho g3 gb gt
  refine A_aload_n dX10_pipe_0 rfl ?_
  refine A_iload_n dX10_pipe_1 rfl ?_
  refine A_callV1 dX10_pipe_2 mlX10_106 (by decide) rfl rfl (Nat.le_of_ble_eq_true rfl) (m_noBucket _ hm hm8 (fun g1 => ?_) (fun g1 => ?_))
  · refine Kn.s ?_
    refine A_if_ne (tgt := 21) dX10_pipe_5 (by decide) (fun h => absurd h (by decide +kernel)) (fun _ => ?_)
    refine A_iload_n dX10_pipe_8 rfl ?_
    refine A_iconst (v := (-1)) dX10_pipe_9 (by decide +kernel) ?_
    refine A_icmp_eq (tgt := 25) dX10_pipe_10 (by decide) (fun b10 => ?_) (fun b10 => ?_)
    · exact main g1 (Or.inl b10)
    · refine A_aload_n dX10_pipe_13 rfl ?_
      refine A_iload_n dX10_pipe_14 rfl ?_
      refine A_callV1 dX10_pipe_15 mlX10_106 (by decide) rfl rfl (Nat.le_of_ble_eq_true rfl) (m_noBucket _ hm hm8 (fun g2 => ?_) (fun g2 => ?_))
      · refine Kn.s ?_
        refine A_if_eq (tgt := 25) dX10_pipe_18 (by decide) (fun _ => ?_) (fun h => absurd h (by decide +kernel))
        exact main g1 (Or.inr g2)
      · refine Kn.s ?_
        refine A_if_eq (tgt := 25) dX10_pipe_18 (by decide) (fun h => absurd h (by decide +kernel)) (fun _ => ?_)
        refine A_sipush (v := (-1001)) dX10_pipe_21 (by decide +kernel) ?_
        refine A_iret dX10_pipe_24 rfl rfl ?_
        exact hu (Or.inr ⟨b10, g2⟩)
  · refine Kn.s ?_
    refine A_if_ne (tgt := 21) dX10_pipe_5 (by decide) (fun _ => ?_) (fun h => absurd h (by decide +kernel))
    refine A_sipush (v := (-1001)) dX10_pipe_21 (by decide +kernel) ?_
    refine A_iret dX10_pipe_24 rfl rfl ?_
    exact hu (Or.inl g1)
theorem m_spout (to v e f : Int32) {m n : Nat} {μ : MI} {ν : ML} {P : Po} (hm : μ 75 0 = nI m) (hm8 : m ≤ 8) (hn : μ 75 5 = nI n) (hn4 : n ≤ 4) (hu : ¬ inR to m → P (some (.int (-1001))) μ ν) (ho : inR to m → ¬ okS4 v e f → P (some (.int (-1002))) μ ν) (hf : inR to m → okS4 v e f → n = 4 → P (some (.int (-1004))) μ ν) (ha : inR to m → okS4 v e f → n < 4 → P (some (.int (nI n))) (up2 (up2 (up2 (up2 (up2 μ 80 n to) 81 n v) 82 n e) 83 n f) 75 5 (nI (n + 1))) ν) : Ct mX10_spout 2 [.ref 75, .int to, .int v, .int e, .int f] μ ν P := by
  refine Ct.of (ls0 := [_, _, _, _, _]) (by decide) rfl (Nat.le_of_ble_eq_true rfl) rfl ?_
  refine A_aload_n dX10_spout_0 rfl ?_
  refine A_iload_n dX10_spout_1 rfl ?_
  refine A_callV1 dX10_spout_2 mlX10_106 (by decide) rfl rfl (Nat.le_of_ble_eq_true rfl) (m_noBucket _ hm hm8 (fun g1 => ?_) (fun g1 => ?_))
  · refine Kn.s ?_
    refine A_if_eq (tgt := 12) dX10_spout_5 (by decide) (fun _ => ?_) (fun h => absurd h (by decide +kernel))
    refine A_iload_n dX10_spout_12 rfl ?_
    refine A_i2l dX10_spout_13 ?_
    refine A_lconst (v := 0) dX10_spout_14 rfl ?_
    refine A_ldc2 dX10_spout_15 kcX10_104 ?_
    refine A_callS3 dX10_spout_18 mlX10_95 (by decide) (Nat.le_of_ble_eq_true rfl) (m_in v (nI 0) (nI 20) rfl (by decide +kernel) (by decide +kernel) (fun g2 g3 => ?_) (fun g4 => ?_))
    · refine Kn.s ?_
      refine A_if_eq (tgt := 49) dX10_spout_21 (by decide) (fun h => absurd h (by decide +kernel)) (fun _ => ?_)
      refine A_iload_n dX10_spout_24 rfl ?_
      refine A_i2l dX10_spout_25 ?_
      refine A_lconst (v := 1) dX10_spout_26 rfl ?_
      refine A_ldc2 dX10_spout_27 kcX10_110 ?_
      refine A_callS3 dX10_spout_30 mlX10_95 (by decide) (Nat.le_of_ble_eq_true rfl) (m_in e (nI 1) (nI 30) rfl (by decide +kernel) (by decide +kernel) (fun g5 g6 => ?_) (fun g7 => ?_))
      · refine Kn.s ?_
        refine A_if_eq (tgt := 49) dX10_spout_33 (by decide) (fun h => absurd h (by decide +kernel)) (fun _ => ?_)
        refine A_iload dX10_spout_36 rfl ?_
        refine A_i2l dX10_spout_38 ?_
        refine A_lconst (v := 0) dX10_spout_39 rfl ?_
        refine A_ldc2 dX10_spout_40 kcX10_110 ?_
        refine A_callS3 dX10_spout_43 mlX10_95 (by decide) (Nat.le_of_ble_eq_true rfl) (m_in f (nI 0) (nI 30) rfl (by decide +kernel) (by decide +kernel) (fun g8 g9 => ?_) (fun ga => ?_))
        · refine Kn.s ?_
          refine A_if_ne (tgt := 53) dX10_spout_46 (by decide) (fun _ => ?_) (fun h => absurd h (by decide +kernel))
          refine A_aload_n dX10_spout_53 rfl ?_
          refine A_getI dX10_spout_54 flX10_99 rfl rfl ?_
          rw [hn]
          refine A_iconst (v := nI 4) dX10_spout_57 (by decide +kernel) ?_
          refine A_icmp_neN (tgt := 65) dX10_spout_58 (by decide) (by omega) (by omega) (fun b58 => ?_) (fun b58 => ?_)
          · refine A_aload_n dX10_spout_65 rfl ?_
            refine A_getR dX10_spout_66 flX10_22 rfl rfl ?_
            refine A_aload_n dX10_spout_69 rfl ?_
            refine A_getI dX10_spout_70 flX10_99 rfl rfl ?_
            simp (disch := omega) only [up2_a, hn]
            refine A_iload_n dX10_spout_73 rfl ?_
            refine A_iastN (j := n) dX10_spout_74 rfl rfl (by omega) (by decide) ?_
            refine A_aload_n dX10_spout_75 rfl ?_
            refine A_getR dX10_spout_76 flX10_25 rfl rfl ?_
            refine A_aload_n dX10_spout_79 rfl ?_
            refine A_getI dX10_spout_80 flX10_99 rfl rfl ?_
            simp (disch := omega) only [up2_a, hn]
            refine A_iload_n dX10_spout_83 rfl ?_
            refine A_iastN (j := n) dX10_spout_84 rfl rfl (by omega) (by decide) ?_
            refine A_aload_n dX10_spout_85 rfl ?_
            refine A_getR dX10_spout_86 flX10_28 rfl rfl ?_
            refine A_aload_n dX10_spout_89 rfl ?_
            refine A_getI dX10_spout_90 flX10_99 rfl rfl ?_
            simp (disch := omega) only [up2_a, hn]
            refine A_iload_n dX10_spout_93 rfl ?_
            refine A_iastN (j := n) dX10_spout_94 rfl rfl (by omega) (by decide) ?_
            refine A_aload_n dX10_spout_95 rfl ?_
            refine A_getR dX10_spout_96 flX10_31 rfl rfl ?_
            refine A_aload_n dX10_spout_99 rfl ?_
            refine A_getI dX10_spout_100 flX10_99 rfl rfl ?_
            simp (disch := omega) only [up2_a, hn]
            refine A_iload dX10_spout_103 rfl ?_
            refine A_iastN (j := n) dX10_spout_105 rfl rfl (by omega) (by decide) ?_
            refine A_aload_n dX10_spout_106 rfl ?_
            refine A_dup dX10_spout_107 rfl ?_
            refine A_getI dX10_spout_108 flX10_99 rfl rfl ?_
            simp (disch := omega) only [up2_a, hn]
            refine A_iconst (v := nI 1) dX10_spout_111 (by decide +kernel) ?_
            refine A_iaddN dX10_spout_112 ?_
            refine A_put dX10_spout_113 fpX10_99 rfl rfl rfl rfl ?_
            refine A_aload_n dX10_spout_116 rfl ?_
            refine A_getI dX10_spout_117 flX10_99 rfl rfl ?_
            rw [up2_s]
            refine A_iconst (v := nI 1) dX10_spout_120 (by decide +kernel) ?_
            refine A_isub dX10_spout_121 ?_
            refine A_iret dX10_spout_122 rfl rfl ?_
            rw [pk_sub (by omega), Nat.add_sub_cancel]
            exact ha g1 ⟨⟨g2, g3⟩, ⟨g5, g6⟩, g8, g9⟩ (by omega)
          · refine A_sipush (v := (-1004)) dX10_spout_61 (by decide +kernel) ?_
            refine A_iret dX10_spout_64 rfl rfl ?_
            exact hf g1 ⟨⟨g2, g3⟩, ⟨g5, g6⟩, g8, g9⟩ b58
        · refine Kn.s ?_
          refine A_if_ne (tgt := 53) dX10_spout_46 (by decide) (fun h => absurd h (by decide +kernel)) (fun _ => ?_)
          refine A_sipush (v := (-1002)) dX10_spout_49 (by decide +kernel) ?_
          refine A_iret dX10_spout_52 rfl rfl ?_
          exact ho g1 (fun q => ga q.2.2)
      · refine Kn.s ?_
        refine A_if_eq (tgt := 49) dX10_spout_33 (by decide) (fun _ => ?_) (fun h => absurd h (by decide +kernel))
        refine A_sipush (v := (-1002)) dX10_spout_49 (by decide +kernel) ?_
        refine A_iret dX10_spout_52 rfl rfl ?_
        exact ho g1 (fun q => g7 q.2.1)
    · refine Kn.s ?_
      refine A_if_eq (tgt := 49) dX10_spout_21 (by decide) (fun _ => ?_) (fun h => absurd h (by decide +kernel))
      refine A_sipush (v := (-1002)) dX10_spout_49 (by decide +kernel) ?_
      refine A_iret dX10_spout_52 rfl rfl ?_
      exact ho g1 (fun q => g4 q.1)
  · refine Kn.s ?_
    refine A_if_eq (tgt := 12) dX10_spout_5 (by decide) (fun h => absurd h (by decide +kernel)) (fun _ => ?_)
    refine A_sipush (v := (-1001)) dX10_spout_8 (by decide +kernel) ?_
    refine A_iret dX10_spout_11 rfl rfl ?_
    exact hu g1
theorem m_turn (s v : Int32) {n : Nat} {μ : MI} {ν : ML} {P : Po} (hn : μ 75 5 = nI n) (hn4 : n ≤ 4) (hu : ¬ inR s n → P (some (.int (-1001))) μ ν) (ho : inR s n → ¬ okV v → P (some (.int (-1002))) μ ν) (ha : ∀ k, s = nI k → k < n → okV v → P (some (.int (μ 81 k))) (up2 μ 81 k v) ν) : Ct mX10_turn 2 [.ref 75, .int s, .int v] μ ν P := by
  refine Ct.of (ls0 := [_, _, _, _]) (by decide) rfl (Nat.le_of_ble_eq_true rfl) rfl ?_
  refine A_aload_n dX10_turn_0 rfl ?_
  refine A_iload_n dX10_turn_1 rfl ?_
  refine A_callV1 dX10_turn_2 mlX10_112 (by decide) rfl rfl (Nat.le_of_ble_eq_true rfl) (m_noSpout _ hn hn4 (fun g1 => ?_) (fun g1 => ?_))
  · refine Kn.s ?_
    refine A_if_eq (tgt := 12) dX10_turn_5 (by decide) (fun _ => ?_) (fun h => absurd h (by decide +kernel))
    refine A_iload_n dX10_turn_12 rfl ?_
    refine A_i2l dX10_turn_13 ?_
    refine A_lconst (v := 0) dX10_turn_14 rfl ?_
    refine A_ldc2 dX10_turn_15 kcX10_104 ?_
    refine A_callS3 dX10_turn_18 mlX10_95 (by decide) (Nat.le_of_ble_eq_true rfl) (m_in v (nI 0) (nI 20) rfl (by decide +kernel) (by decide +kernel) (fun g2 g3 => ?_) (fun g4 => ?_))
    · refine Kn.s ?_
      refine A_if_ne (tgt := 28) dX10_turn_21 (by decide) (fun _ => ?_) (fun h => absurd h (by decide +kernel))
      obtain ⟨k, rfl, hk⟩ := id g1
      refine A_aload_n dX10_turn_28 rfl ?_
      refine A_getR dX10_turn_29 flX10_25 rfl rfl ?_
      refine A_iload_n dX10_turn_32 rfl ?_
      refine A_ialdN (j := k) dX10_turn_33 rfl rfl (by omega) (by decide) ?_
      refine A_istore_n (ls1 := [_, _, _, _]) dX10_turn_34 (by decide) rfl rfl ?_
      refine A_aload_n dX10_turn_35 rfl ?_
      refine A_getR dX10_turn_36 flX10_25 rfl rfl ?_
      refine A_iload_n dX10_turn_39 rfl ?_
      refine A_iload_n dX10_turn_40 rfl ?_
      refine A_iastN (j := k) dX10_turn_41 rfl rfl (by omega) (by decide) ?_
      refine A_iload_n dX10_turn_42 rfl ?_
      refine A_iret dX10_turn_43 rfl rfl ?_
      exact ha k rfl hk ⟨g2, g3⟩
    · refine Kn.s ?_
      refine A_if_ne (tgt := 28) dX10_turn_21 (by decide) (fun h => absurd h (by decide +kernel)) (fun _ => ?_)
      refine A_sipush (v := (-1002)) dX10_turn_24 (by decide +kernel) ?_
      refine A_iret dX10_turn_27 rfl rfl ?_
      exact ho g1 g4
  · refine Kn.s ?_
    refine A_if_eq (tgt := 12) dX10_turn_5 (by decide) (fun h => absurd h (by decide +kernel)) (fun _ => ?_)
    refine A_sipush (v := (-1001)) dX10_turn_8 (by decide +kernel) ?_
    refine A_iret dX10_turn_11 rfl rfl ?_
    exact hu g1
theorem m_frog (s f t : Int32) {n q : Nat} {μ : MI} {ν : ML} {P : Po} (hn : μ 75 5 = nI n) (hn4 : n ≤ 4) (hq : μ 75 10 = nI q) (hq8 : q ≤ 10) (hu : ¬ inR s n → P (some (.int (-1001))) μ ν) (ho : inR s n → ¬ okF f t → P (some (.int (-1002))) μ ν) (hf : inR s n → okF f t → q = 10 → P (some (.int (-1004))) μ ν) (ha : inR s n → okF f t → q < 10 → P (some (.int (nI (q + 1)))) (up2 (up2 (up2 (up2 μ 84 q s) 85 q f) 86 q t) 75 10 (nI (q + 1))) ν) : Ct mX10_frog 2 [.ref 75, .int s, .int f, .int t] μ ν P := by
  refine Ct.of (ls0 := [_, _, _, _]) (by decide) rfl (Nat.le_of_ble_eq_true rfl) rfl ?_
  refine A_aload_n dX10_frog_0 rfl ?_
  refine A_iload_n dX10_frog_1 rfl ?_
  refine A_callV1 dX10_frog_2 mlX10_112 (by decide) rfl rfl (Nat.le_of_ble_eq_true rfl) (m_noSpout _ hn hn4 (fun g1 => ?_) (fun g1 => ?_))
  · refine Kn.s ?_
    refine A_if_eq (tgt := 12) dX10_frog_5 (by decide) (fun _ => ?_) (fun h => absurd h (by decide +kernel))
    refine A_iload_n dX10_frog_12 rfl ?_
    refine A_i2l dX10_frog_13 ?_
    refine A_lconst (v := 0) dX10_frog_14 rfl ?_
    refine A_ldc2 dX10_frog_15 kcX10_115 ?_
    refine A_callS3 dX10_frog_18 mlX10_95 (by decide) (Nat.le_of_ble_eq_true rfl) (m_in f (nI 0) (nI 2000) rfl (by decide +kernel) (by decide +kernel) (fun g2 g3 => ?_) (fun g4 => ?_))
    · refine Kn.s ?_
      refine A_if_eq (tgt := 37) dX10_frog_21 (by decide) (fun h => absurd h (by decide +kernel)) (fun _ => ?_)
      refine A_iload_n dX10_frog_24 rfl ?_
      refine A_i2l dX10_frog_25 ?_
      refine A_iload_n dX10_frog_26 rfl ?_
      refine A_i2l dX10_frog_27 ?_
      refine A_ldc2 dX10_frog_28 kcX10_115 ?_
      refine A_callS3 dX10_frog_31 mlX10_95 (by decide) (Nat.le_of_ble_eq_true rfl) (m_in t f (nI 2000) rfl rfl (by decide +kernel) (fun g5 g6 => ?_) (fun g7 => ?_))
      · refine Kn.s ?_
        refine A_if_ne (tgt := 41) dX10_frog_34 (by decide) (fun _ => ?_) (fun h => absurd h (by decide +kernel))
        refine A_aload_n dX10_frog_41 rfl ?_
        refine A_getI dX10_frog_42 flX10_117 rfl rfl ?_
        rw [hq]
        refine A_bipush (v := nI 10) dX10_frog_45 (by decide +kernel) ?_
        refine A_icmp_neN (tgt := 54) dX10_frog_47 (by decide) (by omega) (by omega) (fun b47 => ?_) (fun b47 => ?_)
        · refine A_aload_n dX10_frog_54 rfl ?_
          refine A_getR dX10_frog_55 flX10_34 rfl rfl ?_
          refine A_aload_n dX10_frog_58 rfl ?_
          refine A_getI dX10_frog_59 flX10_117 rfl rfl ?_
          simp (disch := omega) only [up2_a, hq]
          refine A_iload_n dX10_frog_62 rfl ?_
          refine A_iastN (j := q) dX10_frog_63 rfl rfl (by omega) (by decide) ?_
          refine A_aload_n dX10_frog_64 rfl ?_
          refine A_getR dX10_frog_65 flX10_37 rfl rfl ?_
          refine A_aload_n dX10_frog_68 rfl ?_
          refine A_getI dX10_frog_69 flX10_117 rfl rfl ?_
          simp (disch := omega) only [up2_a, hq]
          refine A_iload_n dX10_frog_72 rfl ?_
          refine A_iastN (j := q) dX10_frog_73 rfl rfl (by omega) (by decide) ?_
          refine A_aload_n dX10_frog_74 rfl ?_
          refine A_getR dX10_frog_75 flX10_40 rfl rfl ?_
          refine A_aload_n dX10_frog_78 rfl ?_
          refine A_getI dX10_frog_79 flX10_117 rfl rfl ?_
          simp (disch := omega) only [up2_a, hq]
          refine A_iload_n dX10_frog_82 rfl ?_
          refine A_iastN (j := q) dX10_frog_83 rfl rfl (by omega) (by decide) ?_
          refine A_aload_n dX10_frog_84 rfl ?_
          refine A_dup dX10_frog_85 rfl ?_
          refine A_getI dX10_frog_86 flX10_117 rfl rfl ?_
          simp (disch := omega) only [up2_a, hq]
          refine A_iconst (v := nI 1) dX10_frog_89 (by decide +kernel) ?_
          refine A_iaddN dX10_frog_90 ?_
          refine A_put dX10_frog_91 fpX10_117 rfl rfl rfl rfl ?_
          refine A_aload_n dX10_frog_94 rfl ?_
          refine A_getI dX10_frog_95 flX10_117 rfl rfl ?_
          rw [up2_s]
          refine A_iret dX10_frog_98 rfl rfl ?_
          exact ha g1 ⟨⟨g2, g3⟩, g5, g6⟩ (by omega)
        · refine A_sipush (v := (-1004)) dX10_frog_50 (by decide +kernel) ?_
          refine A_iret dX10_frog_53 rfl rfl ?_
          exact hf g1 ⟨⟨g2, g3⟩, g5, g6⟩ b47
      · refine Kn.s ?_
        refine A_if_ne (tgt := 41) dX10_frog_34 (by decide) (fun h => absurd h (by decide +kernel)) (fun _ => ?_)
        refine A_sipush (v := (-1002)) dX10_frog_37 (by decide +kernel) ?_
        refine A_iret dX10_frog_40 rfl rfl ?_
        exact ho g1 (fun z => g7 z.2)
    · refine Kn.s ?_
      refine A_if_eq (tgt := 37) dX10_frog_21 (by decide) (fun _ => ?_) (fun h => absurd h (by decide +kernel))
      refine A_sipush (v := (-1002)) dX10_frog_37 (by decide +kernel) ?_
      refine A_iret dX10_frog_40 rfl rfl ?_
      exact ho g1 (fun z => g4 z.1)
  · refine Kn.s ?_
    refine A_if_eq (tgt := 12) dX10_frog_5 (by decide) (fun h => absurd h (by decide +kernel)) (fun _ => ?_)
    refine A_sipush (v := (-1001)) dX10_frog_8 (by decide +kernel) ?_
    refine A_iret dX10_frog_11 rfl rfl ?_
    exact hu g1
theorem m_weather (f w : Int32) {q : Nat} {μ : MI} {ν : ML} {P : Po} (hq : μ 75 14 = nI q) (hq8 : q ≤ 10) (ho : ¬ okW f w → P (some (.int (-1002))) μ ν) (hf : okW f w → q = 10 → P (some (.int (-1004))) μ ν) (ha : okW f w → q < 10 → P (some (.int (nI (q + 1)))) (up2 (up2 (up2 μ 87 q f) 88 q w) 75 14 (nI (q + 1))) ν) : Ct mX10_weather 1 [.ref 75, .int f, .int w] μ ν P := by
  refine Ct.of (ls0 := [_, _, _]) (by decide) rfl (Nat.le_of_ble_eq_true rfl) rfl ?_
  refine A_iload_n dX10_weather_0 rfl ?_
  refine A_i2l dX10_weather_1 ?_
  refine A_lconst (v := 0) dX10_weather_2 rfl ?_
  refine A_ldc2 dX10_weather_3 kcX10_115 ?_
  refine A_callS3 dX10_weather_6 mlX10_95 (by decide) (Nat.le_of_ble_eq_true rfl) (m_in f (nI 0) (nI 2000) rfl (by decide +kernel) (by decide +kernel) (fun g2 g3 => ?_) (fun g4 => ?_))
  · refine Kn.s ?_
    refine A_if_eq (tgt := 26) dX10_weather_9 (by decide) (fun h => absurd h (by decide +kernel)) (fun _ => ?_)
    refine A_iload_n dX10_weather_12 rfl ?_
    refine A_i2l dX10_weather_13 ?_
    refine A_ldc2 dX10_weather_14 kcX10_120 ?_
    refine A_ldc2 dX10_weather_17 kcX10_104 ?_
    refine A_callS3 dX10_weather_20 mlX10_95 (by decide) (Nat.le_of_ble_eq_true rfl) (m_in w (-20) (nI 20) rfl (by decide +kernel) (by decide +kernel) (fun g5 g6 => ?_) (fun g7 => ?_))
    · refine Kn.s ?_
      refine A_if_ne (tgt := 30) dX10_weather_23 (by decide) (fun _ => ?_) (fun h => absurd h (by decide +kernel))
      refine A_aload_n dX10_weather_30 rfl ?_
      refine A_getI dX10_weather_31 flX10_122 rfl rfl ?_
      rw [hq]
      refine A_bipush (v := nI 10) dX10_weather_34 (by decide +kernel) ?_
      refine A_icmp_neN (tgt := 43) dX10_weather_36 (by decide) (by omega) (by omega) (fun b36 => ?_) (fun b36 => ?_)
      · refine A_aload_n dX10_weather_43 rfl ?_
        refine A_getR dX10_weather_44 flX10_43 rfl rfl ?_
        refine A_aload_n dX10_weather_47 rfl ?_
        refine A_getI dX10_weather_48 flX10_122 rfl rfl ?_
        simp (disch := omega) only [up2_a, hq]
        refine A_iload_n dX10_weather_51 rfl ?_
        refine A_iastN (j := q) dX10_weather_52 rfl rfl (by omega) (by decide) ?_
        refine A_aload_n dX10_weather_53 rfl ?_
        refine A_getR dX10_weather_54 flX10_46 rfl rfl ?_
        refine A_aload_n dX10_weather_57 rfl ?_
        refine A_getI dX10_weather_58 flX10_122 rfl rfl ?_
        simp (disch := omega) only [up2_a, hq]
        refine A_iload_n dX10_weather_61 rfl ?_
        refine A_iastN (j := q) dX10_weather_62 rfl rfl (by omega) (by decide) ?_
        refine A_aload_n dX10_weather_63 rfl ?_
        refine A_dup dX10_weather_64 rfl ?_
        refine A_getI dX10_weather_65 flX10_122 rfl rfl ?_
        simp (disch := omega) only [up2_a, hq]
        refine A_iconst (v := nI 1) dX10_weather_68 (by decide +kernel) ?_
        refine A_iaddN dX10_weather_69 ?_
        refine A_put dX10_weather_70 fpX10_122 rfl rfl rfl rfl ?_
        refine A_aload_n dX10_weather_73 rfl ?_
        refine A_getI dX10_weather_74 flX10_122 rfl rfl ?_
        rw [up2_s]
        refine A_iret dX10_weather_77 rfl rfl ?_
        exact ha ⟨⟨g2, g3⟩, g5, g6⟩ (by omega)
      · refine A_sipush (v := (-1004)) dX10_weather_39 (by decide +kernel) ?_
        refine A_iret dX10_weather_42 rfl rfl ?_
        exact hf ⟨⟨g2, g3⟩, g5, g6⟩ b36
    · refine Kn.s ?_
      refine A_if_ne (tgt := 30) dX10_weather_23 (by decide) (fun h => absurd h (by decide +kernel)) (fun _ => ?_)
      refine A_sipush (v := (-1002)) dX10_weather_26 (by decide +kernel) ?_
      refine A_iret dX10_weather_29 rfl rfl ?_
      exact ho (fun z => g7 z.2)
  · refine Kn.s ?_
    refine A_if_eq (tgt := 26) dX10_weather_9 (by decide) (fun _ => ?_) (fun h => absurd h (by decide +kernel))
    refine A_sipush (v := (-1002)) dX10_weather_26 (by decide +kernel) ?_
    refine A_iret dX10_weather_29 rfl rfl ?_
    exact ho (fun z => g4 z.1)
theorem m_dry (v : Int32) {μ : MI} {ν : ML} {P : Po} (ho : ¬ okR v → P (some (.int (-1002))) μ ν) (ha : okR v → P (some (.int (μ 75 17))) (up2 μ 75 17 v) ν) : Ct mX10_dry 1 [.ref 75, .int v] μ ν P := by
  refine Ct.of (ls0 := [_, _, _]) (by decide) rfl (Nat.le_of_ble_eq_true rfl) rfl ?_
  refine A_iload_n dX10_dry_0 rfl ?_
  refine A_i2l dX10_dry_1 ?_
  refine A_lconst (v := 0) dX10_dry_2 rfl ?_
  refine A_ldc2 dX10_dry_3 kcX10_125 ?_
  refine A_callS3 dX10_dry_6 mlX10_95 (by decide) (Nat.le_of_ble_eq_true rfl) (m_in v (nI 0) (nI 50) rfl (by decide +kernel) (by decide +kernel) (fun g2 g3 => ?_) (fun g4 => ?_))
  · refine Kn.s ?_
    refine A_if_ne (tgt := 16) dX10_dry_9 (by decide) (fun _ => ?_) (fun h => absurd h (by decide +kernel))
    refine A_aload_n dX10_dry_16 rfl ?_
    refine A_getI dX10_dry_17 flX10_127 rfl rfl ?_
    refine A_istore_n (ls1 := [_, _, _]) dX10_dry_20 (by decide) rfl rfl ?_
    refine A_aload_n dX10_dry_21 rfl ?_
    refine A_iload_n dX10_dry_22 rfl ?_
    refine A_put dX10_dry_23 fpX10_127 rfl rfl rfl rfl ?_
    refine A_iload_n dX10_dry_26 rfl ?_
    refine A_iret dX10_dry_27 rfl rfl ?_
    exact ha ⟨g2, g3⟩
  · refine Kn.s ?_
    refine A_if_ne (tgt := 16) dX10_dry_9 (by decide) (fun h => absurd h (by decide +kernel)) (fun _ => ?_)
    refine A_sipush (v := (-1002)) dX10_dry_12 (by decide +kernel) ?_
    refine A_iret dX10_dry_15 rfl rfl ?_
    exact ho g4
/-- whether a fault is set (in runs) -/
def fauB (μ : MI) (f : Nat) : Bool := decide (μ 75 28 = nI f) || decide (μ 75 29 = nI f)
theorem m_isFault (f : Nat) {μ : MI} {ν : ML} {P : Po} (h1 : fauB μ f = true → P (some (.int (nI 1))) μ ν) (h0 : fauB μ f = false → P (some (.int (nI 0))) μ ν) : Ct mX10_isFault 0 [.ref 75, .int (nI f)] μ ν P := by
  refine Ct.of (ls0 := [_, _]) (by decide) rfl (Nat.le_of_ble_eq_true rfl) rfl ?_
  refine A_aload_n dX10_isFault_0 rfl ?_
  refine A_getI dX10_isFault_1 flX10_64 rfl rfl ?_
  refine A_iload_n dX10_isFault_4 rfl ?_
  refine A_icmp_eq (tgt := 16) dX10_isFault_5 (by decide) (fun b5 => ?_) (fun b5 => ?_)
  · refine A_iconst (v := nI 1) dX10_isFault_16 (by decide +kernel) ?_
    refine A_goto (tgt := 21) dX10_isFault_17 (by decide) ?_
    refine A_iret dX10_isFault_21 rfl (by decide +kernel) ?_
    exact h1 (by unfold fauB; rw [decide_eq_true b5]; rfl)
  · refine A_aload_n dX10_isFault_8 rfl ?_
    refine A_getI dX10_isFault_9 flX10_68 rfl rfl ?_
    refine A_iload_n dX10_isFault_12 rfl ?_
    refine A_icmp_ne (tgt := 20) dX10_isFault_13 (by decide) (fun b13 => ?_) (fun b13 => ?_)
    · refine A_iconst (v := nI 0) dX10_isFault_20 (by decide +kernel) ?_
      refine A_iret dX10_isFault_21 rfl (by decide +kernel) ?_
      exact h0 (by unfold fauB; rw [decide_eq_false b5, decide_eq_false b13]; rfl)
    · refine A_iconst (v := nI 1) dX10_isFault_16 (by decide +kernel) ?_
      refine A_goto (tgt := 21) dX10_isFault_17 (by decide) ?_
      refine A_iret dX10_isFault_21 rfl (by decide +kernel) ?_
      exact h1 (by unfold fauB; rw [decide_eq_true b13, Bool.or_true])
