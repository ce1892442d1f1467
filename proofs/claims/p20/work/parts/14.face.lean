/-! the class's face: what is told, counted, ticked, run -/
theorem sw_of (x : Int32) {n : Nat} (hn : n < 2 ^ 31) : (∃ k : Nat, k < n ∧ x = nI k) ∨ (x.toInt < 0 ∨ ((n : Int) - 1) < x.toInt) := by
  by_cases h0 : x < 0
  · exact Or.inr (Or.inl (by rw [Int32.lt_iff_toInt_lt] at h0; exact h0))
  · obtain ⟨j, hj, rfl⟩ := nI_of h0
    by_cases h : j < n
    · exact Or.inl ⟨j, h, rfl⟩
    · exact Or.inr (Or.inr (by rw [nI_toInt hj]; omega))
abbrev okB (s r : Int32) : Prop := (nI 1 ≤ s ∧ s ≤ nI 100) ∧ (nI 0 ≤ r ∧ r ≤ nI 20)
theorem c_bucket (x y : Int32) {m : Nat} {μ : MI} {ν : ML} {P : Po} (hm : μ 2 0 = nI m) (hm8 : m ≤ 8) (hx : ¬ okB x y → P (some (.int (-1002))) μ ν) (hf : okB x y → m = 8 → P (some (.int (-1004))) μ ν) (ha : okB x y → m < 8 → P (some (.int (nI m))) (up2 (up2 (up2 (up2 μ 3 m x) 4 m y) 5 m (-1)) 2 0 (nI (m + 1))) ν) : Ct mX9_bucket 1 [.ref 0, .int x, .int y] μ ν P := by
  refine Ct.of (ls0 := [_, _, _]) (by decide) rfl (Nat.le_of_ble_eq_true rfl) rfl ?_
  refine A_iload_n dX9_bucket_0 rfl ?_
  refine A_iconst (v := nI 1) dX9_bucket_1 (by decide +kernel) ?_
  refine A_bipush (v := nI 100) dX9_bucket_2 (by decide +kernel) ?_
  refine A_callS3 dX9_bucket_4 mlX9_52 (by decide) (Nat.le_of_ble_eq_true rfl) (c_within _ _ _ (fun g1 g2 => ?_) (fun g3 => ?_))
  · refine Kn.s ?_
    refine A_if_eq (tgt := 20) dX9_bucket_7 (by decide) (fun h => absurd h (by decide +kernel)) (fun _ => ?_)
    refine A_iload_n dX9_bucket_10 rfl ?_
    refine A_iconst (v := nI 0) dX9_bucket_11 (by decide +kernel) ?_
    refine A_bipush (v := nI 20) dX9_bucket_12 (by decide +kernel) ?_
    refine A_callS3 dX9_bucket_14 mlX9_52 (by decide) (Nat.le_of_ble_eq_true rfl) (c_within _ _ _ (fun g4 g5 => ?_) (fun g6 => ?_))
    · refine Kn.s ?_
      refine A_if_ne (tgt := 24) dX9_bucket_17 (by decide) (fun _ => ?_) (fun h => absurd h (by decide +kernel))
      refine A_aload_n dX9_bucket_24 rfl ?_
      refine A_getR dX9_bucket_25 flX9_12 rfl rfl ?_
      refine A_getR dX9_bucket_28 flX9_56 rfl rfl ?_
      refine A_iload_n dX9_bucket_31 rfl ?_
      refine A_iload_n dX9_bucket_32 rfl ?_
      refine A_callV2 dX9_bucket_33 mlX9_60 (by decide) rfl rfl (Nat.le_of_ble_eq_true rfl) (c_bucketsAdd _ _ hm hm8 (fun q => ?_) (fun q => ?_))
      · refine Kn.s ?_
        refine A_iret dX9_bucket_36 rfl rfl ?_
        exact hf ⟨⟨g1, g2⟩, g4, g5⟩ q
      · refine Kn.s ?_
        refine A_iret dX9_bucket_36 rfl rfl ?_
        exact ha ⟨⟨g1, g2⟩, g4, g5⟩ q
    · refine Kn.s ?_
      refine A_if_ne (tgt := 24) dX9_bucket_17 (by decide) (fun h => absurd h (by decide +kernel)) (fun _ => ?_)
      refine A_sipush (v := (-1002)) dX9_bucket_20 (by decide +kernel) ?_
      refine A_iret dX9_bucket_23 rfl rfl ?_
      exact hx (fun q => g6 q.2)
  · refine Kn.s ?_
    refine A_if_eq (tgt := 20) dX9_bucket_7 (by decide) (fun _ => ?_) (fun h => absurd h (by decide +kernel))
    refine A_sipush (v := (-1002)) dX9_bucket_20 (by decide +kernel) ?_
    refine A_iret dX9_bucket_23 rfl rfl ?_
    exact hx (fun q => g3 q.1)
abbrev okD (d : Int32) : Prop := nI 1 ≤ d ∧ d ≤ nI 20
theorem c_pipe (b to dl : Int32) {m : Nat} {μ : MI} {ν : ML} {P : Po} (hm : μ 2 0 = nI m) (hm8 : m ≤ 8) (hu : (¬ inR b m ∨ (¬ to = -1 ∧ ¬ inR to m)) → P (some (.int (-1001))) μ ν) (ho : ¬ okD dl → inR b m → (to = -1 ∨ inR to m) → P (some (.int (-1002))) μ ν) (ha : ∀ k, okD dl → b = nI k → k < m → (to = -1 ∨ inR to m) → P (some (.int (nI 1))) (up2 (up2 μ 5 k to) 6 k dl) ν) : Ct mX9_pipe 1 [.ref 0, .int b, .int to, .int dl] μ ν P := by
  refine Ct.of (ls0 := [_, _, _, _]) (by decide) rfl (Nat.le_of_ble_eq_true rfl) rfl ?_
  refine A_aload_n dX9_pipe_0 rfl ?_
  refine A_getR dX9_pipe_1 flX9_12 rfl rfl ?_
  refine A_getR dX9_pipe_4 flX9_56 rfl rfl ?_
  refine A_iload_n dX9_pipe_7 rfl ?_
  refine A_callV1 dX9_pipe_8 mlX9_66 (by decide) rfl rfl (Nat.le_of_ble_eq_true rfl) (c_has _ hm hm8 (fun g1 => ?_) (fun g1 => ?_))
  · refine Kn.s ?_
    refine A_if_eq (tgt := 33) dX9_pipe_11 (by decide) (fun h => absurd h (by decide +kernel)) (fun _ => ?_)
    refine A_iload_n dX9_pipe_14 rfl ?_
    refine A_iconst (v := (-1)) dX9_pipe_15 (by decide +kernel) ?_
    refine A_icmp_eq (tgt := 37) dX9_pipe_16 (by decide) (fun b16 => ?_) (fun b16 => ?_)
    · refine A_iload_n dX9_pipe_37 rfl ?_
      refine A_iconst (v := nI 1) dX9_pipe_38 (by decide +kernel) ?_
      refine A_bipush (v := nI 20) dX9_pipe_39 (by decide +kernel) ?_
      refine A_callS3 dX9_pipe_41 mlX9_52 (by decide) (Nat.le_of_ble_eq_true rfl) (c_within _ _ _ (fun g3 g4 => ?_) (fun g5 => ?_))
      · refine Kn.s ?_
        refine A_if_ne (tgt := 51) dX9_pipe_44 (by decide) (fun _ => ?_) (fun h => absurd h (by decide +kernel))
        obtain ⟨k, rfl, hk⟩ := g1
        refine A_aload_n dX9_pipe_51 rfl ?_
        refine A_getR dX9_pipe_52 flX9_12 rfl rfl ?_
        refine A_getR dX9_pipe_55 flX9_56 rfl rfl ?_
        refine A_iload_n dX9_pipe_58 rfl ?_
        refine A_iload_n dX9_pipe_59 rfl ?_
        refine A_iload_n dX9_pipe_60 rfl ?_
        refine A_callV3 dX9_pipe_61 mlX9_70 (by decide) rfl rfl (Nat.le_of_ble_eq_true rfl) (c_lead (by omega) _ _ ?_)
        refine Kn.v ?_
        refine A_iconst (v := nI 1) dX9_pipe_64 (by decide +kernel) ?_
        refine A_iret dX9_pipe_65 rfl rfl ?_
        exact ha k ⟨g3, g4⟩ rfl hk (Or.inl b16)
      · refine Kn.s ?_
        refine A_if_ne (tgt := 51) dX9_pipe_44 (by decide) (fun h => absurd h (by decide +kernel)) (fun _ => ?_)
        refine A_sipush (v := (-1002)) dX9_pipe_47 (by decide +kernel) ?_
        refine A_iret dX9_pipe_50 rfl rfl ?_
        exact ho g5 g1 (Or.inl b16)
    · refine A_aload_n dX9_pipe_19 rfl ?_
      refine A_getR dX9_pipe_20 flX9_12 rfl rfl ?_
      refine A_getR dX9_pipe_23 flX9_56 rfl rfl ?_
      refine A_iload_n dX9_pipe_26 rfl ?_
      refine A_callV1 dX9_pipe_27 mlX9_66 (by decide) rfl rfl (Nat.le_of_ble_eq_true rfl) (c_has _ hm hm8 (fun g2 => ?_) (fun g2 => ?_))
      · refine Kn.s ?_
        refine A_if_ne (tgt := 37) dX9_pipe_30 (by decide) (fun _ => ?_) (fun h => absurd h (by decide +kernel))
        refine A_iload_n dX9_pipe_37 rfl ?_
        refine A_iconst (v := nI 1) dX9_pipe_38 (by decide +kernel) ?_
        refine A_bipush (v := nI 20) dX9_pipe_39 (by decide +kernel) ?_
        refine A_callS3 dX9_pipe_41 mlX9_52 (by decide) (Nat.le_of_ble_eq_true rfl) (c_within _ _ _ (fun g3 g4 => ?_) (fun g5 => ?_))
        · refine Kn.s ?_
          refine A_if_ne (tgt := 51) dX9_pipe_44 (by decide) (fun _ => ?_) (fun h => absurd h (by decide +kernel))
          obtain ⟨k, rfl, hk⟩ := g1
          refine A_aload_n dX9_pipe_51 rfl ?_
          refine A_getR dX9_pipe_52 flX9_12 rfl rfl ?_
          refine A_getR dX9_pipe_55 flX9_56 rfl rfl ?_
          refine A_iload_n dX9_pipe_58 rfl ?_
          refine A_iload_n dX9_pipe_59 rfl ?_
          refine A_iload_n dX9_pipe_60 rfl ?_
          refine A_callV3 dX9_pipe_61 mlX9_70 (by decide) rfl rfl (Nat.le_of_ble_eq_true rfl) (c_lead (by omega) _ _ ?_)
          refine Kn.v ?_
          refine A_iconst (v := nI 1) dX9_pipe_64 (by decide +kernel) ?_
          refine A_iret dX9_pipe_65 rfl rfl ?_
          exact ha k ⟨g3, g4⟩ rfl hk (Or.inr g2)
        · refine Kn.s ?_
          refine A_if_ne (tgt := 51) dX9_pipe_44 (by decide) (fun h => absurd h (by decide +kernel)) (fun _ => ?_)
          refine A_sipush (v := (-1002)) dX9_pipe_47 (by decide +kernel) ?_
          refine A_iret dX9_pipe_50 rfl rfl ?_
          exact ho g5 g1 (Or.inr g2)
      · refine Kn.s ?_
        refine A_if_ne (tgt := 37) dX9_pipe_30 (by decide) (fun h => absurd h (by decide +kernel)) (fun _ => ?_)
        refine A_sipush (v := (-1001)) dX9_pipe_33 (by decide +kernel) ?_
        refine A_iret dX9_pipe_36 rfl rfl ?_
        exact hu (Or.inr ⟨b16, g2⟩)
  · refine Kn.s ?_
    refine A_if_eq (tgt := 33) dX9_pipe_11 (by decide) (fun _ => ?_) (fun h => absurd h (by decide +kernel))
    refine A_sipush (v := (-1001)) dX9_pipe_33 (by decide +kernel) ?_
    refine A_iret dX9_pipe_36 rfl rfl ?_
    exact hu (Or.inl g1)
abbrev okS4 (v e f : Int32) : Prop := (nI 0 ≤ v ∧ v ≤ nI 20) ∧ (nI 1 ≤ e ∧ e ≤ nI 30) ∧ (nI 0 ≤ f ∧ f ≤ nI 30)
theorem c_spout (to v e f : Int32) {m n : Nat} {μ : MI} {ν : ML} {P : Po} (hm : μ 2 0 = nI m) (hm8 : m ≤ 8) (hn : μ 7 0 = nI n) (hn4 : n ≤ 4) (hu : ¬ inR to m → P (some (.int (-1001))) μ ν) (ho : inR to m → ¬ okS4 v e f → P (some (.int (-1002))) μ ν) (hf : inR to m → okS4 v e f → n = 4 → P (some (.int (-1004))) μ ν) (ha : inR to m → okS4 v e f → n < 4 → P (some (.int (nI n))) (up2 (up2 (up2 (up2 (up2 μ 8 n to) 9 n v) 10 n e) 11 n f) 7 0 (nI (n + 1))) ν) : Ct mX9_spout 1 [.ref 0, .int to, .int v, .int e, .int f] μ ν P := by
  refine Ct.of (ls0 := [_, _, _, _, _]) (by decide) rfl (Nat.le_of_ble_eq_true rfl) rfl ?_
  refine A_aload_n dX9_spout_0 rfl ?_
  refine A_getR dX9_spout_1 flX9_12 rfl rfl ?_
  refine A_getR dX9_spout_4 flX9_56 rfl rfl ?_
  refine A_iload_n dX9_spout_7 rfl ?_
  refine A_callV1 dX9_spout_8 mlX9_66 (by decide) rfl rfl (Nat.le_of_ble_eq_true rfl) (c_has _ hm hm8 (fun g1 => ?_) (fun g1 => ?_))
  · refine Kn.s ?_
    refine A_if_ne (tgt := 18) dX9_spout_11 (by decide) (fun _ => ?_) (fun h => absurd h (by decide +kernel))
    refine A_iload_n dX9_spout_18 rfl ?_
    refine A_iconst (v := nI 0) dX9_spout_19 (by decide +kernel) ?_
    refine A_bipush (v := nI 20) dX9_spout_20 (by decide +kernel) ?_
    refine A_callS3 dX9_spout_22 mlX9_52 (by decide) (Nat.le_of_ble_eq_true rfl) (c_within _ _ _ (fun g2 g3 => ?_) (fun g4 => ?_))
    · refine Kn.s ?_
      refine A_if_eq (tgt := 49) dX9_spout_25 (by decide) (fun h => absurd h (by decide +kernel)) (fun _ => ?_)
      refine A_iload_n dX9_spout_28 rfl ?_
      refine A_iconst (v := nI 1) dX9_spout_29 (by decide +kernel) ?_
      refine A_bipush (v := nI 30) dX9_spout_30 (by decide +kernel) ?_
      refine A_callS3 dX9_spout_32 mlX9_52 (by decide) (Nat.le_of_ble_eq_true rfl) (c_within _ _ _ (fun g5 g6 => ?_) (fun g7 => ?_))
      · refine Kn.s ?_
        refine A_if_eq (tgt := 49) dX9_spout_35 (by decide) (fun h => absurd h (by decide +kernel)) (fun _ => ?_)
        refine A_iload dX9_spout_38 rfl ?_
        refine A_iconst (v := nI 0) dX9_spout_40 (by decide +kernel) ?_
        refine A_bipush (v := nI 30) dX9_spout_41 (by decide +kernel) ?_
        refine A_callS3 dX9_spout_43 mlX9_52 (by decide) (Nat.le_of_ble_eq_true rfl) (c_within _ _ _ (fun g8 g9 => ?_) (fun ga => ?_))
        · refine Kn.s ?_
          refine A_if_ne (tgt := 53) dX9_spout_46 (by decide) (fun _ => ?_) (fun h => absurd h (by decide +kernel))
          refine A_aload_n dX9_spout_53 rfl ?_
          refine A_getR dX9_spout_54 flX9_12 rfl rfl ?_
          refine A_getR dX9_spout_57 flX9_74 rfl rfl ?_
          refine A_iload_n dX9_spout_60 rfl ?_
          refine A_iload_n dX9_spout_61 rfl ?_
          refine A_iload_n dX9_spout_62 rfl ?_
          refine A_iload dX9_spout_63 rfl ?_
          refine A_callV4 dX9_spout_65 mlX9_78 (by decide) rfl rfl (Nat.le_of_ble_eq_true rfl) (c_spoutsAdd _ _ _ _ hn hn4 (fun q => ?_) (fun q => ?_))
          · refine Kn.s ?_
            refine A_iret dX9_spout_68 rfl rfl ?_
            exact hf g1 ⟨⟨g2, g3⟩, ⟨g5, g6⟩, g8, g9⟩ q
          · refine Kn.s ?_
            refine A_iret dX9_spout_68 rfl rfl ?_
            exact ha g1 ⟨⟨g2, g3⟩, ⟨g5, g6⟩, g8, g9⟩ q
        · refine Kn.s ?_
          refine A_if_ne (tgt := 53) dX9_spout_46 (by decide) (fun h => absurd h (by decide +kernel)) (fun _ => ?_)
          refine A_sipush (v := (-1002)) dX9_spout_49 (by decide +kernel) ?_
          refine A_iret dX9_spout_52 rfl rfl ?_
          exact ho g1 (fun q => ga q.2.2)
      · refine Kn.s ?_
        refine A_if_eq (tgt := 49) dX9_spout_35 (by decide) (fun _ => ?_) (fun h => absurd h (by decide +kernel))
        refine A_sipush (v := (-1002)) dX9_spout_49 (by decide +kernel) ?_
        refine A_iret dX9_spout_52 rfl rfl ?_
        exact ho g1 (fun q => g7 q.2.1)
    · refine Kn.s ?_
      refine A_if_eq (tgt := 49) dX9_spout_25 (by decide) (fun _ => ?_) (fun h => absurd h (by decide +kernel))
      refine A_sipush (v := (-1002)) dX9_spout_49 (by decide +kernel) ?_
      refine A_iret dX9_spout_52 rfl rfl ?_
      exact ho g1 (fun q => g4 q.1)
  · refine Kn.s ?_
    refine A_if_ne (tgt := 18) dX9_spout_11 (by decide) (fun h => absurd h (by decide +kernel)) (fun _ => ?_)
    refine A_sipush (v := (-1001)) dX9_spout_14 (by decide +kernel) ?_
    refine A_iret dX9_spout_17 rfl rfl ?_
    exact hu g1
abbrev okV (v : Int32) : Prop := nI 0 ≤ v ∧ v ≤ nI 20
theorem c_turn (s v : Int32) {n : Nat} {μ : MI} {ν : ML} {P : Po} (hn : μ 7 0 = nI n) (hn4 : n ≤ 4) (hu : ¬ inR s n → P (some (.int (-1001))) μ ν) (ho : inR s n → ¬ okV v → P (some (.int (-1002))) μ ν) (ha : ∀ k, s = nI k → k < n → okV v → P (some (.int (μ 9 k))) (up2 μ 9 k v) ν) : Ct mX9_turn 1 [.ref 0, .int s, .int v] μ ν P := by
  refine Ct.of (ls0 := [_, _, _, _]) (by decide) rfl (Nat.le_of_ble_eq_true rfl) rfl ?_
  refine A_aload_n dX9_turn_0 rfl ?_
  refine A_getR dX9_turn_1 flX9_12 rfl rfl ?_
  refine A_getR dX9_turn_4 flX9_74 rfl rfl ?_
  refine A_iload_n dX9_turn_7 rfl ?_
  refine A_callV1 dX9_turn_8 mlX9_83 (by decide) rfl rfl (Nat.le_of_ble_eq_true rfl) (c_hasS _ hn hn4 (fun g1 => ?_) (fun g1 => ?_))
  · refine Kn.s ?_
    refine A_if_ne (tgt := 18) dX9_turn_11 (by decide) (fun _ => ?_) (fun h => absurd h (by decide +kernel))
    refine A_iload_n dX9_turn_18 rfl ?_
    refine A_iconst (v := nI 0) dX9_turn_19 (by decide +kernel) ?_
    refine A_bipush (v := nI 20) dX9_turn_20 (by decide +kernel) ?_
    refine A_callS3 dX9_turn_22 mlX9_52 (by decide) (Nat.le_of_ble_eq_true rfl) (c_within _ _ _ (fun g2 g3 => ?_) (fun g4 => ?_))
    · refine Kn.s ?_
      refine A_if_ne (tgt := 32) dX9_turn_25 (by decide) (fun _ => ?_) (fun h => absurd h (by decide +kernel))
      obtain ⟨k, rfl, hk⟩ := g1
      refine A_aload_n dX9_turn_32 rfl ?_
      refine A_getR dX9_turn_33 flX9_12 rfl rfl ?_
      refine A_getR dX9_turn_36 flX9_74 rfl rfl ?_
      refine A_getR dX9_turn_39 flX9_84 rfl rfl ?_
      refine A_iload_n dX9_turn_42 rfl ?_
      refine A_ialdN (j := k) dX9_turn_43 rfl rfl (by omega) (by decide) ?_
      refine A_istore_n (ls1 := [_, _, _, _]) dX9_turn_44 (by decide) rfl rfl ?_
      refine A_aload_n dX9_turn_45 rfl ?_
      refine A_getR dX9_turn_46 flX9_12 rfl rfl ?_
      refine A_getR dX9_turn_49 flX9_74 rfl rfl ?_
      refine A_getR dX9_turn_52 flX9_84 rfl rfl ?_
      refine A_iload_n dX9_turn_55 rfl ?_
      refine A_iload_n dX9_turn_56 rfl ?_
      refine A_iastN (j := k) dX9_turn_57 rfl rfl (by omega) (by decide) ?_
      refine A_iload_n dX9_turn_58 rfl ?_
      refine A_iret dX9_turn_59 rfl rfl ?_
      exact ha k rfl hk ⟨g2, g3⟩
    · refine Kn.s ?_
      refine A_if_ne (tgt := 32) dX9_turn_25 (by decide) (fun h => absurd h (by decide +kernel)) (fun _ => ?_)
      refine A_sipush (v := (-1002)) dX9_turn_28 (by decide +kernel) ?_
      refine A_iret dX9_turn_31 rfl rfl ?_
      exact ho g1 g4
  · refine Kn.s ?_
    refine A_if_ne (tgt := 18) dX9_turn_11 (by decide) (fun h => absurd h (by decide +kernel)) (fun _ => ?_)
    refine A_sipush (v := (-1001)) dX9_turn_14 (by decide +kernel) ?_
    refine A_iret dX9_turn_17 rfl rfl ?_
    exact hu g1
abbrev okF (f t : Int32) : Prop := (nI 0 ≤ f ∧ f ≤ nI 2000) ∧ (f ≤ t ∧ t ≤ nI 2000)
theorem c_frog (s f t : Int32) {n q : Nat} {μ : MI} {ν : ML} {P : Po} (hn : μ 7 0 = nI n) (hn4 : n ≤ 4) (hq : μ 12 0 = nI q) (hq8 : q ≤ 10) (hu : ¬ inR s n → P (some (.int (-1001))) μ ν) (ho : inR s n → ¬ okF f t → P (some (.int (-1002))) μ ν) (hf : inR s n → okF f t → q = 10 → P (some (.int (-1004))) μ ν) (ha : inR s n → okF f t → q < 10 → P (some (.int (nI (q + 1)))) (up2 (up2 (up2 (up2 μ 13 q s) 14 q f) 15 q t) 12 0 (nI (q + 1))) ν) : Ct mX9_frog 1 [.ref 0, .int s, .int f, .int t] μ ν P := by
  refine Ct.of (ls0 := [_, _, _, _]) (by decide) rfl (Nat.le_of_ble_eq_true rfl) rfl ?_
  refine A_aload_n dX9_frog_0 rfl ?_
  refine A_getR dX9_frog_1 flX9_12 rfl rfl ?_
  refine A_getR dX9_frog_4 flX9_74 rfl rfl ?_
  refine A_iload_n dX9_frog_7 rfl ?_
  refine A_callV1 dX9_frog_8 mlX9_83 (by decide) rfl rfl (Nat.le_of_ble_eq_true rfl) (c_hasS _ hn hn4 (fun g1 => ?_) (fun g1 => ?_))
  · refine Kn.s ?_
    refine A_if_ne (tgt := 18) dX9_frog_11 (by decide) (fun _ => ?_) (fun h => absurd h (by decide +kernel))
    refine A_iload_n dX9_frog_18 rfl ?_
    refine A_iconst (v := nI 0) dX9_frog_19 (by decide +kernel) ?_
    refine A_sipush (v := nI 2000) dX9_frog_20 (by decide +kernel) ?_
    refine A_callS3 dX9_frog_23 mlX9_52 (by decide) (Nat.le_of_ble_eq_true rfl) (c_within _ _ _ (fun g2 g3 => ?_) (fun g4 => ?_))
    · refine Kn.s ?_
      refine A_if_eq (tgt := 40) dX9_frog_26 (by decide) (fun h => absurd h (by decide +kernel)) (fun _ => ?_)
      refine A_iload_n dX9_frog_29 rfl ?_
      refine A_iload_n dX9_frog_30 rfl ?_
      refine A_sipush (v := nI 2000) dX9_frog_31 (by decide +kernel) ?_
      refine A_callS3 dX9_frog_34 mlX9_52 (by decide) (Nat.le_of_ble_eq_true rfl) (c_within _ _ _ (fun g5 g6 => ?_) (fun g7 => ?_))
      · refine Kn.s ?_
        refine A_if_ne (tgt := 44) dX9_frog_37 (by decide) (fun _ => ?_) (fun h => absurd h (by decide +kernel))
        refine A_aload_n dX9_frog_44 rfl ?_
        refine A_getR dX9_frog_45 flX9_12 rfl rfl ?_
        refine A_getR dX9_frog_48 flX9_88 rfl rfl ?_
        refine A_iload_n dX9_frog_51 rfl ?_
        refine A_iload_n dX9_frog_52 rfl ?_
        refine A_iload_n dX9_frog_53 rfl ?_
        refine A_callV3 dX9_frog_54 mlX9_92 (by decide) rfl rfl (Nat.le_of_ble_eq_true rfl) (c_frogsAdd _ _ _ hq hq8 (fun z => ?_) (fun z => ?_))
        · refine Kn.s ?_
          refine A_iret dX9_frog_57 rfl rfl ?_
          exact hf g1 ⟨⟨g2, g3⟩, g5, g6⟩ z
        · refine Kn.s ?_
          refine A_iret dX9_frog_57 rfl rfl ?_
          exact ha g1 ⟨⟨g2, g3⟩, g5, g6⟩ z
      · refine Kn.s ?_
        refine A_if_ne (tgt := 44) dX9_frog_37 (by decide) (fun h => absurd h (by decide +kernel)) (fun _ => ?_)
        refine A_sipush (v := (-1002)) dX9_frog_40 (by decide +kernel) ?_
        refine A_iret dX9_frog_43 rfl rfl ?_
        exact ho g1 (fun z => g7 z.2)
    · refine Kn.s ?_
      refine A_if_eq (tgt := 40) dX9_frog_26 (by decide) (fun _ => ?_) (fun h => absurd h (by decide +kernel))
      refine A_sipush (v := (-1002)) dX9_frog_40 (by decide +kernel) ?_
      refine A_iret dX9_frog_43 rfl rfl ?_
      exact ho g1 (fun z => g4 z.1)
  · refine Kn.s ?_
    refine A_if_ne (tgt := 18) dX9_frog_11 (by decide) (fun h => absurd h (by decide +kernel)) (fun _ => ?_)
    refine A_sipush (v := (-1001)) dX9_frog_14 (by decide +kernel) ?_
    refine A_iret dX9_frog_17 rfl rfl ?_
    exact hu g1
abbrev okW (f w : Int32) : Prop := (nI 0 ≤ f ∧ f ≤ nI 2000) ∧ (-20 ≤ w ∧ w ≤ nI 20)
theorem c_weather (f w : Int32) {q : Nat} {μ : MI} {ν : ML} {P : Po} (hq : μ 16 0 = nI q) (hq8 : q ≤ 10) (ho : ¬ okW f w → P (some (.int (-1002))) μ ν) (hf : okW f w → q = 10 → P (some (.int (-1004))) μ ν) (ha : okW f w → q < 10 → P (some (.int (nI (q + 1)))) (up2 (up2 (up2 μ 17 q f) 18 q w) 16 0 (nI (q + 1))) ν) : Ct mX9_weather 1 [.ref 0, .int f, .int w] μ ν P := by
  refine Ct.of (ls0 := [_, _, _]) (by decide) rfl (Nat.le_of_ble_eq_true rfl) rfl ?_
  refine A_iload_n dX9_weather_0 rfl ?_
  refine A_iconst (v := nI 0) dX9_weather_1 (by decide +kernel) ?_
  refine A_sipush (v := nI 2000) dX9_weather_2 (by decide +kernel) ?_
  refine A_callS3 dX9_weather_5 mlX9_52 (by decide) (Nat.le_of_ble_eq_true rfl) (c_within _ _ _ (fun g2 g3 => ?_) (fun g4 => ?_))
  · refine Kn.s ?_
    refine A_if_eq (tgt := 22) dX9_weather_8 (by decide) (fun h => absurd h (by decide +kernel)) (fun _ => ?_)
    refine A_iload_n dX9_weather_11 rfl ?_
    refine A_bipush (v := (-20)) dX9_weather_12 (by decide +kernel) ?_
    refine A_bipush (v := nI 20) dX9_weather_14 (by decide +kernel) ?_
    refine A_callS3 dX9_weather_16 mlX9_52 (by decide) (Nat.le_of_ble_eq_true rfl) (c_within _ _ _ (fun g5 g6 => ?_) (fun g7 => ?_))
    · refine Kn.s ?_
      refine A_if_ne (tgt := 26) dX9_weather_19 (by decide) (fun _ => ?_) (fun h => absurd h (by decide +kernel))
      refine A_aload_n dX9_weather_26 rfl ?_
      refine A_getR dX9_weather_27 flX9_12 rfl rfl ?_
      refine A_getR dX9_weather_30 flX9_97 rfl rfl ?_
      refine A_iload_n dX9_weather_33 rfl ?_
      refine A_iload_n dX9_weather_34 rfl ?_
      refine A_callV2 dX9_weather_35 mlX9_101 (by decide) rfl rfl (Nat.le_of_ble_eq_true rfl) (c_spellsAdd _ _ hq hq8 (fun z => ?_) (fun z => ?_))
      · refine Kn.s ?_
        refine A_iret dX9_weather_38 rfl rfl ?_
        exact hf ⟨⟨g2, g3⟩, g5, g6⟩ z
      · refine Kn.s ?_
        refine A_iret dX9_weather_38 rfl rfl ?_
        exact ha ⟨⟨g2, g3⟩, g5, g6⟩ z
    · refine Kn.s ?_
      refine A_if_ne (tgt := 26) dX9_weather_19 (by decide) (fun h => absurd h (by decide +kernel)) (fun _ => ?_)
      refine A_sipush (v := (-1002)) dX9_weather_22 (by decide +kernel) ?_
      refine A_iret dX9_weather_25 rfl rfl ?_
      exact ho (fun z => g7 z.2)
  · refine Kn.s ?_
    refine A_if_eq (tgt := 22) dX9_weather_8 (by decide) (fun _ => ?_) (fun h => absurd h (by decide +kernel))
    refine A_sipush (v := (-1002)) dX9_weather_22 (by decide +kernel) ?_
    refine A_iret dX9_weather_25 rfl rfl ?_
    exact ho (fun z => g4 z.1)
abbrev okR (v : Int32) : Prop := nI 0 ≤ v ∧ v ≤ nI 50
theorem c_dry (v : Int32) {μ : MI} {ν : ML} {P : Po} (ho : ¬ okR v → P (some (.int (-1002))) μ ν) (ha : okR v → P (some (.int (μ 1 4))) (up2 μ 1 4 v) ν) : Ct mX9_dry 1 [.ref 0, .int v] μ ν P := by
  refine Ct.of (ls0 := [_, _, _]) (by decide) rfl (Nat.le_of_ble_eq_true rfl) rfl ?_
  refine A_iload_n dX9_dry_0 rfl ?_
  refine A_iconst (v := nI 0) dX9_dry_1 (by decide +kernel) ?_
  refine A_bipush (v := nI 50) dX9_dry_2 (by decide +kernel) ?_
  refine A_callS3 dX9_dry_4 mlX9_52 (by decide) (Nat.le_of_ble_eq_true rfl) (c_within _ _ _ (fun g2 g3 => ?_) (fun g4 => ?_))
  · refine Kn.s ?_
    refine A_if_ne (tgt := 14) dX9_dry_7 (by decide) (fun _ => ?_) (fun h => absurd h (by decide +kernel))
    refine A_aload_n dX9_dry_14 rfl ?_
    refine A_getR dX9_dry_15 flX9_12 rfl rfl ?_
    refine A_getI dX9_dry_18 flX9_104 rfl rfl ?_
    refine A_istore_n (ls1 := [_, _, _]) dX9_dry_21 (by decide) rfl rfl ?_
    refine A_aload_n dX9_dry_22 rfl ?_
    refine A_getR dX9_dry_23 flX9_12 rfl rfl ?_
    refine A_iload_n dX9_dry_26 rfl ?_
    refine A_put dX9_dry_27 fpX9_104 rfl rfl rfl rfl ?_
    refine A_iload_n dX9_dry_30 rfl ?_
    refine A_iret dX9_dry_31 rfl rfl ?_
    exact ha ⟨g2, g3⟩
  · refine Kn.s ?_
    refine A_if_ne (tgt := 14) dX9_dry_7 (by decide) (fun h => absurd h (by decide +kernel)) (fun _ => ?_)
    refine A_sipush (v := (-1002)) dX9_dry_10 (by decide +kernel) ?_
    refine A_iret dX9_dry_13 rfl rfl ?_
    exact ho g4
def toldN (μ : MI) (k : Nat) (j : Nat) : Int32 := match j with
  | 0 => μ 3 k
  | 1 => μ 4 k
  | 2 => μ 5 k
  | 3 => if μ 5 k = -1 then -1 else μ 6 k
  | 4 => μ 34 k
  | 5 => μ 35 k
  | 6 => μ 36 k
  | 7 => μ 37 k
  | _ => sumI (μ (33 + 6 + k)) 20
theorem c_told (b what : Int32) {m : Nat} {μ : MI} {ν : ML} {P : Po} (hm : μ 2 0 = nI m) (hm8 : m ≤ 8) (hu : ¬ inR b m → P (some (.int (-1001))) μ ν) (ha : ∀ k j, b = nI k → k < m → j < 9 → what = nI j → P (some (.int (toldN μ k j))) μ ν) (ho : inR b m → (what.toInt < 0 ∨ 8 < what.toInt) → P (some (.int (-1002))) μ ν) : Ct mX9_told 1 [.ref 0, .int b, .int what] μ ν P := by
  refine Ct.of (ls0 := [_, _, _]) (by decide) rfl (Nat.le_of_ble_eq_true rfl) rfl ?_
  refine A_aload_n dX9_told_0 rfl ?_
  refine A_getR dX9_told_1 flX9_12 rfl rfl ?_
  refine A_getR dX9_told_4 flX9_56 rfl rfl ?_
  refine A_iload_n dX9_told_7 rfl ?_
  refine A_callV1 dX9_told_8 mlX9_66 (by decide) rfl rfl (Nat.le_of_ble_eq_true rfl) (c_has _ hm hm8 (fun g1 => ?_) (fun g1 => ?_))
  · refine Kn.s ?_
    refine A_if_ne (tgt := 18) dX9_told_11 (by decide) (fun _ => ?_) (fun h => absurd h (by decide +kernel))
    have g1' := g1
    obtain ⟨k, rfl, hk⟩ := g1
    have hk8 : k < 8 := by omega
    refine A_iload_n dX9_told_18 rfl ?_
    rcases sw_of (what) (n := 9) (by decide) with ⟨k19, hk19, hs19⟩ | hs19
    · rcases (show k19 = 0 ∨ k19 = 1 ∨ k19 = 2 ∨ k19 = 3 ∨ k19 = 4 ∨ k19 = 5 ∨ k19 = 6 ∨ k19 = 7 ∨ k19 = 8 by omega) with rfl | rfl | rfl | rfl | rfl | rfl | rfl | rfl | rfl
      · rw [hs19]
        refine A_tableIn (off := 49) (tgt := 68) dX9_told_19 (by decide +kernel) (by decide +kernel) (by decide +kernel) (by decide) ?_
        refine A_aload_n dX9_told_68 rfl ?_
        refine A_getR dX9_told_69 flX9_12 rfl rfl ?_
        refine A_getR dX9_told_72 flX9_56 rfl rfl ?_
        refine A_getR dX9_told_75 flX9_108 rfl rfl ?_
        refine A_iload_n dX9_told_78 rfl ?_
        refine A_ialdN (j := k) dX9_told_79 rfl rfl hk8 (by decide) ?_
        refine A_iret dX9_told_80 rfl rfl ?_
        exact ha k 0 rfl hk (by omega) hs19
      · rw [hs19]
        refine A_tableIn (off := 62) (tgt := 81) dX9_told_19 (by decide +kernel) (by decide +kernel) (by decide +kernel) (by decide) ?_
        refine A_aload_n dX9_told_81 rfl ?_
        refine A_getR dX9_told_82 flX9_12 rfl rfl ?_
        refine A_getR dX9_told_85 flX9_56 rfl rfl ?_
        refine A_getR dX9_told_88 flX9_111 rfl rfl ?_
        refine A_iload_n dX9_told_91 rfl ?_
        refine A_ialdN (j := k) dX9_told_92 rfl rfl hk8 (by decide) ?_
        refine A_iret dX9_told_93 rfl rfl ?_
        exact ha k 1 rfl hk (by omega) hs19
      · rw [hs19]
        refine A_tableIn (off := 75) (tgt := 94) dX9_told_19 (by decide +kernel) (by decide +kernel) (by decide +kernel) (by decide) ?_
        refine A_aload_n dX9_told_94 rfl ?_
        refine A_getR dX9_told_95 flX9_12 rfl rfl ?_
        refine A_getR dX9_told_98 flX9_56 rfl rfl ?_
        refine A_getR dX9_told_101 flX9_114 rfl rfl ?_
        refine A_iload_n dX9_told_104 rfl ?_
        refine A_ialdN (j := k) dX9_told_105 rfl rfl hk8 (by decide) ?_
        refine A_iret dX9_told_106 rfl rfl ?_
        exact ha k 2 rfl hk (by omega) hs19
      · rw [hs19]
        refine A_tableIn (off := 88) (tgt := 107) dX9_told_19 (by decide +kernel) (by decide +kernel) (by decide +kernel) (by decide) ?_
        refine A_aload_n dX9_told_107 rfl ?_
        refine A_getR dX9_told_108 flX9_12 rfl rfl ?_
        refine A_getR dX9_told_111 flX9_56 rfl rfl ?_
        refine A_getR dX9_told_114 flX9_114 rfl rfl ?_
        refine A_iload_n dX9_told_117 rfl ?_
        refine A_ialdN (j := k) dX9_told_118 rfl rfl hk8 (by decide) ?_
        refine A_iconst (v := (-1)) dX9_told_119 (by decide +kernel) ?_
        refine A_icmp_ne (tgt := 127) dX9_told_120 (by decide) (fun b120 => ?_) (fun b120 => ?_)
        · refine A_aload_n dX9_told_127 rfl ?_
          refine A_getR dX9_told_128 flX9_12 rfl rfl ?_
          refine A_getR dX9_told_131 flX9_56 rfl rfl ?_
          refine A_getR dX9_told_134 flX9_117 rfl rfl ?_
          refine A_iload_n dX9_told_137 rfl ?_
          refine A_ialdN (j := k) dX9_told_138 rfl rfl hk8 (by decide) ?_
          refine A_iret dX9_told_139 rfl rfl ?_
          have h9 := ha k 3 rfl hk (by omega) hs19
          unfold toldN at h9
          rw [if_neg b120] at h9
          exact h9
        · refine A_iconst (v := (-1)) dX9_told_123 (by decide +kernel) ?_
          refine A_goto (tgt := 139) dX9_told_124 (by decide) ?_
          refine A_iret dX9_told_139 rfl rfl ?_
          have h9 := ha k 3 rfl hk (by omega) hs19
          unfold toldN at h9
          rw [if_pos b120] at h9
          exact h9
      · rw [hs19]
        refine A_tableIn (off := 121) (tgt := 140) dX9_told_19 (by decide +kernel) (by decide +kernel) (by decide +kernel) (by decide) ?_
        refine A_aload_n dX9_told_140 rfl ?_
        refine A_getR dX9_told_141 flX9_24 rfl rfl ?_
        refine A_getR dX9_told_144 flX9_120 rfl rfl ?_
        refine A_iload_n dX9_told_147 rfl ?_
        refine A_ialdN (j := k) dX9_told_148 rfl rfl hk8 (by decide) ?_
        refine A_iret dX9_told_149 rfl rfl ?_
        exact ha k 4 rfl hk (by omega) hs19
      · rw [hs19]
        refine A_tableIn (off := 131) (tgt := 150) dX9_told_19 (by decide +kernel) (by decide +kernel) (by decide +kernel) (by decide) ?_
        refine A_aload_n dX9_told_150 rfl ?_
        refine A_getR dX9_told_151 flX9_24 rfl rfl ?_
        refine A_getR dX9_told_154 flX9_123 rfl rfl ?_
        refine A_iload_n dX9_told_157 rfl ?_
        refine A_ialdN (j := k) dX9_told_158 rfl rfl hk8 (by decide) ?_
        refine A_iret dX9_told_159 rfl rfl ?_
        exact ha k 5 rfl hk (by omega) hs19
      · rw [hs19]
        refine A_tableIn (off := 141) (tgt := 160) dX9_told_19 (by decide +kernel) (by decide +kernel) (by decide +kernel) (by decide) ?_
        refine A_aload_n dX9_told_160 rfl ?_
        refine A_getR dX9_told_161 flX9_24 rfl rfl ?_
        refine A_getR dX9_told_164 flX9_126 rfl rfl ?_
        refine A_iload_n dX9_told_167 rfl ?_
        refine A_ialdN (j := k) dX9_told_168 rfl rfl hk8 (by decide) ?_
        refine A_iret dX9_told_169 rfl rfl ?_
        exact ha k 6 rfl hk (by omega) hs19
      · rw [hs19]
        refine A_tableIn (off := 151) (tgt := 170) dX9_told_19 (by decide +kernel) (by decide +kernel) (by decide +kernel) (by decide) ?_
        refine A_aload_n dX9_told_170 rfl ?_
        refine A_getR dX9_told_171 flX9_24 rfl rfl ?_
        refine A_getR dX9_told_174 flX9_129 rfl rfl ?_
        refine A_iload_n dX9_told_177 rfl ?_
        refine A_ialdN (j := k) dX9_told_178 rfl rfl hk8 (by decide) ?_
        refine A_iret dX9_told_179 rfl rfl ?_
        exact ha k 7 rfl hk (by omega) hs19
      · rw [hs19]
        refine A_tableIn (off := 161) (tgt := 180) dX9_told_19 (by decide +kernel) (by decide +kernel) (by decide +kernel) (by decide) ?_
        refine A_aload_n dX9_told_180 rfl ?_
        refine A_getR dX9_told_181 flX9_24 rfl rfl ?_
        refine A_getR dX9_told_184 flX9_132 rfl rfl ?_
        refine A_iload_n dX9_told_187 rfl ?_
        refine A_aald (j := k) dX9_told_188 rfl rfl hk8 (by decide) (row_get 33 hk8) ?_
        refine A_callS1 dX9_told_189 mlX9_136 (by decide) (Nat.le_of_ble_eq_true rfl) (c_sum (flow_33.row hk8) (by omega) ?_)
        refine Kn.s ?_
        refine A_iret dX9_told_192 rfl rfl ?_
        exact ha k 8 rfl hk (by omega) hs19
    · refine A_tableOut (tgt := 193) dX9_told_19 hs19 (by decide) ?_
      refine A_sipush (v := (-1002)) dX9_told_193 (by decide +kernel) ?_
      refine A_iret dX9_told_196 rfl rfl ?_
      exact ho g1' hs19
  · refine Kn.s ?_
    refine A_if_ne (tgt := 18) dX9_told_11 (by decide) (fun h => absurd h (by decide +kernel)) (fun _ => ?_)
    refine A_sipush (v := (-1001)) dX9_told_14 (by decide +kernel) ?_
    refine A_iret dX9_told_17 rfl rfl ?_
    exact hu g1
theorem c_inPipes {f w : Nat} (hF : FlowAt f w) {μ : MI} {ν : ML} {P : Po} (hP : P (some (.int (sumI (fun b => sumI (μ (f + 6 + b)) 20) 8))) μ ν) : Ct mX2_inPipes 1 [.ref f] μ ν P := by
  refine Ct.of (ls0 := [_, _, _]) (by decide) rfl (Nat.le_of_ble_eq_true rfl) rfl ?_
  have loop : ∀ (n i : Nat), 8 - i < n → i ≤ 8 → AW mX2_inPipes (1, none) P 4 [some (.ref f), some (.int (sumI (fun b => sumI (μ (f + 6 + b)) 20) i)), some (.int (nI i))] [] μ ν := by
    intro n
    induction n with
    | zero => intro i h; omega
    | succ n ih =>
      intro i hn hi
      refine A_iload_n dX2_inPipes_4 rfl ?_
      refine A_bipush (v := nI 8) dX2_inPipes_5 (by decide +kernel) ?_
      refine A_icmp_geN (tgt := 28) dX2_inPipes_7 (by decide) (by omega) (by omega) (fun b7 => ?_) (fun b7 => ?_)
      · refine A_iload_n dX2_inPipes_28 rfl ?_
        refine A_iret dX2_inPipes_29 rfl rfl ?_
        rw [show i = 8 by omega]; exact hP
      · refine A_iload_n dX2_inPipes_10 rfl ?_
        refine A_aload_n dX2_inPipes_11 rfl ?_
        refine A_getR dX2_inPipes_12 flX2_26 hF.l0 rfl ?_
        refine A_iload_n dX2_inPipes_15 rfl ?_
        refine A_aald (j := i) dX2_inPipes_16 hF.l5 rfl b7 (by decide) (row_get f b7) ?_
        refine A_callN1 dX2_inPipes_17 mlX2_172 (by decide) (Nat.le_of_ble_eq_true rfl) (c_sum (hF.row b7) (by omega) ?_)
        refine Kn.s ?_
        refine A_iadd dX2_inPipes_20 ?_
        refine A_istore_n (ls1 := [_, _, _]) dX2_inPipes_21 (by decide) rfl rfl ?_
        refine A_iincN (ls1 := [_, _, _]) dX2_inPipes_22 rfl (by decide) rfl rfl ?_
        refine A_goto (tgt := 4) dX2_inPipes_25 (by decide) ?_
        exact ih (i + 1) (by omega) (by omega)
  refine A_iconst (v := nI 0) dX2_inPipes_0 (by decide +kernel) ?_
  refine A_istore_n (ls1 := [_, _, _]) dX2_inPipes_1 (by decide) rfl rfl ?_
  refine A_iconst (v := nI 0) dX2_inPipes_2 (by decide +kernel) ?_
  refine A_istore_n (ls1 := [_, _, _]) dX2_inPipes_3 (by decide) rfl rfl ?_
  exact loop 9 0 (by omega) (by omega)
def countN (μ : MI) (j : Nat) : Int32 := match j with
  | 0 => μ 33 2
  | 1 => μ 2 0
  | 2 => μ 7 0
  | 3 => μ 12 0
  | 4 => μ 16 0
  | 5 => sumI (μ 36) 8
  | 6 => μ 33 3
  | 7 => sumI (μ 34) 8
  | 8 => sumI (fun b => sumI (μ (33 + 6 + b)) 20) 8
  | 9 => μ 33 4
  | 10 => μ 33 5
  | _ => μ 29 0
theorem c_count (what : Int32) {μ : MI} {ν : ML} {P : Po} (ha : ∀ j, j < 12 → what = nI j → P (some (.int (countN μ j))) μ ν) (ho : (what.toInt < 0 ∨ 11 < what.toInt) → P (some (.int (-1002))) μ ν) : Ct mX9_count 2 [.ref 0, .int what] μ ν P := by
  refine Ct.of (ls0 := [_, _]) (by decide) rfl (Nat.le_of_ble_eq_true rfl) rfl ?_
  refine A_iload_n dX9_count_0 rfl ?_
  rcases sw_of (what) (n := 12) (by decide) with ⟨k1, hk1, hs1⟩ | hs1
  · rcases (show k1 = 0 ∨ k1 = 1 ∨ k1 = 2 ∨ k1 = 3 ∨ k1 = 4 ∨ k1 = 5 ∨ k1 = 6 ∨ k1 = 7 ∨ k1 = 8 ∨ k1 = 9 ∨ k1 = 10 ∨ k1 = 11 by omega) with rfl | rfl | rfl | rfl | rfl | rfl | rfl | rfl | rfl | rfl | rfl | rfl
    · rw [hs1]
      refine A_tableIn (off := 63) (tgt := 64) dX9_count_1 (by decide +kernel) (by decide +kernel) (by decide +kernel) (by decide) ?_
      refine A_aload_n dX9_count_64 rfl ?_
      refine A_getR dX9_count_65 flX9_24 rfl rfl ?_
      refine A_getI dX9_count_68 flX9_140 rfl rfl ?_
      refine A_iret dX9_count_71 rfl rfl ?_
      exact ha 0 (by omega) hs1
    · rw [hs1]
      refine A_tableIn (off := 71) (tgt := 72) dX9_count_1 (by decide +kernel) (by decide +kernel) (by decide +kernel) (by decide) ?_
      refine A_aload_n dX9_count_72 rfl ?_
      refine A_getR dX9_count_73 flX9_12 rfl rfl ?_
      refine A_getR dX9_count_76 flX9_56 rfl rfl ?_
      refine A_getI dX9_count_79 flX9_143 rfl rfl ?_
      refine A_iret dX9_count_82 rfl rfl ?_
      exact ha 1 (by omega) hs1
    · rw [hs1]
      refine A_tableIn (off := 82) (tgt := 83) dX9_count_1 (by decide +kernel) (by decide +kernel) (by decide +kernel) (by decide) ?_
      refine A_aload_n dX9_count_83 rfl ?_
      refine A_getR dX9_count_84 flX9_12 rfl rfl ?_
      refine A_getR dX9_count_87 flX9_74 rfl rfl ?_
      refine A_getI dX9_count_90 flX9_146 rfl rfl ?_
      refine A_iret dX9_count_93 rfl rfl ?_
      exact ha 2 (by omega) hs1
    · rw [hs1]
      refine A_tableIn (off := 93) (tgt := 94) dX9_count_1 (by decide +kernel) (by decide +kernel) (by decide +kernel) (by decide) ?_
      refine A_aload_n dX9_count_94 rfl ?_
      refine A_getR dX9_count_95 flX9_12 rfl rfl ?_
      refine A_getR dX9_count_98 flX9_88 rfl rfl ?_
      refine A_getI dX9_count_101 flX9_147 rfl rfl ?_
      refine A_iret dX9_count_104 rfl rfl ?_
      exact ha 3 (by omega) hs1
    · rw [hs1]
      refine A_tableIn (off := 104) (tgt := 105) dX9_count_1 (by decide +kernel) (by decide +kernel) (by decide +kernel) (by decide) ?_
      refine A_aload_n dX9_count_105 rfl ?_
      refine A_getR dX9_count_106 flX9_12 rfl rfl ?_
      refine A_getR dX9_count_109 flX9_97 rfl rfl ?_
      refine A_getI dX9_count_112 flX9_148 rfl rfl ?_
      refine A_iret dX9_count_115 rfl rfl ?_
      exact ha 4 (by omega) hs1
    · rw [hs1]
      refine A_tableIn (off := 115) (tgt := 116) dX9_count_1 (by decide +kernel) (by decide +kernel) (by decide +kernel) (by decide) ?_
      refine A_aload_n dX9_count_116 rfl ?_
      refine A_getR dX9_count_117 flX9_24 rfl rfl ?_
      refine A_getR dX9_count_120 flX9_126 rfl rfl ?_
      refine A_callS1 dX9_count_123 mlX9_136 (by decide) (Nat.le_of_ble_eq_true rfl) (c_sum rfl (by omega) ?_)
      refine Kn.s ?_
      refine A_iret dX9_count_126 rfl rfl ?_
      exact ha 5 (by omega) hs1
    · rw [hs1]
      refine A_tableIn (off := 126) (tgt := 127) dX9_count_1 (by decide +kernel) (by decide +kernel) (by decide +kernel) (by decide) ?_
      refine A_aload_n dX9_count_127 rfl ?_
      refine A_getR dX9_count_128 flX9_24 rfl rfl ?_
      refine A_getI dX9_count_131 flX9_149 rfl rfl ?_
      refine A_iret dX9_count_134 rfl rfl ?_
      exact ha 6 (by omega) hs1
    · rw [hs1]
      refine A_tableIn (off := 134) (tgt := 135) dX9_count_1 (by decide +kernel) (by decide +kernel) (by decide +kernel) (by decide) ?_
      refine A_aload_n dX9_count_135 rfl ?_
      refine A_getR dX9_count_136 flX9_24 rfl rfl ?_
      refine A_getR dX9_count_139 flX9_120 rfl rfl ?_
      refine A_callS1 dX9_count_142 mlX9_136 (by decide) (Nat.le_of_ble_eq_true rfl) (c_sum rfl (by omega) ?_)
      refine Kn.s ?_
      refine A_iret dX9_count_145 rfl rfl ?_
      exact ha 7 (by omega) hs1
    · rw [hs1]
      refine A_tableIn (off := 145) (tgt := 146) dX9_count_1 (by decide +kernel) (by decide +kernel) (by decide +kernel) (by decide) ?_
      refine A_aload_n dX9_count_146 rfl ?_
      refine A_getR dX9_count_147 flX9_24 rfl rfl ?_
      refine A_callV0 dX9_count_150 mlX9_152 (by decide) rfl rfl (Nat.le_of_ble_eq_true rfl) (c_inPipes flow_33 ?_)
      refine Kn.s ?_
      refine A_iret dX9_count_153 rfl rfl ?_
      exact ha 8 (by omega) hs1
    · rw [hs1]
      refine A_tableIn (off := 153) (tgt := 154) dX9_count_1 (by decide +kernel) (by decide +kernel) (by decide +kernel) (by decide) ?_
      refine A_aload_n dX9_count_154 rfl ?_
      refine A_getR dX9_count_155 flX9_24 rfl rfl ?_
      refine A_getI dX9_count_158 flX9_156 rfl rfl ?_
      refine A_iret dX9_count_161 rfl rfl ?_
      exact ha 9 (by omega) hs1
    · rw [hs1]
      refine A_tableIn (off := 161) (tgt := 162) dX9_count_1 (by decide +kernel) (by decide +kernel) (by decide +kernel) (by decide) ?_
      refine A_aload_n dX9_count_162 rfl ?_
      refine A_getR dX9_count_163 flX9_24 rfl rfl ?_
      refine A_getI dX9_count_166 flX9_159 rfl rfl ?_
      refine A_iret dX9_count_169 rfl rfl ?_
      exact ha 10 (by omega) hs1
    · rw [hs1]
      refine A_tableIn (off := 169) (tgt := 170) dX9_count_1 (by decide +kernel) (by decide +kernel) (by decide +kernel) (by decide) ?_
      refine A_aload_n dX9_count_170 rfl ?_
      refine A_getR dX9_count_171 flX9_41 rfl rfl ?_
      refine A_getI dX9_count_174 flX9_162 rfl rfl ?_
      refine A_iret dX9_count_177 rfl rfl ?_
      exact ha 11 (by omega) hs1
  · refine A_tableOut (tgt := 178) dX9_count_1 hs1 (by decide) ?_
    refine A_sipush (v := (-1002)) dX9_count_178 (by decide +kernel) ?_
    refine A_iret dX9_count_181 rfl rfl ?_
    exact ho hs1
