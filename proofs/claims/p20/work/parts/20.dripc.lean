/-! the drip (the class) -/
def drF (a s r m : Nat) : Nat → Nat × Nat × Nat
  | 0 => (0, 0, m)
  | k + 1 => if offF a (lnR s r (k / 8 + 1) (k % 8 + 1)) 60 11 < (drF a s r m k).2.2 then (k / 8 + 1, k % 8 + 1, offF a (lnR s r (k / 8 + 1) (k % 8 + 1)) 60 11) else drF a s r m k
theorem drF_b (a s r m : Nat) : ∀ k, k ≤ 64 → (drF a s r m k).1 ≤ 8 ∧ (drF a s r m k).2.1 ≤ 8 ∧ (drF a s r m k).2.2 ≤ m
  | 0, _ => ⟨Nat.zero_le _, Nat.zero_le _, Nat.le_refl _⟩
  | k + 1, h => by
    have ih := drF_b a s r m k (by omega)
    rw [drF]
    split
    · next q => exact ⟨by show k / 8 + 1 ≤ 8; omega, by show k % 8 + 1 ≤ 8; omega, Nat.le_of_lt (Nat.lt_of_lt_of_le q ih.2.2)⟩
    · exact ih
theorem drF_t {a s r m k v e : Nat} (hv : k / 8 + 1 = v) (he : k % 8 + 1 = e) (h : offF a (lnR s r v e) 60 11 < (drF a s r m k).2.2) : drF a s r m (k + 1) = (v, e, offF a (lnR s r v e) 60 11) := by
  subst hv
  subst he
  rw [drF, if_pos h]
theorem drF_f {a s r m k v e : Nat} (hv : k / 8 + 1 = v) (he : k % 8 + 1 = e) (h : ¬ offF a (lnR s r v e) 60 11 < (drF a s r m k).2.2) : drF a s r m (k + 1) = drF a s r m k := by
  subst hv
  subst he
  rw [drF, if_neg h]
def drR (x : Nat × Nat × Nat) (j : Nat) : Nat := match j with
  | 0 => x.1
  | 1 => x.2.1
  | _ => x.2.2
abbrev okDr (r : Int64) (s q w : Int32) : Prop := uL r < 2 ^ 60 ∧ (nI 1 ≤ s ∧ s ≤ nI 100) ∧ (nI 0 ≤ q ∧ q ≤ nI 20) ∧ (nI 0 ≤ w ∧ w ≤ nI 2)
theorem c_drip (r : Int64) (x y what : Int32) {μ : MI} {ν : ML} {P : Po} (ho : ¬ okDr r x y what → P (some (.int (-1002))) μ ν) (ha : ∀ s q j, uL r < 2 ^ 60 → x = nI s → 1 ≤ s → s ≤ 100 → y = nI q → q ≤ 20 → what = nI j → j < 3 → P (some (.int (nI (drR (drF (uL r) s q 61 64) j)))) μ ν) : Ct mX9_drip 2 [.ref 0, .long r, .int x, .int y, .int what] μ ν P := by
  refine Ct.of (ls0 := [_, _, _, _, _, _, _, _, _, _, _, _]) (by decide) rfl (Nat.le_of_ble_eq_true rfl) rfl ?_
  have main : ∀ s q j, uL r < 2 ^ 60 → x = nI s → 1 ≤ s → s ≤ 100 → y = nI q → q ≤ 20 → what = nI j → j < 3 → AW mX9_drip (2, none) P 42 [some (.ref 0), some (.long r), none, some (.int x), some (.int y), some (.int what), none, none, none, none, none, none] [] μ ν := by
    intro s q j hr hx hs1 hs hy hq hw hj
    have h9 := ha s q j hr hx hs1 hs hy hq hw hj
    subst hx
    subst hy
    subst hw
    rw [show r = lN (uL r) from (lN_uL r).symm]
    generalize uL r = a at *
    have inner : ∀ (i : Nat), i < 8 → (∀ w0 : Option Value, AW mX9_drip (2, none) P 55 [some (.ref 0), some (.long (lN a)), none, some (.int (nI s)), some (.int (nI q)), some (.int (nI j)), some (.int (nI (drF a s q 61 (8 * (i + 1))).1)), some (.int (nI (drF a s q 61 (8 * (i + 1))).2.1)), some (.int (nI (drF a s q 61 (8 * (i + 1))).2.2)), some (.int (nI (i + 1 + 1))), none, none] [] μ ν) → ∀ (n k : Nat), 8 - k < n → k ≤ 8 → AW mX9_drip (2, none) P 65 [some (.ref 0), some (.long (lN a)), none, some (.int (nI s)), some (.int (nI q)), some (.int (nI j)), some (.int (nI (drF a s q 61 (8 * i + k)).1)), some (.int (nI (drF a s q 61 (8 * i + k)).2.1)), some (.int (nI (drF a s q 61 (8 * i + k)).2.2)), some (.int (nI (i + 1))), some (.int (nI (k + 1))), none] [] μ ν := by
      intro i hi hex n
      induction n with
      | zero => intro k h; omega
      | succ n ih =>
        intro k hn hk
        have hb := drF_b a s q 61 (8 * i + k) (by omega)
        have ho := offF_le a (lnR s q (i + 1) (k + 1)) 60 11
        have ih1 : k < 8 → _ := fun h => ih (k + 1) (by omega) (by omega)
        refine A_iload dX9_drip_65 rfl ?_
        refine A_bipush (v := nI 8) dX9_drip_67 (by decide +kernel) ?_
        refine A_icmp_gtN (tgt := 113) dX9_drip_69 (by decide) (by omega) (by omega) (fun b69 => ?_) (fun b69 => ?_)
        · refine A_iincN (ls1 := [_, _, _, _, _, _, _, _, _, _, _, _]) dX9_drip_113 rfl (by decide) rfl rfl ?_
          refine A_goto (tgt := 55) dX9_drip_116 (by decide) ?_
          have h8 := hex none
          rw [show 8 * (i + 1) = 8 * i + k by omega] at h8
          exact A_weak h8 (by repeat first | exact fw_0 | refine fw_s ?_ | refine fw_n ?_)
        · refine A_lload_n dX9_drip_72 rfl ?_
          refine A_iload_n dX9_drip_73 rfl ?_
          refine A_iload dX9_drip_74 rfl ?_
          refine A_iload dX9_drip_76 rfl ?_
          refine A_iload dX9_drip_78 rfl ?_
          refine A_callS4 dX9_drip_80 mlX9_191 (by decide) (Nat.le_of_ble_eq_true rfl) (c_loneRow hs1 hs hq (by omega) (by omega) (by omega) ?_)
          refine Kn.s ?_
          refine A_callS2 dX9_drip_83 mlX9_195 (by decide) (Nat.le_of_ble_eq_true rfl) (c_offOf hr (lnR_lt _ _ _ _) ?_)
          refine Kn.s ?_
          refine A_istore (ls1 := [_, _, _, _, _, _, _, _, _, _, _, _]) dX9_drip_86 (by decide) rfl rfl ?_
          refine A_iload dX9_drip_88 rfl ?_
          refine A_iload dX9_drip_90 rfl ?_
          refine A_icmp_geN (tgt := 107) dX9_drip_92 (by decide) (by omega) (by omega) (fun b92 => ?_) (fun b92 => ?_)
          · refine A_iincN (ls1 := [_, _, _, _, _, _, _, _, _, _, _, _]) dX9_drip_107 rfl (by decide) rfl rfl ?_
            refine A_goto (tgt := 65) dX9_drip_110 (by decide) ?_
            have h8 := ih1 (by omega)
            rw [← Nat.add_assoc, drF_f (v := i + 1) (e := k + 1) (by omega) (by omega) (by omega)] at h8
            exact A_weak h8 (by repeat first | exact fw_0 | refine fw_s ?_ | refine fw_n ?_)
          · refine A_iload dX9_drip_95 rfl ?_
            refine A_istore (ls1 := [_, _, _, _, _, _, _, _, _, _, _, _]) dX9_drip_97 (by decide) rfl rfl ?_
            refine A_iload dX9_drip_99 rfl ?_
            refine A_istore (ls1 := [_, _, _, _, _, _, _, _, _, _, _, _]) dX9_drip_101 (by decide) rfl rfl ?_
            refine A_iload dX9_drip_103 rfl ?_
            refine A_istore (ls1 := [_, _, _, _, _, _, _, _, _, _, _, _]) dX9_drip_105 (by decide) rfl rfl ?_
            refine A_iincN (ls1 := [_, _, _, _, _, _, _, _, _, _, _, _]) dX9_drip_107 rfl (by decide) rfl rfl ?_
            refine A_goto (tgt := 65) dX9_drip_110 (by decide) ?_
            have h8 := ih1 (by omega)
            rw [← Nat.add_assoc, drF_t (v := i + 1) (e := k + 1) (by omega) (by omega) (by omega)] at h8
            exact A_weak h8 (by repeat first | exact fw_0 | refine fw_s ?_ | refine fw_n ?_)
    have loop : ∀ (n i : Nat), 8 - i < n → i ≤ 8 → AW mX9_drip (2, none) P 55 [some (.ref 0), some (.long (lN a)), none, some (.int (nI s)), some (.int (nI q)), some (.int (nI j)), some (.int (nI (drF a s q 61 (8 * i)).1)), some (.int (nI (drF a s q 61 (8 * i)).2.1)), some (.int (nI (drF a s q 61 (8 * i)).2.2)), some (.int (nI (i + 1))), none, none] [] μ ν := by
      intro n
      induction n with
      | zero => intro i h; omega
      | succ n ih =>
        intro i hn hi
        refine A_iload dX9_drip_55 rfl ?_
        refine A_bipush (v := nI 8) dX9_drip_57 (by decide +kernel) ?_
        refine A_icmp_gtN (tgt := 119) dX9_drip_59 (by decide) (by omega) (by omega) (fun b59 => ?_) (fun b59 => ?_)
        · rw [show 8 * i = 64 by omega]
          refine A_iload dX9_drip_119 rfl ?_
          refine A_if_ne (tgt := 129) dX9_drip_121 (by decide) (fun b121 => ?_) (fun b121 => ?_)
          · refine A_iload dX9_drip_129 rfl ?_
            refine A_iconst (v := nI 1) dX9_drip_131 (by decide +kernel) ?_
            refine A_icmp_neN (tgt := 140) dX9_drip_132 (by decide) (by omega) (by omega) (fun b132 => ?_) (fun b132 => ?_)
            · refine A_iload dX9_drip_140 rfl ?_
              refine A_iret dX9_drip_142 rfl rfl ?_
              have ej : j = 2 := by
                have h1 : ¬ j = 0 := fun q => b121 (by rw [q]; rfl)
                omega
              subst ej
              exact h9
            · refine A_iload dX9_drip_135 rfl ?_
              refine A_goto (tgt := 142) dX9_drip_137 (by decide) ?_
              refine A_iret dX9_drip_142 rfl rfl ?_
              have ej : j = 1 := by omega
              subst ej
              exact h9
          · refine A_iload dX9_drip_124 rfl ?_
            refine A_goto (tgt := 142) dX9_drip_126 (by decide) ?_
            refine A_iret dX9_drip_142 rfl rfl ?_
            have ej : j = 0 := (nI_inj (by omega) (by omega)).mp b121
            subst ej
            exact h9
        · refine A_iconst (v := nI 1) dX9_drip_62 (by decide +kernel) ?_
          refine A_istore (ls1 := [_, _, _, _, _, _, _, _, _, _, _, _]) dX9_drip_63 (by decide) rfl rfl ?_
          exact A_weak (inner i (by omega) (fun _ => ih (i + 1) (by omega) (by omega)) 9 0 (by omega) (by omega)) (by repeat first | exact fw_0 | refine fw_s ?_ | refine fw_n ?_)
    refine A_iconst (v := nI 0) dX9_drip_42 (by decide +kernel) ?_
    refine A_istore (ls1 := [_, _, _, _, _, _, _, _, _, _, _, _]) dX9_drip_43 (by decide) rfl rfl ?_
    refine A_iconst (v := nI 0) dX9_drip_45 (by decide +kernel) ?_
    refine A_istore (ls1 := [_, _, _, _, _, _, _, _, _, _, _, _]) dX9_drip_46 (by decide) rfl rfl ?_
    refine A_bipush (v := nI 61) dX9_drip_48 (by decide +kernel) ?_
    refine A_istore (ls1 := [_, _, _, _, _, _, _, _, _, _, _, _]) dX9_drip_50 (by decide) rfl rfl ?_
    refine A_iconst (v := nI 1) dX9_drip_52 (by decide +kernel) ?_
    refine A_istore (ls1 := [_, _, _, _, _, _, _, _, _, _, _, _]) dX9_drip_53 (by decide) rfl rfl ?_
    exact loop 9 0 (by omega) (by omega)
  refine A_lload_n dX9_drip_0 rfl ?_
  refine A_callS1 dX9_drip_1 mlX9_187 (by decide) (Nat.le_of_ble_eq_true rfl) (c_isRow _ (fun g0 => ?_) (fun g0 => ?_))
  · refine Kn.s ?_
    refine A_if_eq (tgt := 38) dX9_drip_4 (by decide) (fun h => absurd h (by decide +kernel)) (fun _ => ?_)
    refine A_iload_n dX9_drip_7 rfl ?_
    refine A_iconst (v := nI 1) dX9_drip_8 (by decide +kernel) ?_
    refine A_bipush (v := nI 100) dX9_drip_9 (by decide +kernel) ?_
    refine A_callS3 dX9_drip_11 mlX9_52 (by decide) (Nat.le_of_ble_eq_true rfl) (c_within _ _ _ (fun g1 g2 => ?_) (fun g3 => ?_))
    · refine Kn.s ?_
      refine A_if_eq (tgt := 38) dX9_drip_14 (by decide) (fun h => absurd h (by decide +kernel)) (fun _ => ?_)
      refine A_iload dX9_drip_17 rfl ?_
      refine A_iconst (v := nI 0) dX9_drip_19 (by decide +kernel) ?_
      refine A_bipush (v := nI 20) dX9_drip_20 (by decide +kernel) ?_
      refine A_callS3 dX9_drip_22 mlX9_52 (by decide) (Nat.le_of_ble_eq_true rfl) (c_within _ _ _ (fun g4 g5 => ?_) (fun g6 => ?_))
      · refine Kn.s ?_
        refine A_if_eq (tgt := 38) dX9_drip_25 (by decide) (fun h => absurd h (by decide +kernel)) (fun _ => ?_)
        refine A_iload dX9_drip_28 rfl ?_
        refine A_iconst (v := nI 0) dX9_drip_30 (by decide +kernel) ?_
        refine A_iconst (v := nI 2) dX9_drip_31 (by decide +kernel) ?_
        refine A_callS3 dX9_drip_32 mlX9_52 (by decide) (Nat.le_of_ble_eq_true rfl) (c_within _ _ _ (fun g7 g8 => ?_) (fun g9 => ?_))
        · refine Kn.s ?_
          refine A_if_ne (tgt := 42) dX9_drip_35 (by decide) (fun _ => ?_) (fun h => absurd h (by decide +kernel))
          obtain ⟨s, hs, es⟩ := nI_of2 (M := nI 100) (n := 100) rfl (i_le_n (Int32.le_trans (show (0 : Int32) ≤ nI 1 by decide +kernel) g1)) g2
          obtain ⟨q, hq, eq⟩ := nI_of2 (M := nI 20) (n := 20) rfl (i_le_n g4) g5
          obtain ⟨j, hj, ej⟩ := nI_of2 (M := nI 2) (n := 2) rfl (i_le_n g7) g8
          exact main s q j g0 es (by rw [es] at g1; exact (nI_leI (by omega) (by omega)).mp g1) hs eq hq ej (by omega)
        · refine Kn.s ?_
          refine A_if_ne (tgt := 42) dX9_drip_35 (by decide) (fun h => absurd h (by decide +kernel)) (fun _ => ?_)
          refine A_sipush (v := (-1002)) dX9_drip_38 (by decide +kernel) ?_
          refine A_iret dX9_drip_41 rfl rfl ?_
          exact ho (fun z => g9 z.2.2.2)
      · refine Kn.s ?_
        refine A_if_eq (tgt := 38) dX9_drip_25 (by decide) (fun _ => ?_) (fun h => absurd h (by decide +kernel))
        refine A_sipush (v := (-1002)) dX9_drip_38 (by decide +kernel) ?_
        refine A_iret dX9_drip_41 rfl rfl ?_
        exact ho (fun z => g6 z.2.2.1)
    · refine Kn.s ?_
      refine A_if_eq (tgt := 38) dX9_drip_14 (by decide) (fun _ => ?_) (fun h => absurd h (by decide +kernel))
      refine A_sipush (v := (-1002)) dX9_drip_38 (by decide +kernel) ?_
      refine A_iret dX9_drip_41 rfl rfl ?_
      exact ho (fun z => g3 z.2.1)
  · refine Kn.s ?_
    refine A_if_eq (tgt := 38) dX9_drip_4 (by decide) (fun _ => ?_) (fun h => absurd h (by decide +kernel))
    refine A_sipush (v := (-1002)) dX9_drip_38 (by decide +kernel) ?_
    refine A_iret dX9_drip_41 rfl rfl ?_
    exact ho (fun z => g0 z.1)
