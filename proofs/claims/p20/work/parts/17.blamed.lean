/-! the blame, on: one try, single faults, pairs, the answer -/
theorem Sc.bl {μ μ' : MI} (hF : Fr 32 1 μ μ') : Sc μ μ' := fun a ha j => hF a (by omega) j
theorem agreeB_sc {μ μ' : MI} (h : Sc μ μ') (ν : ML) (t k : Nat) : agreeB μ' ν t k = agreeB μ ν t k := by
  unfold agreeB
  exact allB_cong (fun b _ => by rw [h 30 (by omega) b])
/-- whether all that was heard is as with these faults -/
def fitX (c μ : MI) (ν : ML) (f g : Int32) : Bool := allB (fun t => agreeB μ ν t (knockN c (twF f g) t)) 60
theorem fitX_sc {c μ μ' : MI} (h : Sc μ μ') (ν : ML) (f g : Int32) : fitX c μ' ν f g = fitX c μ ν f g := by
  unfold fitX
  exact allB_cong (fun t _ => agreeB_sc h ν t _)
theorem blM_fr {μ μ' : MI} {lo n : Nat} (h : Fr lo n μ μ') (hl : 33 ≤ lo ∨ lo + n ≤ 32) : blM μ' = blM μ := by
  unfold blM
  rw [h 32 (by omega) 0, h 32 (by omega) 1, h 32 (by omega) 2]
theorem tw0_twF {μ : MI} (h : TW 24 (tw0 (nI 0)) μ) : TW 24 (twF (-1) (-1)) μ := by
  refine ⟨h.1, fun s hs => ⟨(h.2.1 s hs).1, (h.2.1 s hs).2.trans (twF_0 s (by omega)).1.symm⟩, fun b hb => ⟨(h.2.2 b hb).1.trans (twF_0 b hb).2.1.symm, (h.2.2 b hb).2.trans (twF_0 b hb).2.2.symm⟩⟩
theorem c_tryFaults (f g : Int32) {c μ : MI} {ν : ML} {P : Po} (hC : WC c) (hc : CX c μ) (hP : ∀ μ', Sc μ μ' → blM μ' = blA (fitX c μ ν f g) f g (blM μ) → P none μ' ν) : Ct mX9_tryFaults 4 [.ref 0, .int f, .int g] μ ν P := by
  refine Ct.of (ls0 := [_, _, _, _]) (by decide) rfl (Nat.le_of_ble_eq_true rfl) rfl ?_
  have hnb8 := hC.1.1.2
  have loop : ∀ (q i : Nat) (μ1 : MI), 60 - i < q → i ≤ 60 → Sc μ μ1 → blM μ1 = blM μ → TW 24 (twF f g) μ1 → RX 47 i (runP c (twF f g) i) μ1 → allB (fun t => agreeB μ ν t (knockN c (twF f g) t)) i = true → AW mX9_tryFaults (4, none) P 33 [some (.ref 0), some (.int f), some (.int g), some (.int (nI i))] [] μ1 ν := by
    intro q
    induction q with
    | zero => intro i μ1 h; omega
    | succ q ih =>
      intro i μ1 hq hi hS hB hT1 hR1 ha
      have hl : bitsN (setP c (twF f g) i (runP c (twF f g) i)) (N (c 2 0)) < 256 := Nat.lt_of_lt_of_le (bitsN_lt _ _) (Nat.pow_le_pow_right (by omega) hnb8)
      refine A_iload_n dX9_tryFaults_33 rfl ?_
      refine A_bipush (v := nI 60) dX9_tryFaults_34 (by decide +kernel) ?_
      refine A_icmp_geN (tgt := 64) dX9_tryFaults_36 (by decide) (by omega) (by omega) (fun b36 => ?_) (fun b36 => ?_)
      · refine A_aload_n dX9_tryFaults_64 rfl ?_
        refine A_getR dX9_tryFaults_65 flX9_48 rfl rfl ?_
        refine A_iload_n dX9_tryFaults_68 rfl ?_
        refine A_iload_n dX9_tryFaults_69 rfl ?_
        refine A_callV2 dX9_tryFaults_70 mlX9_278 (by decide) rfl rfl (Nat.le_of_ble_eq_true rfl) (c_blAdd _ _ (fun μ3 h1 h2 => ?_))
        refine Kn.v ?_
        refine A_vret dX9_tryFaults_73 rfl ?_
        have e : fitX c μ ν f g = true := by rw [show i = 60 by omega] at ha; exact ha
        exact hP μ3 (hS.tr (Sc.bl h2)) (by rw [h1, e, hB])
      · refine A_aload_n dX9_tryFaults_39 rfl ?_
        refine A_getR dX9_tryFaults_40 flX9_41 rfl rfl ?_
        refine A_iload_n dX9_tryFaults_43 rfl ?_
        refine A_aload_n dX9_tryFaults_44 rfl ?_
        refine A_getR dX9_tryFaults_45 flX9_32 rfl rfl ?_
        refine A_callV0 dX9_tryFaults_48 mlX9_163 (by decide) rfl rfl (Nat.le_of_ble_eq_true rfl) (c_stepC flow_47 (by omega) hC (hS.cx hc) hT1 hR1 (GC_run hC i) (fun μ2 hR2 hF2 => ?_))
        refine Kn.s ?_
        have hS2 := hS.tr (Sc.fr hF2 (Or.inr (by omega)))
        have hB2 := (blM_fr hF2 (Or.inl (by omega))).trans hB
        refine A_callV2 dX9_tryFaults_51 mlX9_275 (by decide) rfl rfl (Nat.le_of_ble_eq_true rfl) (c_agrees (by omega) (by omega) (fun z => ?_) (fun z => ?_))
        · refine Kn.s ?_
          refine A_if_ne (tgt := 58) dX9_tryFaults_54 (by decide) (fun _ => ?_) (fun h => absurd h (by decide +kernel))
          refine A_iincN (ls1 := [_, _, _, _]) dX9_tryFaults_58 rfl (by decide) rfl rfl ?_
          refine A_goto (tgt := 33) dX9_tryFaults_61 (by decide) ?_
          rw [agreeB_sc hS2] at z
          exact ih (i + 1) μ2 (by omega) (by omega) hS2 hB2 (hT1.fr (by omega) hF2) hR2 (by
            rw [allB, ha]
            exact z)
        · refine Kn.s ?_
          refine A_if_ne (tgt := 58) dX9_tryFaults_54 (by decide) (fun h => absurd h (by decide +kernel)) (fun _ => ?_)
          refine A_vret dX9_tryFaults_57 rfl ?_
          rw [agreeB_sc hS2] at z
          have e : fitX c μ ν f g = false := allB_f (k := i) b36 z
          exact hP μ2 hS2 (by rw [hB2, e]; rfl)
  refine A_aload_n dX9_tryFaults_0 rfl ?_
  refine A_getR dX9_tryFaults_1 flX9_28 rfl rfl ?_
  refine A_iconst (v := nI 0) dX9_tryFaults_4 (by decide +kernel) ?_
  refine A_callV1 dX9_tryFaults_5 mlX9_177 (by decide) rfl rfl (Nat.le_of_ble_eq_true rfl) (c_reset _ (Or.inl rfl) (fun μ1 hT1 hF1 => ?_))
  refine Kn.v ?_
  refine A_aload_n dX9_tryFaults_8 rfl ?_
  refine A_getR dX9_tryFaults_9 flX9_28 rfl rfl ?_
  refine A_iload_n dX9_tryFaults_12 rfl ?_
  refine A_callV1 dX9_tryFaults_13 mlX9_271 (by decide) rfl rfl (Nat.le_of_ble_eq_true rfl) (c_failT (-1) _ (tw0_twF hT1) (fun μ2 hT2 hF2 => ?_))
  refine Kn.v ?_
  rw [twF_comm] at hT2
  refine A_aload_n dX9_tryFaults_16 rfl ?_
  refine A_getR dX9_tryFaults_17 flX9_28 rfl rfl ?_
  refine A_iload_n dX9_tryFaults_20 rfl ?_
  refine A_callV1 dX9_tryFaults_21 mlX9_271 (by decide) rfl rfl (Nat.le_of_ble_eq_true rfl) (c_failT _ _ hT2 (fun μ3 hT3 hF3 => ?_))
  refine Kn.v ?_
  refine A_aload_n dX9_tryFaults_24 rfl ?_
  refine A_getR dX9_tryFaults_25 flX9_32 rfl rfl ?_
  refine A_callV0 dX9_tryFaults_28 mlX9_172 (by decide) rfl rfl (Nat.le_of_ble_eq_true rfl) (c_begin flow_47 (fun μ4 hR4 hF4 => ?_))
  refine Kn.v ?_
  refine A_iconst (v := nI 0) dX9_tryFaults_31 (by decide +kernel) ?_
  refine A_istore_n (ls1 := [_, _, _, _]) dX9_tryFaults_32 (by decide) rfl rfl ?_
  have hF123 := (hF1.tr hF2).tr hF3
  exact loop 61 0 μ4 (by omega) (by omega) ((Sc.fr hF123 (Or.inl (by omega))).tr (Sc.fr hF4 (Or.inr (by omega)))) ((blM_fr hF4 (Or.inl (by omega))).trans (blM_fr hF123 (Or.inr (by omega)))) (hT3.fr (by omega) hF4) hR4 rfl
/-- single faults 0 .. n - 1, one after the other -/
def sgF (can : Nat → Bool) (fit : Int32 → Int32 → Bool) : Nat → Bl → Bl
  | 0, x => x
  | k + 1, x => if can k then blA (fit (nI k) (-1)) (nI k) (-1) (sgF can fit k x) else sgF can fit k x
theorem c_trySingles {c μ : MI} {ν : ML} {P : Po} (hC : WC c) (hc : CX c μ) (hP : ∀ μ', Sc μ μ' → blM μ' = sgF (canF (N (c 2 0)) (N (c 7 0))) (fitX c μ ν) 30 (blM μ) → P none μ' ν) : Ct mX9_trySingleFaults 5 [.ref 0] μ ν P := by
  refine Ct.of (ls0 := [_, _]) (by decide) rfl (Nat.le_of_ble_eq_true rfl) rfl ?_
  have hnb := hC.1.1
  have hns := hC.2.1.1
  have loop : ∀ (q i : Nat) (μ1 : MI), 30 - i < q → i ≤ 30 → Sc μ μ1 → blM μ1 = sgF (canF (N (c 2 0)) (N (c 7 0))) (fitX c μ ν) i (blM μ) → AW mX9_trySingleFaults (5, none) P 2 [some (.ref 0), some (.int (nI i))] [] μ1 ν := by
    intro q
    induction q with
    | zero => intro i μ1 h; omega
    | succ q ih =>
      intro i μ1 hq hi hS hB
      have hc1 := hS.cx hc
      refine A_iload_n dX9_trySingleFaults_2 rfl ?_
      refine A_bipush (v := nI 30) dX9_trySingleFaults_3 (by decide +kernel) ?_
      refine A_icmp_geN (tgt := 31) dX9_trySingleFaults_5 (by decide) (by omega) (by omega) (fun b5 => ?_) (fun b5 => ?_)
      · refine A_vret dX9_trySingleFaults_31 rfl ?_
        rw [show i = 30 by omega] at hB; exact hP μ1 hS hB
      · refine A_aload_n dX9_trySingleFaults_8 rfl ?_
        refine A_getR dX9_trySingleFaults_9 flX9_12 rfl rfl ?_
        refine A_iload_n dX9_trySingleFaults_12 rfl ?_
        refine A_callV1 dX9_trySingleFaults_13 mlX9_268 (by decide) rfl rfl (Nat.le_of_ble_eq_true rfl) (c_canFail (by omega) ((hc1 2 (by omega) (by omega) 0).trans hnb.1) hnb.2 ((hc1 7 (by omega) (by omega) 0).trans hns.1) hns.2 (fun z => ?_) (fun z => ?_))
        · refine Kn.s ?_
          refine A_if_eq (tgt := 25) dX9_trySingleFaults_16 (by decide) (fun h => absurd h (by decide +kernel)) (fun _ => ?_)
          refine A_aload_n dX9_trySingleFaults_19 rfl ?_
          refine A_iload_n dX9_trySingleFaults_20 rfl ?_
          refine A_iconst (v := (-1)) dX9_trySingleFaults_21 (by decide +kernel) ?_
          refine A_callV2 dX9_trySingleFaults_22 mlX9_207 (by decide) rfl rfl (Nat.le_of_ble_eq_true rfl) (c_tryFaults _ _ hC hc1 (fun μ2 h1 h2 => ?_))
          refine Kn.v ?_
          refine A_iincN (ls1 := [_, _]) dX9_trySingleFaults_25 rfl (by decide) rfl rfl ?_
          refine A_goto (tgt := 2) dX9_trySingleFaults_28 (by decide) ?_
          exact ih (i + 1) μ2 (by omega) (by omega) (hS.tr h1) (by rw [h2, fitX_sc hS, hB, sgF, if_pos z])
        · refine Kn.s ?_
          refine A_if_eq (tgt := 25) dX9_trySingleFaults_16 (by decide) (fun _ => ?_) (fun h => absurd h (by decide +kernel))
          refine A_iincN (ls1 := [_, _]) dX9_trySingleFaults_25 rfl (by decide) rfl rfl ?_
          refine A_goto (tgt := 2) dX9_trySingleFaults_28 (by decide) ?_
          exact ih (i + 1) μ1 (by omega) (by omega) hS (by rw [hB, sgF, if_neg (by rw [z]; decide)])
  refine A_iconst (v := nI 0) dX9_trySingleFaults_0 (by decide +kernel) ?_
  refine A_istore_n (ls1 := [_, _]) dX9_trySingleFaults_1 (by decide) rfl rfl ?_
  exact loop 31 0 μ (by omega) (by omega) (Sc.rf μ) rfl
/-- pairs of i with i + 1 .. i + n -/
def inF (can : Nat → Bool) (fit : Int32 → Int32 → Bool) (i : Nat) : Nat → Bl → Bl
  | 0, x => x
  | k + 1, x => if can i && can (i + 1 + k) then blA (fit (nI i) (nI (i + 1 + k))) (nI i) (nI (i + 1 + k)) (inF can fit i k x) else inF can fit i k x
def ouF (can : Nat → Bool) (fit : Int32 → Int32 → Bool) (m : Nat) : Nat → Bl → Bl
  | 0, x => x
  | k + 1, x => inF can fit k (m - 1 - k) (ouF can fit m k x)
theorem c_tryPairs {c μ : MI} {ν : ML} {P : Po} (hC : WC c) (hc : CX c μ) (hP : ∀ μ', Sc μ μ' → blM μ' = ouF (canF (N (c 2 0)) (N (c 7 0))) (fitX c μ ν) 30 30 (blM μ) → P none μ' ν) : Ct mX9_tryPairsOfFaults 5 [.ref 0] μ ν P := by
  refine Ct.of (ls0 := [_, _, _]) (by decide) rfl (Nat.le_of_ble_eq_true rfl) rfl ?_
  have hnb := hC.1.1
  have hns := hC.2.1.1
  have inner : ∀ (i : Nat) (y : Bl), i < 30 → (∀ μ2, Sc μ μ2 → blM μ2 = inF (canF (N (c 2 0)) (N (c 7 0))) (fitX c μ ν) i (29 - i) y → AW mX9_tryPairsOfFaults (5, none) P 52 [some (.ref 0), some (.int (nI i)), none] [] μ2 ν) → ∀ (q j : Nat) (μ1 : MI), 29 - i - j < q → i + 1 + j ≤ 30 → Sc μ μ1 → blM μ1 = inF (canF (N (c 2 0)) (N (c 7 0))) (fitX c μ ν) i j y → AW mX9_tryPairsOfFaults (5, none) P 12 [some (.ref 0), some (.int (nI i)), some (.int (nI (i + 1 + j)))] [] μ1 ν := by
    intro i y hi30 hex q
    induction q with
    | zero => intro j μ1 h; omega
    | succ q ih =>
      intro j μ1 hq hj hS hB
      have hc1 := hS.cx hc
      refine A_iload_n dX9_tryPairsOfFaults_12 rfl ?_
      refine A_bipush (v := nI 30) dX9_tryPairsOfFaults_13 (by decide +kernel) ?_
      refine A_icmp_geN (tgt := 52) dX9_tryPairsOfFaults_15 (by decide) (by omega) (by omega) (fun b15 => ?_) (fun b15 => ?_)
      · rw [show j = 29 - i by omega] at hB
        exact A_weak (hex μ1 hS hB) (by repeat first | exact fw_0 | refine fw_s ?_ | refine fw_n ?_)
      · refine A_aload_n dX9_tryPairsOfFaults_18 rfl ?_
        refine A_getR dX9_tryPairsOfFaults_19 flX9_12 rfl rfl ?_
        refine A_iload_n dX9_tryPairsOfFaults_22 rfl ?_
        refine A_callV1 dX9_tryPairsOfFaults_23 mlX9_268 (by decide) rfl rfl (Nat.le_of_ble_eq_true rfl) (c_canFail (by omega) ((hc1 2 (by omega) (by omega) 0).trans hnb.1) hnb.2 ((hc1 7 (by omega) (by omega) 0).trans hns.1) hns.2 (fun z => ?_) (fun z => ?_))
        · refine Kn.s ?_
          refine A_if_eq (tgt := 46) dX9_tryPairsOfFaults_26 (by decide) (fun h => absurd h (by decide +kernel)) (fun _ => ?_)
          refine A_aload_n dX9_tryPairsOfFaults_29 rfl ?_
          refine A_getR dX9_tryPairsOfFaults_30 flX9_12 rfl rfl ?_
          refine A_iload_n dX9_tryPairsOfFaults_33 rfl ?_
          refine A_callV1 dX9_tryPairsOfFaults_34 mlX9_268 (by decide) rfl rfl (Nat.le_of_ble_eq_true rfl) (c_canFail (by omega) ((hc1 2 (by omega) (by omega) 0).trans hnb.1) hnb.2 ((hc1 7 (by omega) (by omega) 0).trans hns.1) hns.2 (fun z2 => ?_) (fun z2 => ?_))
          · refine Kn.s ?_
            refine A_if_eq (tgt := 46) dX9_tryPairsOfFaults_37 (by decide) (fun h => absurd h (by decide +kernel)) (fun _ => ?_)
            refine A_aload_n dX9_tryPairsOfFaults_40 rfl ?_
            refine A_iload_n dX9_tryPairsOfFaults_41 rfl ?_
            refine A_iload_n dX9_tryPairsOfFaults_42 rfl ?_
            refine A_callV2 dX9_tryPairsOfFaults_43 mlX9_207 (by decide) rfl rfl (Nat.le_of_ble_eq_true rfl) (c_tryFaults _ _ hC hc1 (fun μ2 h1 h2 => ?_))
            refine Kn.v ?_
            refine A_iincN (ls1 := [_, _, _]) dX9_tryPairsOfFaults_46 rfl (by decide) rfl rfl ?_
            refine A_goto (tgt := 12) dX9_tryPairsOfFaults_49 (by decide) ?_
            exact ih (j + 1) μ2 (by omega) (by omega) (hS.tr h1) (by rw [h2, fitX_sc hS, hB, inF, if_pos (by rw [z, z2]; rfl)])
          · refine Kn.s ?_
            refine A_if_eq (tgt := 46) dX9_tryPairsOfFaults_37 (by decide) (fun _ => ?_) (fun h => absurd h (by decide +kernel))
            refine A_iincN (ls1 := [_, _, _]) dX9_tryPairsOfFaults_46 rfl (by decide) rfl rfl ?_
            refine A_goto (tgt := 12) dX9_tryPairsOfFaults_49 (by decide) ?_
            exact ih (j + 1) μ1 (by omega) (by omega) hS (by rw [hB, inF, if_neg (by rw [z, z2]; decide)])
        · refine Kn.s ?_
          refine A_if_eq (tgt := 46) dX9_tryPairsOfFaults_26 (by decide) (fun _ => ?_) (fun h => absurd h (by decide +kernel))
          refine A_iincN (ls1 := [_, _, _]) dX9_tryPairsOfFaults_46 rfl (by decide) rfl rfl ?_
          refine A_goto (tgt := 12) dX9_tryPairsOfFaults_49 (by decide) ?_
          exact ih (j + 1) μ1 (by omega) (by omega) hS (by rw [hB, inF, if_neg (by rw [z]; simp)])
  have loop : ∀ (q i : Nat) (μ1 : MI), 30 - i < q → i ≤ 30 → Sc μ μ1 → blM μ1 = ouF (canF (N (c 2 0)) (N (c 7 0))) (fitX c μ ν) 30 i (blM μ) → AW mX9_tryPairsOfFaults (5, none) P 2 [some (.ref 0), some (.int (nI i)), none] [] μ1 ν := by
    intro q
    induction q with
    | zero => intro i μ1 h; omega
    | succ q ih =>
      intro i μ1 hq hi hS hB
      refine A_iload_n dX9_tryPairsOfFaults_2 rfl ?_
      refine A_bipush (v := nI 30) dX9_tryPairsOfFaults_3 (by decide +kernel) ?_
      refine A_icmp_geN (tgt := 58) dX9_tryPairsOfFaults_5 (by decide) (by omega) (by omega) (fun b5 => ?_) (fun b5 => ?_)
      · refine A_vret dX9_tryPairsOfFaults_58 rfl ?_
        rw [show i = 30 by omega] at hB; exact hP μ1 hS hB
      · refine A_iload_n dX9_tryPairsOfFaults_8 rfl ?_
        refine A_iconst (v := nI 1) dX9_tryPairsOfFaults_9 (by decide +kernel) ?_
        refine A_iaddN dX9_tryPairsOfFaults_10 ?_
        refine A_istore_n (ls1 := [_, _, _]) dX9_tryPairsOfFaults_11 (by decide) rfl rfl ?_
        refine inner i _ b5 (fun μ2 h1 h2 => ?_) 30 0 μ1 (by omega) (by omega) hS hB
        refine A_iincN (ls1 := [_, _, _]) dX9_tryPairsOfFaults_52 rfl (by decide) rfl rfl ?_
        refine A_goto (tgt := 2) dX9_tryPairsOfFaults_55 (by decide) ?_
        exact ih (i + 1) μ2 (by omega) (by omega) h1 h2
  refine A_iconst (v := nI 0) dX9_tryPairsOfFaults_0 (by decide +kernel) ?_
  refine A_istore_n (ls1 := [_, _, _]) dX9_tryPairsOfFaults_1 (by decide) rfl rfl ?_
  exact loop 31 0 μ (by omega) (by omega) (Sc.rf μ) rfl
/-- the blame's answers -/
def blR (x : Bl) (j : Nat) : Int32 := match j with
  | 0 => if x.1 = 0 then -1 else if x.2.1 = -1 then nI 0 else if x.2.2 = -1 then nI 1 else nI 2
  | 1 => x.1
  | 2 => x.2.1
  | _ => x.2.2
def blX1 (fit : Int32 → Int32 → Bool) : Bl := blA (fit (-1) (-1)) (-1) (-1) (0, -1, -1)
def blX2 (can : Nat → Bool) (fit : Int32 → Int32 → Bool) : Bl := if (blX1 fit).1 = 0 then sgF can fit 30 (blX1 fit) else blX1 fit
def blX (can : Nat → Bool) (fit : Int32 → Int32 → Bool) : Bl := if (blX2 can fit).1 = 0 then ouF can fit 30 30 (blX2 can fit) else blX2 can fit
theorem blM_1 {μ : MI} {x : Bl} (h : blM μ = x) : μ 32 0 = x.1 ∧ μ 32 1 = x.2.1 ∧ μ 32 2 = x.2.2 := by
  subst h
  exact ⟨rfl, rfl, rfl⟩
theorem c_blamed (what : Int32) {c μ : MI} {ν : ML} {P : Po} (hC : WC c) (hc : CX c μ) (ho : ¬ (nI 0 ≤ what ∧ what ≤ nI 3) → P (some (.int (-1002))) μ ν) (ha : ∀ j μ', what = nI j → j < 4 → Sc μ μ' → P (some (.int (blR (blX (canF (N (c 2 0)) (N (c 7 0))) (fitX c μ ν)) j))) μ' ν) : Ct mX9_blamed 6 [.ref 0, .int what] μ ν P := by
  refine Ct.of (ls0 := [_, _]) (by decide) rfl (Nat.le_of_ble_eq_true rfl) rfl ?_
  have fin : ∀ (μ4 : MI) (j : Nat), what = nI j → j < 4 → Sc μ μ4 → blM μ4 = blX (canF (N (c 2 0)) (N (c 7 0))) (fitX c μ ν) → AW mX9_blamed (6, none) P 54 [some (.ref 0), some (.int what)] [] μ4 ν := by
    intro μ4 j hj hj4 hS hB
    obtain ⟨e1, e2, e3⟩ := blM_1 hB
    have h9 := ha j μ4 hj hj4 hS
    refine A_iload_n dX9_blamed_54 rfl ?_
    rcases sw_of (what) (n := 3) (by decide) with ⟨k55, hk55, hs55⟩ | hs55
    · rcases (show k55 = 0 ∨ k55 = 1 ∨ k55 = 2 by omega) with rfl | rfl | rfl
      · rw [hs55]
        refine A_tableIn (off := 25) (tgt := 80) dX9_blamed_55 (by decide +kernel) (by decide +kernel) (by decide +kernel) (by decide) ?_
        refine A_aload_n dX9_blamed_80 rfl ?_
        refine A_getR dX9_blamed_81 flX9_48 rfl rfl ?_
        refine A_callV0 dX9_blamed_84 mlX9_218 (by decide) rfl rfl (Nat.le_of_ble_eq_true rfl) (c_faultsInEach ?_)
        refine Kn.s ?_
        refine A_iret dX9_blamed_87 rfl rfl ?_
        have ej : j = 0 := (nI_inj (by omega) (by omega)).mp (hj.symm.trans hs55)
        subst ej
        rw [e1, e2, e3]
        exact h9
      · rw [hs55]
        refine A_tableIn (off := 33) (tgt := 88) dX9_blamed_55 (by decide +kernel) (by decide +kernel) (by decide +kernel) (by decide) ?_
        refine A_aload_n dX9_blamed_88 rfl ?_
        refine A_getR dX9_blamed_89 flX9_48 rfl rfl ?_
        refine A_getI dX9_blamed_92 flX9_211 rfl rfl ?_
        refine A_iret dX9_blamed_95 rfl rfl ?_
        have ej : j = 1 := (nI_inj (by omega) (by omega)).mp (hj.symm.trans hs55)
        subst ej
        rw [e1]
        exact h9
      · rw [hs55]
        refine A_tableIn (off := 41) (tgt := 96) dX9_blamed_55 (by decide +kernel) (by decide +kernel) (by decide +kernel) (by decide) ?_
        refine A_aload_n dX9_blamed_96 rfl ?_
        refine A_getR dX9_blamed_97 flX9_48 rfl rfl ?_
        refine A_getI dX9_blamed_100 flX9_221 rfl rfl ?_
        refine A_iret dX9_blamed_103 rfl rfl ?_
        have ej : j = 2 := (nI_inj (by omega) (by omega)).mp (hj.symm.trans hs55)
        subst ej
        rw [e2]
        exact h9
    · refine A_tableOut (tgt := 104) dX9_blamed_55 hs55 (by decide) ?_
      refine A_aload_n dX9_blamed_104 rfl ?_
      refine A_getR dX9_blamed_105 flX9_48 rfl rfl ?_
      refine A_getI dX9_blamed_108 flX9_224 rfl rfl ?_
      refine A_iret dX9_blamed_111 rfl rfl ?_
      have ej : j = 3 := by
        rw [hj, nI_toInt (by omega)] at hs55
        omega
      subst ej
      rw [e3]
      exact h9
  have mid : ∀ (μ3 : MI) (j : Nat), what = nI j → j < 4 → Sc μ μ3 → blM μ3 = blX2 (canF (N (c 2 0)) (N (c 7 0))) (fitX c μ ν) → AW mX9_blamed (6, none) P 40 [some (.ref 0), some (.int what)] [] μ3 ν := by
    intro μ3 j hj hj4 hS hB
    obtain ⟨e1, e2, e3⟩ := blM_1 hB
    refine A_aload_n dX9_blamed_40 rfl ?_
    refine A_getR dX9_blamed_41 flX9_48 rfl rfl ?_
    refine A_getI dX9_blamed_44 flX9_211 rfl rfl ?_
    rw [e1]
    refine A_if_ne (tgt := 54) dX9_blamed_47 (by decide) (fun b47 => ?_) (fun b47 => ?_)
    · exact fin μ3 j hj hj4 hS (by rw [hB]; unfold blX; rw [if_neg b47])
    · refine A_aload_n dX9_blamed_50 rfl ?_
      refine A_callV0 dX9_blamed_51 mlX9_215 (by decide) rfl rfl (Nat.le_of_ble_eq_true rfl) (c_tryPairs hC (hS.cx hc) (fun μ4 h1 h2 => ?_))
      refine Kn.v ?_
      refine fin μ4 j hj hj4 (hS.tr h1) ?_
      rw [h2, hB, show fitX c μ3 ν = fitX c μ ν from funext (fun f => funext (fun g => fitX_sc hS ν f g))]
      unfold blX
      rw [if_pos b47]
  refine A_iload_n dX9_blamed_0 rfl ?_
  refine A_iconst (v := nI 0) dX9_blamed_1 (by decide +kernel) ?_
  refine A_iconst (v := nI 3) dX9_blamed_2 (by decide +kernel) ?_
  refine A_callS3 dX9_blamed_3 mlX9_52 (by decide) (Nat.le_of_ble_eq_true rfl) (c_within _ _ _ (fun g1 g2 => ?_) (fun g3 => ?_))
  · refine Kn.s ?_
    refine A_if_ne (tgt := 13) dX9_blamed_6 (by decide) (fun _ => ?_) (fun h => absurd h (by decide +kernel))
    refine A_aload_n dX9_blamed_13 rfl ?_
    refine A_getR dX9_blamed_14 flX9_48 rfl rfl ?_
    refine A_callV0 dX9_blamed_17 mlX9_206 (by decide) rfl rfl (Nat.le_of_ble_eq_true rfl) (c_blForget (fun μ1 h1 h2 => ?_))
    refine Kn.v ?_
    refine A_aload_n dX9_blamed_20 rfl ?_
    refine A_iconst (v := (-1)) dX9_blamed_21 (by decide +kernel) ?_
    refine A_iconst (v := (-1)) dX9_blamed_22 (by decide +kernel) ?_
    refine A_callV2 dX9_blamed_23 mlX9_207 (by decide) rfl rfl (Nat.le_of_ble_eq_true rfl) (c_tryFaults _ _ hC ((Sc.bl h2).cx hc) (fun μ2 h3 h4 => ?_))
    refine Kn.v ?_
    have hS2 := (Sc.bl h2).tr h3
    have hB2 : blM μ2 = blX1 (fitX c μ ν) := by rw [h4, h1, fitX_sc (Sc.bl h2)]; rfl
    obtain ⟨e1, e2, e3⟩ := blM_1 hB2
    obtain ⟨j, hj, ej⟩ := nI_of2 (M := nI 3) (n := 3) rfl (i_le_n g1) g2
    refine A_aload_n dX9_blamed_26 rfl ?_
    refine A_getR dX9_blamed_27 flX9_48 rfl rfl ?_
    refine A_getI dX9_blamed_30 flX9_211 rfl rfl ?_
    rw [e1]
    refine A_if_ne (tgt := 40) dX9_blamed_33 (by decide) (fun b33 => ?_) (fun b33 => ?_)
    · exact mid μ2 j ej (by omega) hS2 (by rw [hB2]; unfold blX2; rw [if_neg b33])
    · refine A_aload_n dX9_blamed_36 rfl ?_
      refine A_callV0 dX9_blamed_37 mlX9_212 (by decide) rfl rfl (Nat.le_of_ble_eq_true rfl) (c_trySingles hC (hS2.cx hc) (fun μ3 h5 h6 => ?_))
      refine Kn.v ?_
      refine mid μ3 j ej (by omega) (hS2.tr h5) ?_
      rw [h6, hB2, show fitX c μ2 ν = fitX c μ ν from funext (fun f => funext (fun g => fitX_sc hS2 ν f g))]
      unfold blX2
      rw [if_pos b33]
  · refine Kn.s ?_
    refine A_if_ne (tgt := 13) dX9_blamed_6 (by decide) (fun h => absurd h (by decide +kernel)) (fun _ => ?_)
    refine A_sipush (v := (-1002)) dX9_blamed_9 (by decide +kernel) ?_
    refine A_iret dX9_blamed_12 rfl rfl ?_
    exact ho g3
