/-! the reference's runs -/
theorem m_begin {g : Nat} {μ : MI} {ν : ML} {P : Po} (hg : g = 0 ∨ g = 1) (hP : ∀ μ', RA g 0 0 S0 μ' → Mr g μ μ' → P none μ' ν) : Ct mX10_begin 0 [.ref 75, .int (nI g)] μ ν P := by
  refine Ct.of (ls0 := [_, _, _]) (by decide) rfl (Nat.le_of_ble_eq_true rfl) rfl ?_
  have loop2 : ∀ (n i : Nat) (μ1 : MI), 168 - i < n → i ≤ 168 → (∀ b, b < 8 → μ1 89 (8 * g + b) = 0 ∧ μ1 90 (8 * g + b) = -1) → (∀ k, k < i → μ1 91 (168 * g + k) = 0) → Mr g μ μ1 → AW mX10_begin (0, none) P 40 [some (.ref 75), some (.int (nI g)), some (.int (nI i))] [] μ1 ν := by
    intro n
    induction n with
    | zero => intro i μ1 h; omega
    | succ n ih =>
      intro i μ1 hn hi h1 h2 hM
      refine A_iload_n dX10_begin_40 rfl ?_
      refine A_sipush (v := nI 168) dX10_begin_41 (by decide +kernel) ?_
      refine A_icmp_geN (tgt := 66) dX10_begin_44 (by decide) (by omega) (by omega) (fun b44 => ?_) (fun b44 => ?_)
      · refine A_vret dX10_begin_66 rfl ?_
        refine hP μ1 ⟨fun b hb => (h1 b hb).1, fun b hb => ?_, fun b hb j hj => ?_⟩ hM
        · rw [(h1 b hb).2, if_neg (by omega)]
          exact ⟨⟨fun _ => by decide +kernel, fun q => absurd q (Nat.lt_irrefl 0)⟩, Nat.zero_le _⟩
        · have h3 := h2 (21 * b + (0 + j) % 21) (by have := Nat.mod_lt (0 + j) (show 0 < 21 by omega); omega)
          rw [show 21 * (8 * g + b) + (0 + j) % 21 = 168 * g + (21 * b + (0 + j) % 21) by omega]
          exact h3
      · refine A_aload_n dX10_begin_47 rfl ?_
        refine A_getR dX10_begin_48 flX10_55 rfl rfl ?_
        refine A_sipush (v := nI 168) dX10_begin_51 (by decide +kernel) ?_
        refine A_iload_n dX10_begin_54 rfl ?_
        refine A_imulN dX10_begin_55 ?_
        refine A_iload_n dX10_begin_56 rfl ?_
        refine A_iaddN dX10_begin_57 ?_
        refine A_iconst (v := nI 0) dX10_begin_58 (by decide +kernel) ?_
        refine A_iastN (j := 168 * g + i) dX10_begin_59 rfl rfl (by omega) (by decide) ?_
        refine A_iincN (ls1 := [_, _, _]) dX10_begin_60 rfl (by decide) rfl rfl ?_
        refine A_goto (tgt := 40) dX10_begin_63 (by decide) ?_
        refine ih (i + 1) _ (by omega) (by omega) (fun b hb => ?_) (fun k hk => ?_) (hM.tr (fun a j q1 q2 q3 => up2_ne _ _ (by omega)))
        · rw [up2_a _ _ (by omega), up2_a _ _ (by omega)]
          exact h1 b hb
        · by_cases e : k = i
          · subst e
            exact up2_s _ _ _ _
          · rw [up2_b _ _ (by omega)]
            exact h2 k (by omega)
  have loop1 : ∀ (n i : Nat) (μ1 : MI), 8 - i < n → i ≤ 8 → (∀ b, b < i → μ1 89 (8 * g + b) = 0 ∧ μ1 90 (8 * g + b) = -1) → Mr g μ μ1 → AW mX10_begin (0, none) P 2 [some (.ref 75), some (.int (nI g)), some (.int (nI i))] [] μ1 ν := by
    intro n
    induction n with
    | zero => intro i μ1 h; omega
    | succ n ih =>
      intro i μ1 hn hi h1 hM
      refine A_iload_n dX10_begin_2 rfl ?_
      refine A_bipush (v := nI 8) dX10_begin_3 (by decide +kernel) ?_
      refine A_icmp_geN (tgt := 38) dX10_begin_5 (by decide) (by omega) (by omega) (fun b5 => ?_) (fun b5 => ?_)
      · refine A_iconst (v := nI 0) dX10_begin_38 (by decide +kernel) ?_
        refine A_istore_n (ls1 := [_, _, _]) dX10_begin_39 (by decide) rfl rfl ?_
        exact loop2 169 0 μ1 (by omega) (by omega) (fun b hb => h1 b (by omega)) (fun k hk => by omega) hM
      · refine A_aload_n dX10_begin_8 rfl ?_
        refine A_getR dX10_begin_9 flX10_49 rfl rfl ?_
        refine A_bipush (v := nI 8) dX10_begin_12 (by decide +kernel) ?_
        refine A_iload_n dX10_begin_14 rfl ?_
        refine A_imulN dX10_begin_15 ?_
        refine A_iload_n dX10_begin_16 rfl ?_
        refine A_iaddN dX10_begin_17 ?_
        refine A_iconst (v := nI 0) dX10_begin_18 (by decide +kernel) ?_
        refine A_iastN (j := 8 * g + i) dX10_begin_19 rfl rfl (by omega) (by decide) ?_
        refine A_aload_n dX10_begin_20 rfl ?_
        refine A_getR dX10_begin_21 flX10_52 rfl rfl ?_
        refine A_bipush (v := nI 8) dX10_begin_24 (by decide +kernel) ?_
        refine A_iload_n dX10_begin_26 rfl ?_
        refine A_imulN dX10_begin_27 ?_
        refine A_iload_n dX10_begin_28 rfl ?_
        refine A_iaddN dX10_begin_29 ?_
        refine A_iconst (v := (-1)) dX10_begin_30 (by decide +kernel) ?_
        refine A_iastN (j := 8 * g + i) dX10_begin_31 rfl rfl (by omega) (by decide) ?_
        refine A_iincN (ls1 := [_, _, _]) dX10_begin_32 rfl (by decide) rfl rfl ?_
        refine A_goto (tgt := 2) dX10_begin_35 (by decide) ?_
        refine ih (i + 1) _ (by omega) (by omega) (fun b hb => ?_) ((hM.tr (fun a j q1 q2 q3 => up2_ne _ _ (by omega))).tr (fun a j q1 q2 q3 => up2_ne _ _ (by omega)))
        by_cases e : b = i
        · subst e
          exact ⟨by rw [up2_a _ _ (by omega), up2_s]; rfl, up2_s _ _ _ _⟩
        · rw [up2_a _ _ (by omega), up2_b _ _ (by omega), up2_b _ _ (by omega), up2_a _ _ (by omega)]
          exact h1 b (by omega)
  refine A_iconst (v := nI 0) dX10_begin_0 (by decide +kernel) ?_
  refine A_istore_n (ls1 := [_, _, _]) dX10_begin_1 (by decide) rfl rfl ?_
  exact loop1 9 0 μ (by omega) (by omega) (fun b hb => by omega) Mr.rf
/-- a run's start in the second garden -/
theorem RM.one {t k : Nat} {S : St} {μ : MI} (h : RA 1 t k S μ) : RM 1 t k S μ := ⟨h, fun q => by omega⟩
/-- no faults, no turns -/
def B0 (μ : MI) : Prop := (∀ s, s < 4 → μ 94 s = 0) ∧ μ 75 28 = -1 ∧ μ 75 29 = -1
theorem nI_ne1 {f : Nat} (h : f < 100) : ¬ (-1 : Int32) = nI f := fun q => nI_nm1 (x := f) (by omega) q.symm
theorem B0.f {μ : MI} (h : B0 μ) {f : Nat} (hf : f < 100) : fauB μ f = false := by
  unfold fauB
  rw [h.2.1, h.2.2, decide_eq_false (nI_ne1 hf)]
  rfl
theorem B0.tm {μ : MI} (h : B0 μ) (p : Int32) : TM 1 (tw0 p) μ := by
  refine ⟨fun s hs => ⟨?_, ?_⟩, fun b hb => ⟨?_, ?_⟩⟩
  · rw [if_pos rfl, h.1 s hs]; rfl
  · rw [h.f (by omega)]; rfl
  · rw [h.f (by omega)]; rfl
  · rw [h.f (by omega)]; rfl
theorem TM.g0 (p : Int32) (μ : MI) : TM 0 (tw0 p) μ := ⟨fun s hs => ⟨rfl, rfl⟩, fun b hb => ⟨rfl, rfl⟩⟩
theorem kb_bit {c tw : MI} {b i : Nat} (hb : b < N (c 2 0)) (hb8 : N (c 2 0) ≤ 8) : ((nI (bitsN (setP c tw i (runP c tw i)) (N (c 2 0))) >>> (nI b &&& 31)) &&& nI 1) = nI (bN (kb c tw b i)) := by
  rw [sshr_bit _ hb8 (by omega)]
  unfold bN kb
  congr 1
  by_cases h : setP c tw i (runP c tw i) b = true
  · rw [if_pos ⟨hb, h⟩, if_pos h]
  · rw [if_neg (fun z => h z.2), if_neg h]
theorem bN_1 {b : Bool} (h : bN b = 1) : b = true := by
  cases b with
  | false => exact absurd h (by decide)
  | true => rfl
theorem bitsN_s {K : Nat → Bool} (n : Nat) : bitsN K n + bN (K n) * 2 ^ n = bitsN K (n + 1) := by
  rw [bitsN]
  unfold bN
  cases K n with
  | true => simp
  | false => simp
/-- the reference's rows of a run -/
def RW (c tw : MI) (ν : ML) : Prop := ∀ b, b < N (c 2 0) → ν 95 b = lN (bitsN (fun t => kb c tw b t) 60)
def Sv (ν ν' : ML) : Prop := ∀ a j, a ≠ 95 → ν' a j = ν a j
theorem Sv.rf {ν : ML} : Sv ν ν := fun _ _ _ => rfl
theorem Sv.tr {ν ν' ν'' : ML} (h : Sv ν ν') (h2 : Sv ν' ν'') : Sv ν ν'' := fun a j q => (h2 a j q).trans (h a j q)
theorem Sv.up {ν : ML} {j : Nat} {v : Int64} : Sv ν (up2 ν 95 j v) := fun a i q => up2_a _ _ q
theorem m_run (p : Int32) {c tw μ : MI} {ν : ML} {P : Po} (hC : WC c) (hc : CM c μ) (hT : TM 1 tw μ) (hp : tw 0 0 = p) (hP : ∀ μ' ν', RW c tw ν' → Mr 1 μ μ' → Sv ν ν' → P none μ' ν') : Ct mX10_run 4 [.ref 75, .int (nI 60), .int p] μ ν P := by
  refine Ct.of (ls0 := [_, _, _, _, _, _]) (by decide) rfl (Nat.le_of_ble_eq_true rfl) rfl ?_
  have hnb := hC.1.1
  have hnb2 := hnb.2
  have inner : ∀ (i : Nat) (μ1 : MI), i < 60 → CM c μ1 → (∀ ν1, (∀ b, b < N (c 2 0) → ν1 95 b = lN (bitsN (fun t => kb c tw b t) (i + 1))) → Sv ν ν1 → AW mX10_run (4, none) P 28 [some (.ref 75), some (.int (nI 60)), some (.int p), some (.int (nI (i + 1))), none, none] [] μ1 ν1) → ∀ (n j : Nat) (ν1 : ML), N (c 2 0) - j < n → j ≤ N (c 2 0) → (∀ b, b < N (c 2 0) → ν1 95 b = lN (bitsN (fun t => kb c tw b t) (if b < j then i + 1 else i))) → Sv ν ν1 → AW mX10_run (4, none) P 45 [some (.ref 75), some (.int (nI 60)), some (.int p), some (.int (nI i)), some (.int (nI (bitsN (setP c tw i (runP c tw i)) (N (c 2 0))))), some (.int (nI j))] [] μ1 ν1 := by
    intro i μ1 hi60 hc1 hex n
    induction n with
    | zero => intro j ν1 h; omega
    | succ n ih =>
      intro j ν1 hn hj h1 hS
      have hb0 : μ1 75 0 = nI (N (c 2 0)) := hc1.1.1.trans hnb.1
      refine A_iload dX10_run_45 rfl ?_
      refine A_aload_n dX10_run_47 rfl ?_
      refine A_getI dX10_run_48 flX10_92 rfl rfl ?_
      rw [hb0]
      refine A_icmp_geN (tgt := 86) dX10_run_51 (by decide) (by omega) (by omega) (fun b51 => ?_) (fun b51 => ?_)
      · refine A_iinc (ls1 := [_, _, _, _, _, _]) dX10_run_86 rfl rfl (by decide) rfl rfl ?_
        refine A_goto (tgt := 28) dX10_run_89 (by decide) ?_
        rw [show nI i + Int32.ofInt 1 = nI (i + 1) from by rw [show Int32.ofInt 1 = (1 : Int32) by decide +kernel]; exact nI_1 i]
        refine A_weak (hex ν1 (fun b hb => ?_) hS) (by repeat first | exact fw_0 | refine fw_s ?_ | refine fw_n ?_)
        rw [h1 b hb, if_pos (by omega)]
      · refine A_iload_n dX10_run_54 rfl ?_
        refine A_bipush (v := nI 60) dX10_run_55 (by decide +kernel) ?_
        refine A_icmp_geN (tgt := 86) dX10_run_57 (by decide) (by omega) (by omega) (fun b57 => ?_) (fun b57 => ?_)
        · omega
        · refine A_aload_n dX10_run_60 rfl ?_
          refine A_getR dX10_run_61 flX10_74 rfl rfl ?_
          refine A_iload dX10_run_64 rfl ?_
          refine A_dup2 dX10_run_66 rfl rfl ?_
          refine A_laldN (j := j) dX10_run_67 rfl rfl (by omega) (by decide) ?_
          have h1j := h1 j b51
          rw [if_neg (by omega)] at h1j
          rw [h1j]
          refine A_iload dX10_run_68 rfl ?_
          refine A_iload dX10_run_70 rfl ?_
          refine A_ishr dX10_run_72 ?_
          refine A_iconst (v := nI 1) dX10_run_73 (by decide +kernel) ?_
          refine A_iand dX10_run_74 ?_
          rw [kb_bit b51 hnb2]
          have h01 := bN_le (kb c tw j i)
          have hl1 := bitsN_lt (fun t => kb c tw j t) i
          refine A_i2l dX10_run_75 ?_
          rw [nI_l (by omega)]
          refine A_iload_n dX10_run_76 rfl ?_
          refine A_lshl dX10_run_77 ?_
          refine A_lor dX10_run_78 ?_
          rw [lN_or_bit hi60 hl1 h01, show bitsN (fun t => kb c tw j t) i + bN (kb c tw j i) * 2 ^ i = bitsN (fun t => kb c tw j t) (i + 1) from bitsN_s (K := fun t => kb c tw j t) i]
          refine A_lastN (j := j) dX10_run_79 rfl rfl (by omega) (by decide) ?_
          refine A_iincN (ls1 := [_, _, _, _, _, _]) dX10_run_80 rfl (by decide) rfl rfl ?_
          refine A_goto (tgt := 45) dX10_run_83 (by decide) ?_
          refine ih (j + 1) _ (by omega) (by omega) (fun b hb => ?_) (hS.tr Sv.up)
          by_cases e : b = j
          · subst e
            rw [up2_s, if_pos (by omega)]
          · rw [up2_b _ _ e, h1 b hb]
            by_cases q : b < j
            · rw [if_pos q, if_pos (by omega)]
            · rw [if_neg q, if_neg (by omega)]
  have loop : ∀ (n i : Nat) (μ1 : MI) (ν1 : ML), 60 - i < n → i ≤ 60 → RM 1 i 0 (runP c tw i) μ1 → Mr 1 μ μ1 → (∀ b, b < N (c 2 0) → ν1 95 b = lN (bitsN (fun t => kb c tw b t) i)) → Sv ν ν1 → AW mX10_run (4, none) P 28 [some (.ref 75), some (.int (nI 60)), some (.int p), some (.int (nI i)), none, none] [] μ1 ν1 := by
    intro n
    induction n with
    | zero => intro i μ1 ν1 h; omega
    | succ n ih =>
      intro i μ1 ν1 hn hi hR hM h1 hS
      refine A_iload_n dX10_run_28 rfl ?_
      refine A_iload_n dX10_run_29 rfl ?_
      refine A_icmp_geN (tgt := 92) dX10_run_30 (by decide) (by omega) (by omega) (fun b30 => ?_) (fun b30 => ?_)
      · refine A_vret dX10_run_92 rfl ?_
        rw [show i = 60 by omega] at h1
        exact hP μ1 ν1 h1 hM hS
      · refine A_aload_n dX10_run_33 rfl ?_
        refine A_iconst (v := nI 1) dX10_run_34 (by decide +kernel) ?_
        refine A_iload_n dX10_run_35 rfl ?_
        refine A_iload_n dX10_run_36 rfl ?_
        refine A_callV3 dX10_run_37 mlX10_173 (by decide) rfl rfl (Nat.le_of_ble_eq_true rfl) (m_step (g := 1) p (Or.inr rfl) (by omega) hC (hc.mr hM) (hT.mr hM) hp hR (GC_run hC i) (GD_run i) (fun μ2 q1 q2 => ?_))
        refine Kn.s ?_
        refine A_istore (ls1 := [_, _, _, _, _, _]) dX10_run_40 (by decide) rfl rfl ?_
        refine A_iconst (v := nI 0) dX10_run_42 (by decide +kernel) ?_
        refine A_istore (ls1 := [_, _, _, _, _, _]) dX10_run_43 (by decide) rfl rfl ?_
        refine inner i μ2 b30 (hc.mr (hM.tr q2)) (fun ν2 k1 k2 => ih (i + 1) μ2 ν2 (by omega) (by omega) q1 (hM.tr q2) k1 k2) (N (c 2 0) + 1) 0 ν1 (by omega) (by omega) (fun b hb => ?_) hS
        rw [if_neg (by omega)]
        exact h1 b hb
  have loop0 : ∀ (n i : Nat) (μ1 : MI) (ν1 : ML), 8 - i < n → i ≤ 8 → RM 1 0 0 S0 μ1 → Mr 1 μ μ1 → (∀ b, b < i → ν1 95 b = lN 0) → Sv ν ν1 → AW mX10_run (4, none) P 7 [some (.ref 75), some (.int (nI 60)), some (.int p), some (.int (nI i)), none, none] [] μ1 ν1 := by
    intro n
    induction n with
    | zero => intro i μ1 ν1 h; omega
    | succ n ih =>
      intro i μ1 ν1 hn hi hR hM h1 hS
      refine A_iload_n dX10_run_7 rfl ?_
      refine A_bipush (v := nI 8) dX10_run_8 (by decide +kernel) ?_
      refine A_icmp_geN (tgt := 26) dX10_run_10 (by decide) (by omega) (by omega) (fun b10 => ?_) (fun b10 => ?_)
      · refine A_iconst (v := nI 0) dX10_run_26 (by decide +kernel) ?_
        refine A_istore_n (ls1 := [_, _, _, _, _, _]) dX10_run_27 (by decide) rfl rfl ?_
        exact loop 61 0 μ1 ν1 (by omega) (by omega) hR hM (fun b hb => h1 b (by omega)) hS
      · refine A_aload_n dX10_run_13 rfl ?_
        refine A_getR dX10_run_14 flX10_74 rfl rfl ?_
        refine A_iload_n dX10_run_17 rfl ?_
        refine A_lconst (v := 0) dX10_run_18 rfl ?_
        refine A_lastN (j := i) dX10_run_19 rfl rfl (by omega) (by decide) ?_
        refine A_iincN (ls1 := [_, _, _, _, _, _]) dX10_run_20 rfl (by decide) rfl rfl ?_
        refine A_goto (tgt := 7) dX10_run_23 (by decide) ?_
        refine ih (i + 1) μ1 _ (by omega) (by omega) hR hM (fun b hb => ?_) (hS.tr Sv.up)
        by_cases e : b = i
        · subst e
          rw [up2_s]
          rfl
        · rw [up2_b _ _ e]
          exact h1 b (by omega)
  refine A_aload_n dX10_run_0 rfl ?_
  refine A_iconst (v := nI 1) dX10_run_1 (by decide +kernel) ?_
  refine A_callV1 dX10_run_2 mlX10_177 (by decide) rfl rfl (Nat.le_of_ble_eq_true rfl) (m_begin (g := 1) (Or.inr rfl) (fun μ1 q1 q2 => ?_))
  refine Kn.v ?_
  refine A_iconst (v := nI 0) dX10_run_5 (by decide +kernel) ?_
  refine A_istore_n (ls1 := [_, _, _, _, _, _]) dX10_run_6 (by decide) rfl rfl ?_
  exact loop0 9 0 μ1 ν (by omega) (by omega) (RM.one q1) q2 (fun b hb => by omega) Sv.rf
theorem m_row (b p : Int32) {m : Nat} {c μ : MI} {ν : ML} {P : Po} (hC : WC c) (hc : CM c μ) (hB : B0 μ) (hm : c 2 0 = nI m) (hm8 : m ≤ 8) (hu : ¬ inR b m → P (some (.long (-1001))) μ ν) (ha : ∀ k μ' ν', b = nI k → k < m → Mr 1 μ μ' → Sv ν ν' → P (some (.long (lN (bitsN (fun t => kb c (tw0 p) k t) 60)))) μ' ν') : Ct mX10_row 5 [.ref 75, .int b, .int p] μ ν P := by
  refine Ct.of (ls0 := [_, _, _]) (by decide) rfl (Nat.le_of_ble_eq_true rfl) rfl ?_
  have hN : N (c 2 0) = m := by rw [hm]; exact N_nI (by omega)
  refine A_aload_n dX10_row_0 rfl ?_
  refine A_iload_n dX10_row_1 rfl ?_
  refine A_callV1 dX10_row_2 mlX10_106 (by decide) rfl rfl (Nat.le_of_ble_eq_true rfl) (m_noBucket _ (hc.1.1.trans hm) hm8 (fun g1 => ?_) (fun g1 => ?_))
  · refine Kn.s ?_
    refine A_if_eq (tgt := 12) dX10_row_5 (by decide) (fun _ => ?_) (fun h => absurd h (by decide +kernel))
    refine A_aload_n dX10_row_12 rfl ?_
    refine A_bipush (v := nI 60) dX10_row_13 (by decide +kernel) ?_
    refine A_iload_n dX10_row_15 rfl ?_
    refine A_callV2 dX10_row_16 mlX10_183 (by decide) rfl rfl (Nat.le_of_ble_eq_true rfl) (m_run (tw := tw0 p) p hC hc (hB.tm p) rfl (fun μ1 ν1 q1 q2 q3 => ?_))
    refine Kn.v ?_
    obtain ⟨k, rfl, hk⟩ := id g1
    refine A_aload_n dX10_row_19 rfl ?_
    refine A_getR dX10_row_20 flX10_74 rfl rfl ?_
    refine A_iload_n dX10_row_23 rfl ?_
    refine A_laldN (j := k) dX10_row_24 rfl rfl (by omega) (by decide) ?_
    refine A_lret dX10_row_25 rfl ?_
    rw [q1 k (by omega)]
    exact ha k μ1 ν1 rfl hk q2 q3
  · refine Kn.s ?_
    refine A_if_eq (tgt := 12) dX10_row_5 (by decide) (fun h => absurd h (by decide +kernel)) (fun _ => ?_)
    refine A_ldc2 dX10_row_8 kcX10_181 ?_
    refine A_lret dX10_row_11 rfl ?_
    exact hu g1
theorem m_meeting (b d : Int32) {m : Nat} {c μ : MI} {ν : ML} {P : Po} (hC : WC c) (hc : CM c μ) (hB : B0 μ) (hm : c 2 0 = nI m) (hm8 : m ≤ 8) (hu : (¬ inR b m ∨ ¬ inR d m) → P (some (.int (-1001))) μ ν) (hn : inR b m → inR d m → b = d → P (some (.int (-1003))) μ ν) (h1 : ∀ i j t μ', b = nI i → i < m → d = nI j → j < m → ¬ b = d → t < 1000 → (kb c plP i t = true ∧ kb c plP j t = true) → (∀ u, u < t → ¬ (kb c plP i u = true ∧ kb c plP j u = true)) → Mr 1 μ μ' → P (some (.int (nI t))) μ' ν) (h0 : ∀ i j μ', b = nI i → i < m → d = nI j → j < m → ¬ b = d → (∀ u, u < 1000 → ¬ (kb c plP i u = true ∧ kb c plP j u = true)) → Mr 1 μ μ' → P (some (.int (-1))) μ' ν) : Ct mX10_meeting 5 [.ref 75, .int b, .int d] μ ν P := by
  refine Ct.of (ls0 := [_, _, _, _, _]) (by decide) rfl (Nat.le_of_ble_eq_true rfl) rfl ?_
  have hN : N (c 2 0) = m := by rw [hm]; exact N_nI (by omega)
  have loop : ∀ (k j : Nat), b = nI k → k < m → d = nI j → j < m → ¬ b = d → ∀ (q i : Nat) (μ1 : MI), 1000 - i < q → i ≤ 1000 → Mr 1 μ μ1 → RM 1 i 0 (runP c plP i) μ1 → (∀ u, u < i → ¬ (kb c plP k u = true ∧ kb c plP j u = true)) → AW mX10_meeting (5, none) P 36 [some (.ref 75), some (.int (nI k)), some (.int (nI j)), some (.int (nI i)), none] [] μ1 ν := by
    intro k j hk hk2 hj hj2 hne q
    induction q with
    | zero => intro i μ1 h; omega
    | succ q ih =>
      intro i μ1 hq hi hM hR hg
      have next : ∀ μ2, i < 1000 → RM 1 (i + 1) 0 (runP c plP (i + 1)) μ2 → Mr 1 μ1 μ2 → ¬ (kb c plP k i = true ∧ kb c plP j i = true) → _ := fun μ2 h z1 z2 z3 => ih (i + 1) μ2 (by omega) (by omega) (hM.tr z2) z1 (fun u hu => by
        by_cases e : u = i
        · subst e; exact z3
        · exact hg u (by omega))
      refine A_iload_n dX10_meeting_36 rfl ?_
      refine A_sipush (v := nI 1000) dX10_meeting_37 (by decide +kernel) ?_
      refine A_icmp_geN (tgt := 80) dX10_meeting_40 (by decide) (by omega) (by omega) (fun b40 => ?_) (fun b40 => ?_)
      · refine A_iconst (v := (-1)) dX10_meeting_80 (by decide +kernel) ?_
        refine A_iret dX10_meeting_81 rfl rfl ?_
        rw [show i = 1000 by omega] at hg
        exact h0 k j μ1 hk hk2 hj hj2 hne hg hM
      · refine A_aload_n dX10_meeting_43 rfl ?_
        refine A_iconst (v := nI 1) dX10_meeting_44 (by decide +kernel) ?_
        refine A_iload_n dX10_meeting_45 rfl ?_
        refine A_iconst (v := nI 1) dX10_meeting_46 (by decide +kernel) ?_
        refine A_callV3 dX10_meeting_47 mlX10_173 (by decide) rfl rfl (Nat.le_of_ble_eq_true rfl) (m_step (g := 1) (nI 1) (Or.inr rfl) (by omega) hC (hc.mr hM) ((hB.tm (nI 1)).mr hM) rfl hR (GC_run hC i) (GD_run i) (fun μ2 q1 q2 => ?_))
        refine Kn.s ?_
        refine A_istore (ls1 := [_, _, _, _, _]) dX10_meeting_50 (by decide) rfl rfl ?_
        refine A_iload dX10_meeting_52 rfl ?_
        refine A_iload_n dX10_meeting_54 rfl ?_
        refine A_ishr dX10_meeting_55 ?_
        refine A_iconst (v := nI 1) dX10_meeting_56 (by decide +kernel) ?_
        refine A_iand dX10_meeting_57 ?_
        rw [kb_bit (by omega) (by omega)]
        refine A_iconst (v := nI 1) dX10_meeting_58 (by decide +kernel) ?_
        refine A_icmp_neN (tgt := 74) dX10_meeting_59 (by decide) (Nat.lt_of_le_of_lt (bN_le _) (by decide)) (by omega) (fun b59 => ?_) (fun b59 => ?_)
        · refine A_iincN (ls1 := [_, _, _, _, _]) dX10_meeting_74 rfl (by decide) rfl rfl ?_
          refine A_goto (tgt := 36) dX10_meeting_77 (by decide) ?_
          exact A_weak (next μ2 b40 q1 q2 (fun z => b59 (by rw [z.1]; rfl))) (by repeat first | exact fw_0 | refine fw_s ?_ | refine fw_n ?_)
        · refine A_iload dX10_meeting_62 rfl ?_
          refine A_iload_n dX10_meeting_64 rfl ?_
          refine A_ishr dX10_meeting_65 ?_
          refine A_iconst (v := nI 1) dX10_meeting_66 (by decide +kernel) ?_
          refine A_iand dX10_meeting_67 ?_
          rw [kb_bit (by omega) (by omega)]
          refine A_iconst (v := nI 1) dX10_meeting_68 (by decide +kernel) ?_
          refine A_icmp_neN (tgt := 74) dX10_meeting_69 (by decide) (Nat.lt_of_le_of_lt (bN_le _) (by decide)) (by omega) (fun b69 => ?_) (fun b69 => ?_)
          · refine A_iincN (ls1 := [_, _, _, _, _]) dX10_meeting_74 rfl (by decide) rfl rfl ?_
            refine A_goto (tgt := 36) dX10_meeting_77 (by decide) ?_
            exact A_weak (next μ2 b40 q1 q2 (fun z => b69 (by rw [z.2]; rfl))) (by repeat first | exact fw_0 | refine fw_s ?_ | refine fw_n ?_)
          · refine A_iload_n dX10_meeting_72 rfl ?_
            refine A_iret dX10_meeting_73 rfl rfl ?_
            exact h1 k j i μ2 hk hk2 hj hj2 hne b40 ⟨bN_1 b59, bN_1 b69⟩ hg (hM.tr q2)
  refine A_aload_n dX10_meeting_0 rfl ?_
  refine A_iload_n dX10_meeting_1 rfl ?_
  refine A_callV1 dX10_meeting_2 mlX10_106 (by decide) rfl rfl (Nat.le_of_ble_eq_true rfl) (m_noBucket _ (hc.1.1.trans hm) hm8 (fun g1 => ?_) (fun g1 => ?_))
  · refine Kn.s ?_
    refine A_if_ne (tgt := 16) dX10_meeting_5 (by decide) (fun h => absurd h (by decide +kernel)) (fun _ => ?_)
    refine A_aload_n dX10_meeting_8 rfl ?_
    refine A_iload_n dX10_meeting_9 rfl ?_
    refine A_callV1 dX10_meeting_10 mlX10_106 (by decide) rfl rfl (Nat.le_of_ble_eq_true rfl) (m_noBucket _ (hc.1.1.trans hm) hm8 (fun g2 => ?_) (fun g2 => ?_))
    · refine Kn.s ?_
      refine A_if_eq (tgt := 20) dX10_meeting_13 (by decide) (fun _ => ?_) (fun h => absurd h (by decide +kernel))
      refine A_iload_n dX10_meeting_20 rfl ?_
      refine A_iload_n dX10_meeting_21 rfl ?_
      refine A_icmp_ne (tgt := 29) dX10_meeting_22 (by decide) (fun b22 => ?_) (fun b22 => ?_)
      · refine A_aload_n dX10_meeting_29 rfl ?_
        refine A_iconst (v := nI 1) dX10_meeting_30 (by decide +kernel) ?_
        refine A_callV1 dX10_meeting_31 mlX10_177 (by decide) rfl rfl (Nat.le_of_ble_eq_true rfl) (m_begin (g := 1) (Or.inr rfl) (fun μ1 q1 q2 => ?_))
        refine Kn.v ?_
        refine A_iconst (v := nI 0) dX10_meeting_34 (by decide +kernel) ?_
        refine A_istore_n (ls1 := [_, _, _, _, _]) dX10_meeting_35 (by decide) rfl rfl ?_
        obtain ⟨k, hk, hk2⟩ := g1
        obtain ⟨j, hj, hj2⟩ := g2
        have h9 := loop k j hk hk2 hj hj2 b22 1001 0 μ1 (by omega) (by omega) q2 (RM.one q1) (fun u hu => by omega)
        rw [← hk, ← hj] at h9
        exact h9
      · refine A_sipush (v := (-1003)) dX10_meeting_25 (by decide +kernel) ?_
        refine A_iret dX10_meeting_28 rfl rfl ?_
        exact hn g1 g2 b22
    · refine Kn.s ?_
      refine A_if_eq (tgt := 20) dX10_meeting_13 (by decide) (fun h => absurd h (by decide +kernel)) (fun _ => ?_)
      refine A_sipush (v := (-1001)) dX10_meeting_16 (by decide +kernel) ?_
      refine A_iret dX10_meeting_19 rfl rfl ?_
      exact hu (Or.inr g2)
  · refine Kn.s ?_
    refine A_if_ne (tgt := 16) dX10_meeting_5 (by decide) (fun _ => ?_) (fun h => absurd h (by decide +kernel))
    refine A_sipush (v := (-1001)) dX10_meeting_16 (by decide +kernel) ?_
    refine A_iret dX10_meeting_19 rfl rfl ?_
    exact hu (Or.inl g1)
/-- how often a bucket knocks in a run -/
theorem m_knocksOf {b T : Nat} (hT : T ≤ 200) {c tw μ : MI} {ν : ML} {P : Po} (hC : WC c) (hc : CM c μ) (hTw : TM 1 tw μ) (hp : tw 0 0 = nI 0) (hb : b < N (c 2 0)) (hP : ∀ μ', Mr 1 μ μ' → P (some (.int (nI (cntB (fun t => kb c tw b t) T)))) μ' ν) : Ct mX10_knocksOf 4 [.ref 75, .int (nI b), .int (nI T)] μ ν P := by
  refine Ct.of (ls0 := [_, _, _, _, _]) (by decide) rfl (Nat.le_of_ble_eq_true rfl) rfl ?_
  have hnb2 := hC.1.1.2
  have loop : ∀ (q i : Nat) (μ1 : MI), T - i < q → i ≤ T → Mr 1 μ μ1 → RM 1 i 0 (runP c tw i) μ1 → AW mX10_knocksOf (4, none) P 10 [some (.ref 75), some (.int (nI b)), some (.int (nI T)), some (.int (nI (cntB (fun t => kb c tw b t) i))), some (.int (nI i))] [] μ1 ν := by
    intro q
    induction q with
    | zero => intro i μ1 h; omega
    | succ q ih =>
      intro i μ1 hq hi hM hR
      refine A_iload dX10_knocksOf_10 rfl ?_
      refine A_iload_n dX10_knocksOf_12 rfl ?_
      refine A_icmp_geN (tgt := 37) dX10_knocksOf_13 (by decide) (by omega) (by omega) (fun b13 => ?_) (fun b13 => ?_)
      · refine A_iload_n dX10_knocksOf_37 rfl ?_
        refine A_iret dX10_knocksOf_38 rfl rfl ?_
        rw [show i = T by omega]
        exact hP μ1 hM
      · refine A_iload_n dX10_knocksOf_16 rfl ?_
        refine A_aload_n dX10_knocksOf_17 rfl ?_
        refine A_iconst (v := nI 1) dX10_knocksOf_18 (by decide +kernel) ?_
        refine A_iload dX10_knocksOf_19 rfl ?_
        refine A_iconst (v := nI 0) dX10_knocksOf_21 (by decide +kernel) ?_
        refine A_callV3 dX10_knocksOf_22 mlX10_173 (by decide) rfl rfl (Nat.le_of_ble_eq_true rfl) (m_step (g := 1) (nI 0) (Or.inr rfl) (by omega) hC (hc.mr hM) (hTw.mr hM) hp hR (GC_run hC i) (GD_run i) (fun μ2 q1 q2 => ?_))
        refine Kn.s ?_
        refine A_iload_n dX10_knocksOf_25 rfl ?_
        refine A_ishr dX10_knocksOf_26 ?_
        refine A_iconst (v := nI 1) dX10_knocksOf_27 (by decide +kernel) ?_
        refine A_iand dX10_knocksOf_28 ?_
        rw [kb_bit hb hnb2]
        refine A_iaddN dX10_knocksOf_29 ?_
        refine A_istore_n (ls1 := [_, _, _, _, _]) dX10_knocksOf_30 (by decide) rfl rfl ?_
        refine A_iincN (ls1 := [_, _, _, _, _]) dX10_knocksOf_31 rfl (by decide) rfl rfl ?_
        refine A_goto (tgt := 10) dX10_knocksOf_34 (by decide) ?_
        exact ih (i + 1) μ2 (by omega) (by omega) (hM.tr q2) q1
  refine A_iconst (v := nI 0) dX10_knocksOf_0 (by decide +kernel) ?_
  refine A_istore_n (ls1 := [_, _, _, _, _]) dX10_knocksOf_1 (by decide) rfl rfl ?_
  refine A_aload_n dX10_knocksOf_2 rfl ?_
  refine A_iconst (v := nI 1) dX10_knocksOf_3 (by decide +kernel) ?_
  refine A_callV1 dX10_knocksOf_4 mlX10_177 (by decide) rfl rfl (Nat.le_of_ble_eq_true rfl) (m_begin (g := 1) (Or.inr rfl) (fun μ1 q1 q2 => ?_))
  refine Kn.v ?_
  refine A_iconst (v := nI 0) dX10_knocksOf_7 (by decide +kernel) ?_
  refine A_istore (ls1 := [_, _, _, _, _]) dX10_knocksOf_8 (by decide) rfl rfl ?_
  exact loop (T + 1) 0 μ1 (by omega) (by omega) q2 (RM.one q1)
