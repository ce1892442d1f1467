/-! whom the reference blames -/
theorem m_isFaulty {k nb ns : Nat} (hk : k < 28) {μ : MI} {ν : ML} {P : Po} (hb : μ 75 0 = nI nb) (hb8 : nb ≤ 8) (hs : μ 75 5 = nI ns) (hs4 : ns ≤ 4) (h1 : canF nb ns k = true → P (some (.int (nI 1))) μ ν) (h0 : canF nb ns k = false → P (some (.int (nI 0))) μ ν) : Ct mX10_isFaulty 0 [.ref 75, .int (nI k)] μ ν P := by
  refine Ct.of (ls0 := [_, _]) (by decide) rfl (Nat.le_of_ble_eq_true rfl) rfl ?_
  have e10 : ¬ k < 10 → canF nb ns k = decide (k % 10 < nb) := by
    intro h
    unfold canF
    rw [if_neg h]
    by_cases q : k < 20
    · rw [if_pos q, show k - 10 = k % 10 by omega]
    · rw [if_neg q, show k - 20 = k % 10 by omega]
  refine A_iload_n dX10_isFaulty_0 rfl ?_
  refine A_bipush (v := nI 10) dX10_isFaulty_1 (by decide +kernel) ?_
  refine A_icmp_geN (tgt := 22) dX10_isFaulty_3 (by decide) (by omega) (by omega) (fun b3 => ?_) (fun b3 => ?_)
  · refine A_iload_n dX10_isFaulty_22 rfl ?_
    refine A_bipush (v := nI 10) dX10_isFaulty_23 (by decide +kernel) ?_
    refine A_iremN dX10_isFaulty_25 (by omega) (by omega) (by omega) ?_
    refine A_aload_n dX10_isFaulty_26 rfl ?_
    refine A_getI dX10_isFaulty_27 flX10_92 rfl rfl ?_
    rw [hb]
    refine A_icmp_geN (tgt := 37) dX10_isFaulty_30 (by decide) (by omega) (by omega) (fun b30 => ?_) (fun b30 => ?_)
    · refine A_iconst (v := nI 0) dX10_isFaulty_37 (by decide +kernel) ?_
      refine A_iret dX10_isFaulty_38 rfl (by decide +kernel) ?_
      exact h0 (by rw [e10 (by omega)]; exact decide_eq_false (by omega))
    · refine A_iconst (v := nI 1) dX10_isFaulty_33 (by decide +kernel) ?_
      refine A_goto (tgt := 38) dX10_isFaulty_34 (by decide) ?_
      refine A_iret dX10_isFaulty_38 rfl (by decide +kernel) ?_
      exact h1 (by rw [e10 (by omega)]; exact decide_eq_true b30)
  · refine A_iload_n dX10_isFaulty_6 rfl ?_
    refine A_aload_n dX10_isFaulty_7 rfl ?_
    refine A_getI dX10_isFaulty_8 flX10_99 rfl rfl ?_
    rw [hs]
    refine A_icmp_geN (tgt := 18) dX10_isFaulty_11 (by decide) (by omega) (by omega) (fun b11 => ?_) (fun b11 => ?_)
    · refine A_iconst (v := nI 0) dX10_isFaulty_18 (by decide +kernel) ?_
      refine A_goto (tgt := 38) dX10_isFaulty_19 (by decide) ?_
      refine A_iret dX10_isFaulty_38 rfl (by decide +kernel) ?_
      exact h0 (by unfold canF; rw [if_pos b3]; exact decide_eq_false (by omega))
    · refine A_iconst (v := nI 1) dX10_isFaulty_14 (by decide +kernel) ?_
      refine A_goto (tgt := 38) dX10_isFaulty_15 (by decide) ?_
      refine A_iret dX10_isFaulty_38 rfl (by decide +kernel) ?_
      exact h1 (by unfold canF; rw [if_pos b3]; exact decide_eq_true b11)
def hitM (c μ : MI) (ν : ML) (f g : Int32) (b : Nat) : Bool := decide (μ 97 b = 0) || decide (lN (bitsN (fun t => kb c (twF f g) b t) 60) = ν 98 b)
/-- whether all that was heard is so with two faults, as the reference sees it -/
def fitM (c μ : MI) (ν : ML) (f g : Int32) : Bool := allB (hitM c μ ν f g) (N (c 2 0))
theorem fitM_mr {c μ μ' : MI} {ν ν' : ML} (h : Mr 1 μ μ') (hS : Sv ν ν') : fitM c μ' ν' = fitM c μ ν := by
  funext f g
  unfold fitM hitM
  refine allB_cong (fun b _ => ?_)
  rw [h.far (by omega), hS _ _ (by omega)]
theorem twF_tm {c μ : MI} (hB : B0 μ) (f g : Int32) : TM 1 (twF f g) (up2 (up2 μ 75 28 f) 75 29 g) := by
  have e : ∀ k, fauB (up2 (up2 μ 75 28 f) 75 29 g) k = (decide (f = nI k) || decide (g = nI k)) := by
    intro k
    unfold fauB
    rw [up2_s, up2_b _ _ (by omega), up2_s]
  have d : ∀ k, decide ((if f = nI k ∨ g = nI k then (1 : Int32) else 0) ≠ 0) = (decide (f = nI k) || decide (g = nI k)) := by
    intro k
    by_cases h1 : f = nI k
    · rw [if_pos (Or.inl h1), decide_eq_true h1]
      rfl
    · by_cases h2 : g = nI k
      · rw [if_pos (Or.inr h2), decide_eq_true h2, Bool.or_true]
        rfl
      · rw [if_neg (fun q => q.elim h1 h2), decide_eq_false h1, decide_eq_false h2]
        rfl
  refine ⟨fun s hs => ⟨?_, ?_⟩, fun b hb => ⟨?_, ?_⟩⟩
  · rw [if_pos rfl, up2_a _ _ (by omega), up2_a _ _ (by omega), hB.1 s hs]
    rfl
  · rw [e]
    exact d s
  · rw [e, Nat.add_comm]
    exact d (b + 10)
  · rw [e, Nat.add_comm]
    exact d (b + 20)
theorem CM.up {c μ : MI} {a j : Nat} {v : Int32} (hc : CM c μ) (h : (a = 75 ∧ (18 ≤ j ∧ j ≠ 0)) ∨ 89 ≤ a) : CM c (up2 μ a j v) := by
  have m : ∀ i, i < 18 → up2 μ a j v 75 i = μ 75 i := fun i hi => up2_ne _ _ (by omega)
  have f : ∀ b i, 76 ≤ b → b ≤ 88 → up2 μ a j v b i = μ b i := fun b i h1 h2 => up2_ne _ _ (by omega)
  refine ⟨⟨?_, ?_, ?_, ?_, ?_⟩, fun b hb => ?_, fun s hs => ?_, fun k hk => ?_, fun k hk => ?_⟩
  · rw [m _ (by omega)]; exact hc.1.1
  · rw [m _ (by omega)]; exact hc.1.2.1
  · rw [m _ (by omega)]; exact hc.1.2.2.1
  · rw [m _ (by omega)]; exact hc.1.2.2.2.1
  · rw [m _ (by omega)]; exact hc.1.2.2.2.2
  · rw [f _ _ (by omega) (by omega), f _ _ (by omega) (by omega), f _ _ (by omega) (by omega), f _ _ (by omega) (by omega)]; exact hc.2.1 b hb
  · rw [f _ _ (by omega) (by omega), f _ _ (by omega) (by omega), f _ _ (by omega) (by omega), f _ _ (by omega) (by omega)]; exact hc.2.2.1 s hs
  · rw [f _ _ (by omega) (by omega), f _ _ (by omega) (by omega), f _ _ (by omega) (by omega)]; exact hc.2.2.2.1 k hk
  · rw [f _ _ (by omega) (by omega), f _ _ (by omega) (by omega)]; exact hc.2.2.2.2 k hk
theorem m_fits (f g : Int32) {c μ : MI} {ν : ML} {P : Po} (hC : WC c) (hc : CM c μ) (hB : B0 μ) (h1 : ∀ μ' ν', fitM c μ ν f g = true → Mr 1 μ μ' → Sv ν ν' → P (some (.int (nI 1))) μ' ν') (h0 : ∀ μ' ν', fitM c μ ν f g = false → Mr 1 μ μ' → Sv ν ν' → P (some (.int (nI 0))) μ' ν') : Ct mX10_fits 5 [.ref 75, .int f, .int g] μ ν P := by
  refine Ct.of (ls0 := [_, _, _, _, _]) (by decide) rfl (Nat.le_of_ble_eq_true rfl) rfl ?_
  have hnb := hC.1.1
  have hnb2 := hnb.2
  have loop : ∀ (μ1 : MI) (ν1 : ML), CM c μ1 → Mr 1 μ μ1 → Sv ν ν1 → RW c (twF f g) ν1 → ∀ (q i : Nat), N (c 2 0) - i < q → i ≤ N (c 2 0) → AW mX10_fits (5, none) P 32 [some (.ref 75), some (.int f), some (.int g), some (.int (nI (bN (allB (hitM c μ ν f g) i)))), some (.int (nI i))] [] μ1 ν1 := by
    intro μ1 ν1 hc1 hM hS hW q
    induction q with
    | zero => intro i h; omega
    | succ q ih =>
      intro i hq hi
      have hb0 : μ1 75 0 = nI (N (c 2 0)) := hc1.1.1.trans hnb.1
      have ih1 : i < N (c 2 0) → _ := fun h => ih (i + 1) (by omega) (by omega)
      rw [allB] at ih1
      refine A_iload dX10_fits_32 rfl ?_
      refine A_aload_n dX10_fits_34 rfl ?_
      refine A_getI dX10_fits_35 flX10_92 rfl rfl ?_
      rw [hb0]
      refine A_icmp_geN (tgt := 85) dX10_fits_38 (by decide) (by omega) (by omega) (fun b38 => ?_) (fun b38 => ?_)
      · refine A_iload_n dX10_fits_85 rfl ?_
        refine A_iret dX10_fits_86 rfl (bN_nar _) ?_
        rw [show i = N (c 2 0) by omega]
        cases hh : fitM c μ ν f g with
        | true => rw [show allB (hitM c μ ν f g) (N (c 2 0)) = true from hh]; exact h1 μ1 ν1 hh hM hS
        | false => rw [show allB (hitM c μ ν f g) (N (c 2 0)) = false from hh]; exact h0 μ1 ν1 hh hM hS
      · have ih1 := ih1 b38
        have e97 := hM.far (a := 97) (by omega) i
        have e98 := hS 98 i (by omega)
        refine A_iload_n dX10_fits_41 rfl ?_
        refine A_if_eq (tgt := 77) dX10_fits_42 (by decide) (fun b42 => ?_) (fun b42 => ?_)
        · refine A_iconst (v := nI 0) dX10_fits_77 (by decide +kernel) ?_
          refine A_istore_n (ls1 := [_, _, _, _, _]) dX10_fits_78 (by decide) rfl rfl ?_
          refine A_iincN (ls1 := [_, _, _, _, _]) dX10_fits_79 rfl (by decide) rfl rfl ?_
          refine A_goto (tgt := 32) dX10_fits_82 (by decide) ?_
          rw [bN_eq b42, Bool.false_and] at ih1
          exact ih1
        · refine A_aload_n dX10_fits_45 rfl ?_
          refine A_getR dX10_fits_46 flX10_82 rfl rfl ?_
          refine A_iload dX10_fits_49 rfl ?_
          refine A_zaldN (j := i) dX10_fits_51 rfl rfl (by omega) (by decide) ?_
          rw [e97]
          refine A_if_eq (tgt := 73) dX10_fits_52 (by decide) (fun b52 => ?_) (fun b52 => ?_)
          · refine A_iconst (v := nI 1) dX10_fits_73 (by decide +kernel) ?_
            refine A_goto (tgt := 78) dX10_fits_74 (by decide) ?_
            refine A_istore_n (ls1 := [_, _, _, _, _]) dX10_fits_78 (by decide) rfl rfl ?_
            refine A_iincN (ls1 := [_, _, _, _, _]) dX10_fits_79 rfl (by decide) rfl rfl ?_
            refine A_goto (tgt := 32) dX10_fits_82 (by decide) ?_
            rw [bN_ne b42, Bool.true_and, show hitM c μ ν f g i = true by unfold hitM; rw [decide_eq_true b52]; rfl] at ih1
            exact ih1
          · refine A_aload_n dX10_fits_55 rfl ?_
            refine A_getR dX10_fits_56 flX10_74 rfl rfl ?_
            refine A_iload dX10_fits_59 rfl ?_
            refine A_laldN (j := i) dX10_fits_61 rfl rfl (by omega) (by decide) ?_
            rw [hW i b38]
            refine A_aload_n dX10_fits_62 rfl ?_
            refine A_getR dX10_fits_63 flX10_86 rfl rfl ?_
            refine A_iload dX10_fits_66 rfl ?_
            refine A_laldN (j := i) dX10_fits_68 rfl rfl (by omega) (by decide) ?_
            rw [e98]
            refine A_lcmp dX10_fits_69 ?_
            refine A_if_ne (tgt := 77) dX10_fits_70 (by decide) (fun b70 => ?_) (fun b70 => ?_)
            · refine A_iconst (v := nI 0) dX10_fits_77 (by decide +kernel) ?_
              refine A_istore_n (ls1 := [_, _, _, _, _]) dX10_fits_78 (by decide) rfl rfl ?_
              refine A_iincN (ls1 := [_, _, _, _, _]) dX10_fits_79 rfl (by decide) rfl rfl ?_
              refine A_goto (tgt := 32) dX10_fits_82 (by decide) ?_
              rw [bN_ne b42, Bool.true_and, show hitM c μ ν f g i = false by unfold hitM; rw [decide_eq_false b52, decide_eq_false (fun q => b70 ((lg_cmp_eq _ _).mpr q))]; rfl] at ih1
              exact ih1
            · refine A_iconst (v := nI 1) dX10_fits_73 (by decide +kernel) ?_
              refine A_goto (tgt := 78) dX10_fits_74 (by decide) ?_
              refine A_istore_n (ls1 := [_, _, _, _, _]) dX10_fits_78 (by decide) rfl rfl ?_
              refine A_iincN (ls1 := [_, _, _, _, _]) dX10_fits_79 rfl (by decide) rfl rfl ?_
              refine A_goto (tgt := 32) dX10_fits_82 (by decide) ?_
              rw [bN_ne b42, Bool.true_and, show hitM c μ ν f g i = true by unfold hitM; rw [decide_eq_true ((lg_cmp_eq _ _).mp b70), Bool.or_true]] at ih1
              exact ih1
  refine A_aload_n dX10_fits_0 rfl ?_
  refine A_iload_n dX10_fits_1 rfl ?_
  refine A_put dX10_fits_2 fpX10_64 rfl rfl rfl rfl ?_
  refine A_aload_n dX10_fits_5 rfl ?_
  refine A_iload_n dX10_fits_6 rfl ?_
  refine A_put dX10_fits_7 fpX10_68 rfl rfl rfl rfl ?_
  refine A_aload_n dX10_fits_10 rfl ?_
  refine A_bipush (v := nI 60) dX10_fits_11 (by decide +kernel) ?_
  refine A_iconst (v := nI 0) dX10_fits_13 (by decide +kernel) ?_
  refine A_callV2 dX10_fits_14 mlX10_183 (by decide) rfl rfl (Nat.le_of_ble_eq_true rfl) (m_run (tw := twF f g) (nI 0) hC ((hc.up (Or.inl ⟨rfl, by omega⟩)).up (Or.inl ⟨rfl, by omega⟩)) (twF_tm (c := c) hB f g) rfl (fun μ1 ν1 q1 q2 q3 => ?_))
  refine Kn.v ?_
  refine A_aload_n dX10_fits_17 rfl ?_
  refine A_iconst (v := (-1)) dX10_fits_18 (by decide +kernel) ?_
  refine A_put dX10_fits_19 fpX10_64 rfl rfl rfl rfl ?_
  refine A_aload_n dX10_fits_22 rfl ?_
  refine A_iconst (v := (-1)) dX10_fits_23 (by decide +kernel) ?_
  refine A_put dX10_fits_24 fpX10_68 rfl rfl rfl rfl ?_
  refine A_iconst (v := nI 1) dX10_fits_27 (by decide +kernel) ?_
  refine A_istore_n (ls1 := [_, _, _, _, _]) dX10_fits_28 (by decide) rfl rfl ?_
  refine A_iconst (v := nI 0) dX10_fits_29 (by decide +kernel) ?_
  refine A_istore (ls1 := [_, _, _, _, _]) dX10_fits_30 (by decide) rfl rfl ?_
  refine loop _ _ (((((hc.up (Or.inl ⟨rfl, by omega⟩)).up (Or.inl ⟨rfl, by omega⟩)).mr q2).up (Or.inl ⟨rfl, by omega⟩)).up (Or.inl ⟨rfl, by omega⟩)) (fun a j k1 k2 k3 => ?_) q3 q1 (N (c 2 0) + 1) 0 (by omega) (by omega)
  have e := q2 a j k1 k2 k3
  by_cases h29 : a = 75 ∧ j = 29
  · rw [h29.1, h29.2, up2_s, hB.2.2]
  · rw [up2_ne _ _ h29]
    by_cases h28 : a = 75 ∧ j = 28
    · rw [h28.1, h28.2, up2_s, hB.2.1]
    · rw [up2_ne _ _ h28, e, up2_ne _ _ h29, up2_ne _ _ h28]
theorem canF_28 {nb ns : Nat} (h : nb ≤ 8) : canF nb ns 28 = false ∧ canF nb ns 29 = false := by
  unfold canF
  rw [if_neg (by omega), if_neg (by omega), if_neg (by omega), if_neg (by omega)]
  exact ⟨decide_eq_false (by omega), decide_eq_false (by omega)⟩
theorem sgF_28 {can : Nat → Bool} {fit : Int32 → Int32 → Bool} (h : can 28 = false ∧ can 29 = false) (x : Bl) : sgF can fit 30 x = sgF can fit 28 x := by
  have e29 : sgF can fit 30 x = sgF can fit 29 x := by
    show (if can 29 then _ else _) = _
    rw [h.2]
    rfl
  have e28 : sgF can fit 29 x = sgF can fit 28 x := by
    show (if can 28 then _ else _) = _
    rw [h.1]
    rfl
  rw [e29, e28]
theorem inF_no {can : Nat → Bool} {fit : Int32 → Int32 → Bool} {i : Nat} (h : can i = false) (x : Bl) : ∀ n, inF can fit i n x = x
  | 0 => rfl
  | n + 1 => by
    rw [inF, h, Bool.false_and, if_neg (by decide)]
    exact inF_no h x n
theorem inF_29 {can : Nat → Bool} {fit : Int32 → Int32 → Bool} (h : can 29 = false) {i : Nat} (hi : i < 28) (x : Bl) : inF can fit i (30 - 1 - i) x = inF can fit i (28 - i) x := by
  rw [show 30 - 1 - i = 28 - i + 1 by omega, inF, show i + 1 + (28 - i) = 29 by omega, h, Bool.and_false, if_neg (by decide)]
theorem ouF_28 {can : Nat → Bool} {fit : Int32 → Int32 → Bool} (h : can 28 = false ∧ can 29 = false) (x : Bl) : ouF can fit 30 30 x = ouF can fit 30 28 x := by
  have e29 : ouF can fit 30 30 x = ouF can fit 30 29 x := inF_no h.2 _ _
  have e28 : ouF can fit 30 29 x = ouF can fit 30 28 x := inF_no h.1 _ _
  rw [e29, e28]
/-- how many so far, and who -/
def J1 (k : Nat) (x : Bl) : Prop := ∃ m, m ≤ k ∧ x.1 = nI m ∧ (m = 0 → x.2.1 = -1 ∧ x.2.2 = -1) ∧ (0 < m → (∃ f, f < 30 ∧ x.2.1 = nI f) ∧ x.2.2 = -1)
def J2 (k : Nat) (x : Bl) : Prop := ∃ m, m ≤ k ∧ x.1 = nI m ∧ (m = 0 → x.2.1 = -1 ∧ x.2.2 = -1) ∧ (0 < m → (∃ f, f < 30 ∧ x.2.1 = nI f) ∧ ∃ g, g < 30 ∧ x.2.2 = nI g)
theorem J1_add {k f : Nat} {x : Bl} (b : Bool) (h : J1 k x) (hk : k < 10000) (hf : f < 30) : J1 (k + 1) (blA b (nI f) (-1) x) := by
  obtain ⟨m, h1, h2, h3, h4⟩ := h
  unfold blA
  cases b with
  | false => exact ⟨m, by omega, h2, h3, h4⟩
  | true =>
    rw [if_pos rfl]
    by_cases hm : m = 0
    · rw [if_pos (by rw [h2, hm]; rfl)]
      exact ⟨m + 1, by omega, by rw [h2]; exact nI_1 m, fun q => by omega, fun _ => ⟨⟨f, hf, rfl⟩, rfl⟩⟩
    · rw [if_neg (by rw [h2]; exact nI_ne0 (by omega) (by omega))]
      exact ⟨m + 1, by omega, by rw [h2]; exact nI_1 m, fun q => by omega, fun _ => h4 (by omega)⟩
theorem J2_add {k f g : Nat} {x : Bl} (b : Bool) (h : J2 k x) (hk : k < 10000) (hf : f < 30) (hg : g < 30) : J2 (k + 1) (blA b (nI f) (nI g) x) := by
  obtain ⟨m, h1, h2, h3, h4⟩ := h
  unfold blA
  cases b with
  | false => exact ⟨m, by omega, h2, h3, h4⟩
  | true =>
    rw [if_pos rfl]
    by_cases hm : m = 0
    · rw [if_pos (by rw [h2, hm]; rfl)]
      exact ⟨m + 1, by omega, by rw [h2]; exact nI_1 m, fun q => by omega, fun _ => ⟨⟨f, hf, rfl⟩, ⟨g, hg, rfl⟩⟩⟩
    · rw [if_neg (by rw [h2]; exact nI_ne0 (by omega) (by omega))]
      exact ⟨m + 1, by omega, by rw [h2]; exact nI_1 m, fun q => by omega, fun _ => h4 (by omega)⟩
theorem J1.le {k k' : Nat} {x : Bl} (h : J1 k x) (hk : k ≤ k') : J1 k' x := by
  obtain ⟨m, h1, h2⟩ := h
  exact ⟨m, by omega, h2⟩
theorem J2.le {k k' : Nat} {x : Bl} (h : J2 k x) (hk : k ≤ k') : J2 k' x := by
  obtain ⟨m, h1, h2⟩ := h
  exact ⟨m, by omega, h2⟩
theorem J1_R {k : Nat} {x : Bl} (h : J1 k x) (hk : k < 10000) (hn : ¬ x.1 = 0) : blR x 0 = nI 1 := by
  obtain ⟨m, h1, h2, h3, h4⟩ := h
  have hm : 0 < m := Nat.pos_of_ne_zero (fun q => hn (by rw [h2, q]; rfl))
  obtain ⟨⟨f, hf, hf2⟩, h5⟩ := h4 hm
  show (if x.1 = 0 then -1 else if x.2.1 = -1 then nI 0 else if x.2.2 = -1 then nI 1 else nI 2) = nI 1
  rw [if_neg hn, hf2, if_neg (nI_nm1 (by omega)), if_pos h5]
theorem J2_R {k : Nat} {x : Bl} (h : J2 k x) (hk : k < 10000) (hn : ¬ x.1 = 0) : blR x 0 = nI 2 := by
  obtain ⟨m, h1, h2, h3, h4⟩ := h
  have hm : 0 < m := Nat.pos_of_ne_zero (fun q => hn (by rw [h2, q]; rfl))
  obtain ⟨⟨f, hf, hf2⟩, ⟨g, hg, hg2⟩⟩ := h4 hm
  show (if x.1 = 0 then -1 else if x.2.1 = -1 then nI 0 else if x.2.2 = -1 then nI 1 else nI 2) = nI 2
  rw [if_neg hn, hf2, if_neg (nI_nm1 (by omega)), hg2, if_neg (nI_nm1 (by omega))]
theorem J1_2 {k : Nat} {x : Bl} (h : J1 k x) (hk : k < 10000) (h0 : x.1 = 0) : J2 0 x := by
  obtain ⟨m, h1, h2, h3, h4⟩ := h
  have hm : m = 0 := by
    rcases Nat.eq_zero_or_pos m with q | q
    · exact q
    · exact absurd (h2.symm.trans h0) (nI_ne0 q (by omega))
  subst hm
  exact ⟨0, Nat.le_refl _, h2, h3, fun q => absurd q (Nat.lt_irrefl 0)⟩
theorem blA_t {f g : Int32} {x : Bl} (h : x.1 = 0) : blA true f g x = (x.1 + 1, f, g) := by
  unfold blA
  rw [if_pos rfl, if_pos h]
theorem blA_n {f g : Int32} {x : Bl} (h : ¬ x.1 = 0) : blA true f g x = (x.1 + 1, x.2.1, x.2.2) := by
  unfold blA
  rw [if_pos rfl, if_neg h]
theorem blA_f {f g : Int32} {x : Bl} : blA false f g x = x := rfl
theorem i_inc (x : Int32) : x + Int32.ofInt 1 = x + 1 := by rw [show Int32.ofInt 1 = (1 : Int32) by decide +kernel]
theorem m_blamed (what : Int32) {c μ : MI} {ν : ML} {P : Po} (hC : WC c) (hc : CM c μ) (hB : B0 μ) (ho : ¬ (nI 0 ≤ what ∧ what ≤ nI 3) → P (some (.int (-1002))) μ ν) (ha : ∀ j μ' ν', what = nI j → j < 4 → Mr 1 μ μ' → Sv ν ν' → P (some (.int (blR (blX (canF (N (c 2 0)) (N (c 7 0))) (fitM c μ ν)) j))) μ' ν') : Ct mX10_blamed 6 [.ref 75, .int what] μ ν P := by
  refine Ct.of (ls0 := [_, _, _, _, _, _, _, _, _]) (by decide) rfl (Nat.le_of_ble_eq_true rfl) rfl ?_
  have hnb := hC.1.1
  have hns := hC.2.1.1
  have h28 := canF_28 (ns := N (c 7 0)) hnb.2
  have fin : ∀ (μ1 : MI) (ν1 : ML) (x : Bl) (D j : Nat), what = nI j → j < 4 → Mr 1 μ μ1 → Sv ν ν1 → blX (canF (N (c 2 0)) (N (c 7 0))) (fitM c μ ν) = x → (¬ x.1 = 0 → blR x 0 = nI D) → AW mX10_blamed (6, none) P 213 [some (.ref 75), some (.int (nI j)), some (.int x.1), some (.int x.2.1), some (.int x.2.2), some (.int (nI D)), none, none, none] [] μ1 ν1 := by
    intro μ1 ν1 x D j hw hj hM hS hx hD
    have h9 := ha j μ1 ν1 hw hj hM hS
    rw [hx] at h9
    refine A_iload_n dX10_blamed_213 rfl ?_
    refine A_if_ne (tgt := 230) dX10_blamed_214 (by decide) (fun b214 => ?_) (fun b214 => ?_)
    · refine A_iload_n dX10_blamed_230 rfl ?_
      refine A_iconst (v := nI 1) dX10_blamed_231 (by decide +kernel) ?_
      refine A_icmp_neN (tgt := 239) dX10_blamed_232 (by decide) (by omega) (by omega) (fun b232 => ?_) (fun b232 => ?_)
      · refine A_iload_n dX10_blamed_239 rfl ?_
        refine A_iconst (v := nI 2) dX10_blamed_240 (by decide +kernel) ?_
        refine A_icmp_neN (tgt := 248) dX10_blamed_241 (by decide) (by omega) (by omega) (fun b241 => ?_) (fun b241 => ?_)
        · refine A_iload dX10_blamed_248 rfl ?_
          refine A_iret dX10_blamed_250 rfl rfl ?_
          have ej : j = 3 := by
            have h1 : ¬ j = 0 := fun q => b214 (by rw [q]; rfl)
            omega
          subst ej
          exact h9
        · refine A_iload_n dX10_blamed_244 rfl ?_
          refine A_goto (tgt := 250) dX10_blamed_245 (by decide) ?_
          refine A_iret dX10_blamed_250 rfl rfl ?_
          have ej : j = 2 := by omega
          subst ej
          exact h9
      · refine A_iload_n dX10_blamed_235 rfl ?_
        refine A_goto (tgt := 250) dX10_blamed_236 (by decide) ?_
        refine A_iret dX10_blamed_250 rfl rfl ?_
        have ej : j = 1 := by omega
        subst ej
        exact h9
    · refine A_iload_n dX10_blamed_217 rfl ?_
      refine A_if_ne (tgt := 225) dX10_blamed_218 (by decide) (fun b218 => ?_) (fun b218 => ?_)
      · refine A_iload dX10_blamed_225 rfl ?_
        refine A_goto (tgt := 250) dX10_blamed_227 (by decide) ?_
        refine A_iret dX10_blamed_250 rfl rfl ?_
        have ej : j = 0 := (nI_inj (by omega) (by omega)).mp b214
        subst ej
        rw [hD b218] at h9
        exact h9
      · refine A_iconst (v := (-1)) dX10_blamed_221 (by decide +kernel) ?_
        refine A_goto (tgt := 250) dX10_blamed_222 (by decide) ?_
        refine A_iret dX10_blamed_250 rfl rfl ?_
        have ej : j = 0 := (nI_inj (by omega) (by omega)).mp b214
        subst ej
        rw [show blR x 0 = -1 from if_pos b218] at h9
        exact h9
  have main : ∀ (j : Nat), what = nI j → j < 4 → ∀ (μ0 : MI) (ν0 : ML), Mr 1 μ μ0 → Sv ν ν0 → fitM c μ ν (-1) (-1) = false → AW mX10_blamed (6, none) P 44 [some (.ref 75), some (.int (nI j)), none, none, none, none, none, none, none] [] μ0 ν0 := by
    intro j hw hj μ0 ν0 hM0 hS0 hf0
    have hX1 : blX1 (fitM c μ ν) = (0, -1, -1) := by unfold blX1; rw [hf0]; rfl
    have pairs : ∀ (y : Bl) (i : Nat), i < 28 → (∀ (μ2 : MI) (ν2 : ML) (z : Bl), Mr 1 μ μ2 → Sv ν ν2 → z = inF (canF (N (c 2 0)) (N (c 7 0))) (fitM c μ ν) i (28 - i) y → J2 (30 * (i + 1)) z → AW mX10_blamed (6, none) P 70 [some (.ref 75), some (.int (nI j)), some (.int z.1), some (.int z.2.1), some (.int z.2.2), some (.int (nI 2)), some (.int (nI (i + 1))), none, none] [] μ2 ν2) → ∀ (q k : Nat) (μ1 : MI) (ν1 : ML) (x : Bl), 28 - i - k < q → i + 1 + k ≤ 29 → Mr 1 μ μ1 → Sv ν ν1 → x = inF (canF (N (c 2 0)) (N (c 7 0))) (fitM c μ ν) i k y → J2 (30 * i + k) x → AW mX10_blamed (6, none) P 94 [some (.ref 75), some (.int (nI j)), some (.int x.1), some (.int x.2.1), some (.int x.2.2), some (.int (nI 2)), some (.int (nI i)), some (.int (nI (i + 1 + k))), none] [] μ1 ν1 := by
      intro y i hi hex q
      induction q with
      | zero => intro k μ1 ν1 x h; omega
      | succ q ih =>
        intro k μ1 ν1 x hq hk hM hS hx hJ
        have hc1 := hc.mr hM
        have hB1 := hB.mk (Mk.mr hM)
        have hb0 : μ1 75 0 = nI (N (c 2 0)) := hc1.1.1.trans hnb.1
        have hs0 : μ1 75 5 = nI (N (c 7 0)) := hc1.1.2.1.trans hns.1
        have next : ∀ (μ2 : MI) (ν2 : ML) (z : Bl), i + 1 + k < 29 → Mr 1 μ1 μ2 → Sv ν1 ν2 → z = inF (canF (N (c 2 0)) (N (c 7 0))) (fitM c μ ν) i (k + 1) y → J2 (30 * i + k + 1) z → _ := fun μ2 ν2 z h1 h2 h3 h4 h5 => ih (k + 1) μ2 ν2 z (by omega) (by omega) (hM.tr h2) (hS.tr h3) h4 h5
        have skip : (canF (N (c 2 0)) (N (c 7 0)) i && canF (N (c 2 0)) (N (c 7 0)) (i + 1 + k)) = false → x = inF (canF (N (c 2 0)) (N (c 7 0))) (fitM c μ ν) i (k + 1) y := by
          intro z
          rw [inF, z, if_neg (by decide)]
          exact hx
        have take : (canF (N (c 2 0)) (N (c 7 0)) i && canF (N (c 2 0)) (N (c 7 0)) (i + 1 + k)) = true → ∀ b : Bool, fitM c μ ν (nI i) (nI (i + 1 + k)) = b → blA b (nI i) (nI (i + 1 + k)) x = inF (canF (N (c 2 0)) (N (c 7 0))) (fitM c μ ν) i (k + 1) y := by
          intro z b hb
          rw [inF, if_pos z, hb, hx]
        refine A_iload dX10_blamed_94 rfl ?_
        refine A_bipush (v := nI 29) dX10_blamed_96 (by decide +kernel) ?_
        refine A_icmp_geN (tgt := 204) dX10_blamed_98 (by decide) (by omega) (by omega) (fun b98 => ?_) (fun b98 => ?_)
        · refine A_iincN (ls1 := [_, _, _, _, _, _, _, _, _]) dX10_blamed_204 rfl (by decide) rfl rfl ?_
          refine A_goto (tgt := 70) dX10_blamed_207 (by decide) ?_
          exact A_weak (hex μ1 ν1 x hM hS (by rw [show 28 - i = k by omega]; exact hx) (hJ.le (by omega))) (by repeat first | exact fw_0 | refine fw_s ?_ | refine fw_n ?_)
        · refine A_aload_n dX10_blamed_101 rfl ?_
          refine A_iload dX10_blamed_102 rfl ?_
          refine A_callV1 dX10_blamed_104 mlX10_224 (by decide) rfl rfl (Nat.le_of_ble_eq_true rfl) (m_isFaulty hi hb0 hnb.2 hs0 hns.2 (fun z1 => ?_) (fun z1 => ?_))
          · refine Kn.s ?_
            refine A_if_eq (tgt := 136) dX10_blamed_107 (by decide) (fun h => absurd h (by decide +kernel)) (fun _ => ?_)
            refine A_iload dX10_blamed_110 rfl ?_
            refine A_iconst (v := nI 1) dX10_blamed_112 (by decide +kernel) ?_
            refine A_icmp_eq (tgt := 132) dX10_blamed_113 (by decide) (fun h => absurd h (by decide +kernel)) (fun _ => ?_)
            refine A_iload dX10_blamed_116 rfl ?_
            refine A_bipush (v := nI 28) dX10_blamed_118 (by decide +kernel) ?_
            refine A_icmp_geN (tgt := 136) dX10_blamed_120 (by decide) (by omega) (by omega) (fun b120 => ?_) (fun b120 => ?_)
            · refine A_iconst (v := nI 0) dX10_blamed_136 (by decide +kernel) ?_
              refine A_istore (ls1 := [_, _, _, _, _, _, _, _, _]) dX10_blamed_137 (by decide) rfl rfl ?_
              refine A_iload dX10_blamed_139 rfl ?_
              refine A_if_eq (tgt := 198) dX10_blamed_141 (by decide) (fun _ => ?_) (fun h => absurd h (by decide +kernel))
              refine A_iincN (ls1 := [_, _, _, _, _, _, _, _, _]) dX10_blamed_198 rfl (by decide) rfl rfl ?_
              refine A_goto (tgt := 94) dX10_blamed_201 (by decide) ?_
              exact A_weak (next μ1 ν1 x b98 Mr.rf Sv.rf (skip (by rw [show i + 1 + k = 28 by omega, h28.1, Bool.and_false])) (hJ.le (by omega))) (by repeat first | exact fw_0 | refine fw_s ?_ | refine fw_n ?_)
            · refine A_aload_n dX10_blamed_123 rfl ?_
              refine A_iload dX10_blamed_124 rfl ?_
              refine A_callV1 dX10_blamed_126 mlX10_224 (by decide) rfl rfl (Nat.le_of_ble_eq_true rfl) (m_isFaulty b120 hb0 hnb.2 hs0 hns.2 (fun z2 => ?_) (fun z2 => ?_))
              · refine Kn.s ?_
                refine A_if_eq (tgt := 136) dX10_blamed_129 (by decide) (fun h => absurd h (by decide +kernel)) (fun _ => ?_)
                refine A_iconst (v := nI 1) dX10_blamed_132 (by decide +kernel) ?_
                refine A_goto (tgt := 137) dX10_blamed_133 (by decide) ?_
                refine A_istore (ls1 := [_, _, _, _, _, _, _, _, _]) dX10_blamed_137 (by decide) rfl rfl ?_
                refine A_iload dX10_blamed_139 rfl ?_
                refine A_if_eq (tgt := 198) dX10_blamed_141 (by decide) (fun h => absurd h (by decide +kernel)) (fun _ => ?_)
                refine A_aload_n dX10_blamed_144 rfl ?_
                refine A_iload dX10_blamed_145 rfl ?_
                refine A_iload dX10_blamed_147 rfl ?_
                refine A_iconst (v := nI 1) dX10_blamed_149 (by decide +kernel) ?_
                refine A_icmp_ne (tgt := 157) dX10_blamed_150 (by decide) (fun _ => ?_) (fun h => absurd h (by decide +kernel))
                refine A_iload dX10_blamed_157 rfl ?_
                refine A_callV2 dX10_blamed_159 mlX10_221 (by decide) rfl rfl (Nat.le_of_ble_eq_true rfl) (m_fits (nI i) (nI (i + 1 + k)) hC hc1 hB1 (fun μ2 ν2 z3 k1 k2 => ?_) (fun μ2 ν2 z3 k1 k2 => ?_))
                · refine Kn.s ?_
                  refine A_if_eq (tgt := 198) dX10_blamed_162 (by decide) (fun h => absurd h (by decide +kernel)) (fun _ => ?_)
                  rw [fitM_mr hM hS] at z3
                  have hz := take (by rw [z1, z2]; rfl) true z3
                  refine A_iload_n dX10_blamed_165 rfl ?_
                  refine A_if_ne (tgt := 174) dX10_blamed_166 (by decide) (fun b166 => ?_) (fun b166 => ?_)
                  · refine A_iload_n dX10_blamed_174 rfl ?_
                    refine A_istore_n (ls1 := [_, _, _, _, _, _, _, _, _]) dX10_blamed_175 (by decide) rfl rfl ?_
                    refine A_iload_n dX10_blamed_176 rfl ?_
                    refine A_if_ne (tgt := 191) dX10_blamed_177 (by decide) (fun b177 => ?_) (fun b177 => absurd b177 b166)
                    refine A_iload dX10_blamed_191 rfl ?_
                    refine A_istore (ls1 := [_, _, _, _, _, _, _, _, _]) dX10_blamed_193 (by decide) rfl rfl ?_
                    refine A_iinc (ls1 := [_, _, _, _, _, _, _, _, _]) dX10_blamed_195 rfl rfl (by decide) rfl rfl ?_
                    refine A_iincN (ls1 := [_, _, _, _, _, _, _, _, _]) dX10_blamed_198 rfl (by decide) rfl rfl ?_
                    refine A_goto (tgt := 94) dX10_blamed_201 (by decide) ?_
                    rw [blA_n b166] at hz
                    rw [i_inc]
                    have h9 := next μ2 ν2 _ b98 k1 k2 hz (by rw [← blA_n (f := nI i) (g := nI (i + 1 + k)) b166]; exact J2_add true hJ (by omega) (by omega) (by omega))
                    exact A_weak h9 (by repeat first | exact fw_0 | refine fw_s ?_ | refine fw_n ?_)
                  · refine A_iload dX10_blamed_169 rfl ?_
                    refine A_goto (tgt := 175) dX10_blamed_171 (by decide) ?_
                    refine A_istore_n (ls1 := [_, _, _, _, _, _, _, _, _]) dX10_blamed_175 (by decide) rfl rfl ?_
                    refine A_iload_n dX10_blamed_176 rfl ?_
                    refine A_if_ne (tgt := 191) dX10_blamed_177 (by decide) (fun b177 => absurd b177 (fun q => q b166)) (fun b177 => ?_)
                    refine A_iload dX10_blamed_180 rfl ?_
                    refine A_iconst (v := nI 2) dX10_blamed_182 (by decide +kernel) ?_
                    refine A_icmp_ne (tgt := 191) dX10_blamed_183 (by decide) (fun h => absurd h (by decide +kernel)) (fun _ => ?_)
                    refine A_iload dX10_blamed_186 rfl ?_
                    refine A_goto (tgt := 193) dX10_blamed_188 (by decide) ?_
                    refine A_istore (ls1 := [_, _, _, _, _, _, _, _, _]) dX10_blamed_193 (by decide) rfl rfl ?_
                    refine A_iinc (ls1 := [_, _, _, _, _, _, _, _, _]) dX10_blamed_195 rfl rfl (by decide) rfl rfl ?_
                    refine A_iincN (ls1 := [_, _, _, _, _, _, _, _, _]) dX10_blamed_198 rfl (by decide) rfl rfl ?_
                    refine A_goto (tgt := 94) dX10_blamed_201 (by decide) ?_
                    rw [blA_t b166] at hz
                    rw [i_inc]
                    have h9 := next μ2 ν2 _ b98 k1 k2 hz (by rw [← blA_t (f := nI i) (g := nI (i + 1 + k)) b166]; exact J2_add true hJ (by omega) (by omega) (by omega))
                    exact A_weak h9 (by repeat first | exact fw_0 | refine fw_s ?_ | refine fw_n ?_)
                · refine Kn.s ?_
                  refine A_if_eq (tgt := 198) dX10_blamed_162 (by decide) (fun _ => ?_) (fun h => absurd h (by decide +kernel))
                  refine A_iincN (ls1 := [_, _, _, _, _, _, _, _, _]) dX10_blamed_198 rfl (by decide) rfl rfl ?_
                  refine A_goto (tgt := 94) dX10_blamed_201 (by decide) ?_
                  rw [fitM_mr hM hS] at z3
                  exact A_weak (next μ2 ν2 x b98 k1 k2 (take (by rw [z1, z2]; rfl) false z3) (hJ.le (by omega))) (by repeat first | exact fw_0 | refine fw_s ?_ | refine fw_n ?_)
              · refine Kn.s ?_
                refine A_if_eq (tgt := 136) dX10_blamed_129 (by decide) (fun _ => ?_) (fun h => absurd h (by decide +kernel))
                refine A_iconst (v := nI 0) dX10_blamed_136 (by decide +kernel) ?_
                refine A_istore (ls1 := [_, _, _, _, _, _, _, _, _]) dX10_blamed_137 (by decide) rfl rfl ?_
                refine A_iload dX10_blamed_139 rfl ?_
                refine A_if_eq (tgt := 198) dX10_blamed_141 (by decide) (fun _ => ?_) (fun h => absurd h (by decide +kernel))
                refine A_iincN (ls1 := [_, _, _, _, _, _, _, _, _]) dX10_blamed_198 rfl (by decide) rfl rfl ?_
                refine A_goto (tgt := 94) dX10_blamed_201 (by decide) ?_
                exact A_weak (next μ1 ν1 x b98 Mr.rf Sv.rf (skip (by rw [z2, Bool.and_false])) (hJ.le (by omega))) (by repeat first | exact fw_0 | refine fw_s ?_ | refine fw_n ?_)
          · refine Kn.s ?_
            refine A_if_eq (tgt := 136) dX10_blamed_107 (by decide) (fun _ => ?_) (fun h => absurd h (by decide +kernel))
            refine A_iconst (v := nI 0) dX10_blamed_136 (by decide +kernel) ?_
            refine A_istore (ls1 := [_, _, _, _, _, _, _, _, _]) dX10_blamed_137 (by decide) rfl rfl ?_
            refine A_iload dX10_blamed_139 rfl ?_
            refine A_if_eq (tgt := 198) dX10_blamed_141 (by decide) (fun _ => ?_) (fun h => absurd h (by decide +kernel))
            refine A_iincN (ls1 := [_, _, _, _, _, _, _, _, _]) dX10_blamed_198 rfl (by decide) rfl rfl ?_
            refine A_goto (tgt := 94) dX10_blamed_201 (by decide) ?_
            exact A_weak (next μ1 ν1 x b98 Mr.rf Sv.rf (skip (by rw [z1, Bool.false_and])) (hJ.le (by omega))) (by repeat first | exact fw_0 | refine fw_s ?_ | refine fw_n ?_)
    have outer : ∀ (y : Bl), blX2 (canF (N (c 2 0)) (N (c 7 0))) (fitM c μ ν) = y → y.1 = 0 → ∀ (q i : Nat) (μ1 : MI) (ν1 : ML) (x : Bl), 28 - i < q → i ≤ 28 → Mr 1 μ μ1 → Sv ν ν1 → x = ouF (canF (N (c 2 0)) (N (c 7 0))) (fitM c μ ν) 30 i y → J2 (30 * i) x → AW mX10_blamed (6, none) P 70 [some (.ref 75), some (.int (nI j)), some (.int x.1), some (.int x.2.1), some (.int x.2.2), some (.int (nI 2)), some (.int (nI i)), none, none] [] μ1 ν1 := by
      intro y hy hy0 q
      induction q with
      | zero => intro i μ1 ν1 x h; omega
      | succ q ih =>
        intro i μ1 ν1 x hq hi hM hS hx hJ
        have done : i = 28 → blX (canF (N (c 2 0)) (N (c 7 0))) (fitM c μ ν) = x := by
          intro e
          unfold blX
          rw [hy, if_pos hy0, ouF_28 h28, ← e]
          exact hx.symm
        refine A_iload dX10_blamed_70 rfl ?_
        refine A_bipush (v := nI 28) dX10_blamed_72 (by decide +kernel) ?_
        refine A_icmp_geN (tgt := 210) dX10_blamed_74 (by decide) (by omega) (by omega) (fun b74 => ?_) (fun b74 => ?_)
        · refine A_goto (tgt := 54) dX10_blamed_210 (by decide) ?_
          refine A_iload_n dX10_blamed_54 rfl ?_
          refine A_if_ne (tgt := 213) dX10_blamed_55 (by decide) (fun b55 => ?_) (fun b55 => ?_)
          · exact A_weak (fin μ1 ν1 x 2 j hw hj hM hS (done (by omega)) (J2_R hJ (by omega))) (by repeat first | exact fw_0 | refine fw_s ?_ | refine fw_n ?_)
          · refine A_iload dX10_blamed_58 rfl ?_
            refine A_iconst (v := nI 2) dX10_blamed_60 (by decide +kernel) ?_
            refine A_icmp_ge (tgt := 213) dX10_blamed_61 (by decide) (fun _ => ?_) (fun h => absurd h (by decide +kernel))
            exact A_weak (fin μ1 ν1 x 2 j hw hj hM hS (done (by omega)) (J2_R hJ (by omega))) (by repeat first | exact fw_0 | refine fw_s ?_ | refine fw_n ?_)
        · refine A_iload dX10_blamed_77 rfl ?_
          refine A_iconst (v := nI 1) dX10_blamed_79 (by decide +kernel) ?_
          refine A_icmp_ne (tgt := 88) dX10_blamed_80 (by decide) (fun _ => ?_) (fun h => absurd h (by decide +kernel))
          refine A_iload dX10_blamed_88 rfl ?_
          refine A_iconst (v := nI 1) dX10_blamed_90 (by decide +kernel) ?_
          refine A_iaddN dX10_blamed_91 ?_
          refine A_istore (ls1 := [_, _, _, _, _, _, _, _, _]) dX10_blamed_92 (by decide) rfl rfl ?_
          exact pairs x i b74 (fun μ2 ν2 z h1 h2 h3 h4 => ih (i + 1) μ2 ν2 z (by omega) (by omega) h1 h2 (by rw [ouF, inF_29 h28.2 b74, ← hx]; exact h3) h4) 29 0 μ1 ν1 x (by omega) (by omega) hM hS rfl hJ
    have singles : ∀ (q i : Nat) (μ1 : MI) (ν1 : ML) (x : Bl), 28 - i < q → i ≤ 28 → Mr 1 μ μ1 → Sv ν ν1 → x = sgF (canF (N (c 2 0)) (N (c 7 0))) (fitM c μ ν) i (0, -1, -1) → J1 i x → AW mX10_blamed (6, none) P 70 [some (.ref 75), some (.int (nI j)), some (.int x.1), some (.int x.2.1), some (.int x.2.2), some (.int (nI 1)), some (.int (nI i)), none, none] [] μ1 ν1 := by
      intro q
      induction q with
      | zero => intro i μ1 ν1 x h; omega
      | succ q ih =>
        intro i μ1 ν1 x hq hi hM hS hx hJ
        have hc1 := hc.mr hM
        have hB1 := hB.mk (Mk.mr hM)
        have hb0 : μ1 75 0 = nI (N (c 2 0)) := hc1.1.1.trans hnb.1
        have hs0 : μ1 75 5 = nI (N (c 7 0)) := hc1.1.2.1.trans hns.1
        have next : ∀ (μ2 : MI) (ν2 : ML) (z : Bl), i < 28 → Mr 1 μ1 μ2 → Sv ν1 ν2 → z = sgF (canF (N (c 2 0)) (N (c 7 0))) (fitM c μ ν) (i + 1) (0, -1, -1) → J1 (i + 1) z → _ := fun μ2 ν2 z h1 h2 h3 h4 h5 => ih (i + 1) μ2 ν2 z (by omega) (by omega) (hM.tr h2) (hS.tr h3) h4 h5
        have take : canF (N (c 2 0)) (N (c 7 0)) i = true → ∀ b : Bool, fitM c μ ν (nI i) (-1) = b → blA b (nI i) (-1) x = sgF (canF (N (c 2 0)) (N (c 7 0))) (fitM c μ ν) (i + 1) (0, -1, -1) := by
          intro z b hb
          rw [sgF, if_pos z, hb, hx]
        have hX2 : i = 28 → blX2 (canF (N (c 2 0)) (N (c 7 0))) (fitM c μ ν) = x := by
          intro e
          unfold blX2
          rw [hX1, if_pos rfl, sgF_28 h28, ← e]
          exact hx.symm
        have two : x.1 = 0 → x.2.2 = -1 := fun z => by
          obtain ⟨m, h1, h2, h3, h4⟩ := J1_2 hJ (by omega) z
          exact (h3 (by omega)).2
        refine A_iload dX10_blamed_70 rfl ?_
        refine A_bipush (v := nI 28) dX10_blamed_72 (by decide +kernel) ?_
        refine A_icmp_geN (tgt := 210) dX10_blamed_74 (by decide) (by omega) (by omega) (fun b74 => ?_) (fun b74 => ?_)
        · refine A_goto (tgt := 54) dX10_blamed_210 (by decide) ?_
          refine A_iload_n dX10_blamed_54 rfl ?_
          refine A_if_ne (tgt := 213) dX10_blamed_55 (by decide) (fun b55 => ?_) (fun b55 => ?_)
          · refine A_weak (fin μ1 ν1 x 1 j hw hj hM hS ?_ (J1_R hJ (by omega))) (by repeat first | exact fw_0 | refine fw_s ?_ | refine fw_n ?_)
            unfold blX
            rw [hX2 (by omega), if_neg b55]
          · refine A_iload dX10_blamed_58 rfl ?_
            refine A_iconst (v := nI 2) dX10_blamed_60 (by decide +kernel) ?_
            refine A_icmp_ge (tgt := 213) dX10_blamed_61 (by decide) (fun h => absurd h (by decide +kernel)) (fun _ => ?_)
            refine A_iinc (y := nI 2) (ls1 := [_, _, _, _, _, _, _, _, _]) dX10_blamed_64 rfl (by decide +kernel) (by decide) rfl rfl ?_
            refine A_iconst (v := nI 0) dX10_blamed_67 (by decide +kernel) ?_
            refine A_istore (ls1 := [_, _, _, _, _, _, _, _, _]) dX10_blamed_68 (by decide) rfl rfl ?_
            exact A_weak (outer x (hX2 (by omega)) b55 29 0 μ1 ν1 x (by omega) (by omega) hM hS rfl (J1_2 hJ (by omega) b55)) (by repeat first | exact fw_0 | refine fw_s ?_ | refine fw_n ?_)
        · refine A_iload dX10_blamed_77 rfl ?_
          refine A_iconst (v := nI 1) dX10_blamed_79 (by decide +kernel) ?_
          refine A_icmp_ne (tgt := 88) dX10_blamed_80 (by decide) (fun h => absurd h (by decide +kernel)) (fun _ => ?_)
          refine A_bipush (v := nI 28) dX10_blamed_83 (by decide +kernel) ?_
          refine A_goto (tgt := 92) dX10_blamed_85 (by decide) ?_
          refine A_istore (ls1 := [_, _, _, _, _, _, _, _, _]) dX10_blamed_92 (by decide) rfl rfl ?_
          refine A_iload dX10_blamed_94 rfl ?_
          refine A_bipush (v := nI 29) dX10_blamed_96 (by decide +kernel) ?_
          refine A_icmp_ge (tgt := 204) dX10_blamed_98 (by decide) (fun h => absurd h (by decide +kernel)) (fun _ => ?_)
          refine A_aload_n dX10_blamed_101 rfl ?_
          refine A_iload dX10_blamed_102 rfl ?_
          refine A_callV1 dX10_blamed_104 mlX10_224 (by decide) rfl rfl (Nat.le_of_ble_eq_true rfl) (m_isFaulty b74 hb0 hnb.2 hs0 hns.2 (fun z1 => ?_) (fun z1 => ?_))
          · refine Kn.s ?_
            refine A_if_eq (tgt := 136) dX10_blamed_107 (by decide) (fun h => absurd h (by decide +kernel)) (fun _ => ?_)
            refine A_iload dX10_blamed_110 rfl ?_
            refine A_iconst (v := nI 1) dX10_blamed_112 (by decide +kernel) ?_
            refine A_icmp_eq (tgt := 132) dX10_blamed_113 (by decide) (fun _ => ?_) (fun h => absurd h (by decide +kernel))
            refine A_iconst (v := nI 1) dX10_blamed_132 (by decide +kernel) ?_
            refine A_goto (tgt := 137) dX10_blamed_133 (by decide) ?_
            refine A_istore (ls1 := [_, _, _, _, _, _, _, _, _]) dX10_blamed_137 (by decide) rfl rfl ?_
            refine A_iload dX10_blamed_139 rfl ?_
            refine A_if_eq (tgt := 198) dX10_blamed_141 (by decide) (fun h => absurd h (by decide +kernel)) (fun _ => ?_)
            refine A_aload_n dX10_blamed_144 rfl ?_
            refine A_iload dX10_blamed_145 rfl ?_
            refine A_iload dX10_blamed_147 rfl ?_
            refine A_iconst (v := nI 1) dX10_blamed_149 (by decide +kernel) ?_
            refine A_icmp_ne (tgt := 157) dX10_blamed_150 (by decide) (fun h => absurd h (by decide +kernel)) (fun _ => ?_)
            refine A_iconst (v := (-1)) dX10_blamed_153 (by decide +kernel) ?_
            refine A_goto (tgt := 159) dX10_blamed_154 (by decide) ?_
            refine A_callV2 dX10_blamed_159 mlX10_221 (by decide) rfl rfl (Nat.le_of_ble_eq_true rfl) (m_fits (nI i) (-1) hC hc1 hB1 (fun μ2 ν2 z3 k1 k2 => ?_) (fun μ2 ν2 z3 k1 k2 => ?_))
            · refine Kn.s ?_
              refine A_if_eq (tgt := 198) dX10_blamed_162 (by decide) (fun h => absurd h (by decide +kernel)) (fun _ => ?_)
              rw [fitM_mr hM hS] at z3
              have hz := take z1 true z3
              refine A_iload_n dX10_blamed_165 rfl ?_
              refine A_if_ne (tgt := 174) dX10_blamed_166 (by decide) (fun b166 => ?_) (fun b166 => ?_)
              · refine A_iload_n dX10_blamed_174 rfl ?_
                refine A_istore_n (ls1 := [_, _, _, _, _, _, _, _, _]) dX10_blamed_175 (by decide) rfl rfl ?_
                refine A_iload_n dX10_blamed_176 rfl ?_
                refine A_if_ne (tgt := 191) dX10_blamed_177 (by decide) (fun b177 => ?_) (fun b177 => absurd b177 b166)
                refine A_iload dX10_blamed_191 rfl ?_
                refine A_istore (ls1 := [_, _, _, _, _, _, _, _, _]) dX10_blamed_193 (by decide) rfl rfl ?_
                refine A_iinc (ls1 := [_, _, _, _, _, _, _, _, _]) dX10_blamed_195 rfl rfl (by decide) rfl rfl ?_
                refine A_iinc (y := nI 29) (ls1 := [_, _, _, _, _, _, _, _, _]) dX10_blamed_198 rfl (by decide +kernel) (by decide) rfl rfl ?_
                refine A_goto (tgt := 94) dX10_blamed_201 (by decide) ?_
                refine A_iload dX10_blamed_94 rfl ?_
                refine A_bipush (v := nI 29) dX10_blamed_96 (by decide +kernel) ?_
                refine A_icmp_ge (tgt := 204) dX10_blamed_98 (by decide) (fun _ => ?_) (fun h => absurd h (by decide +kernel))
                refine A_iincN (ls1 := [_, _, _, _, _, _, _, _, _]) dX10_blamed_204 rfl (by decide) rfl rfl ?_
                refine A_goto (tgt := 70) dX10_blamed_207 (by decide) ?_
                rw [blA_n b166] at hz
                rw [i_inc]
                have h9 := next μ2 ν2 _ b74 k1 k2 hz (by rw [← blA_n (f := nI i) (g := -1) b166]; exact J1_add true hJ (by omega) (by omega))
                exact A_weak h9 (by repeat first | exact fw_0 | refine fw_s ?_ | refine fw_n ?_)
              · refine A_iload dX10_blamed_169 rfl ?_
                refine A_goto (tgt := 175) dX10_blamed_171 (by decide) ?_
                refine A_istore_n (ls1 := [_, _, _, _, _, _, _, _, _]) dX10_blamed_175 (by decide) rfl rfl ?_
                refine A_iload_n dX10_blamed_176 rfl ?_
                refine A_if_ne (tgt := 191) dX10_blamed_177 (by decide) (fun b177 => absurd b177 (fun q => q b166)) (fun b177 => ?_)
                refine A_iload dX10_blamed_180 rfl ?_
                refine A_iconst (v := nI 2) dX10_blamed_182 (by decide +kernel) ?_
                refine A_icmp_ne (tgt := 191) dX10_blamed_183 (by decide) (fun _ => ?_) (fun h => absurd h (by decide +kernel))
                refine A_iload dX10_blamed_191 rfl ?_
                refine A_istore (ls1 := [_, _, _, _, _, _, _, _, _]) dX10_blamed_193 (by decide) rfl rfl ?_
                refine A_iinc (ls1 := [_, _, _, _, _, _, _, _, _]) dX10_blamed_195 rfl rfl (by decide) rfl rfl ?_
                refine A_iinc (y := nI 29) (ls1 := [_, _, _, _, _, _, _, _, _]) dX10_blamed_198 rfl (by decide +kernel) (by decide) rfl rfl ?_
                refine A_goto (tgt := 94) dX10_blamed_201 (by decide) ?_
                refine A_iload dX10_blamed_94 rfl ?_
                refine A_bipush (v := nI 29) dX10_blamed_96 (by decide +kernel) ?_
                refine A_icmp_ge (tgt := 204) dX10_blamed_98 (by decide) (fun _ => ?_) (fun h => absurd h (by decide +kernel))
                refine A_iincN (ls1 := [_, _, _, _, _, _, _, _, _]) dX10_blamed_204 rfl (by decide) rfl rfl ?_
                refine A_goto (tgt := 70) dX10_blamed_207 (by decide) ?_
                rw [blA_t b166] at hz
                rw [i_inc, two b166]
                have h9 := next μ2 ν2 _ b74 k1 k2 hz (by rw [← blA_t (f := nI i) (g := -1) b166]; exact J1_add true hJ (by omega) (by omega))
                exact A_weak h9 (by repeat first | exact fw_0 | refine fw_s ?_ | refine fw_n ?_)
            · refine Kn.s ?_
              refine A_if_eq (tgt := 198) dX10_blamed_162 (by decide) (fun _ => ?_) (fun h => absurd h (by decide +kernel))
              refine A_iinc (y := nI 29) (ls1 := [_, _, _, _, _, _, _, _, _]) dX10_blamed_198 rfl (by decide +kernel) (by decide) rfl rfl ?_
              refine A_goto (tgt := 94) dX10_blamed_201 (by decide) ?_
              refine A_iload dX10_blamed_94 rfl ?_
              refine A_bipush (v := nI 29) dX10_blamed_96 (by decide +kernel) ?_
              refine A_icmp_ge (tgt := 204) dX10_blamed_98 (by decide) (fun _ => ?_) (fun h => absurd h (by decide +kernel))
              refine A_iincN (ls1 := [_, _, _, _, _, _, _, _, _]) dX10_blamed_204 rfl (by decide) rfl rfl ?_
              refine A_goto (tgt := 70) dX10_blamed_207 (by decide) ?_
              rw [fitM_mr hM hS] at z3
              exact A_weak (next μ2 ν2 x b74 k1 k2 (take z1 false z3) (hJ.le (by omega))) (by repeat first | exact fw_0 | refine fw_s ?_ | refine fw_n ?_)
          · refine Kn.s ?_
            refine A_if_eq (tgt := 136) dX10_blamed_107 (by decide) (fun _ => ?_) (fun h => absurd h (by decide +kernel))
            refine A_iconst (v := nI 0) dX10_blamed_136 (by decide +kernel) ?_
            refine A_istore (ls1 := [_, _, _, _, _, _, _, _, _]) dX10_blamed_137 (by decide) rfl rfl ?_
            refine A_iload dX10_blamed_139 rfl ?_
            refine A_if_eq (tgt := 198) dX10_blamed_141 (by decide) (fun _ => ?_) (fun h => absurd h (by decide +kernel))
            refine A_iinc (y := nI 29) (ls1 := [_, _, _, _, _, _, _, _, _]) dX10_blamed_198 rfl (by decide +kernel) (by decide) rfl rfl ?_
            refine A_goto (tgt := 94) dX10_blamed_201 (by decide) ?_
            refine A_iload dX10_blamed_94 rfl ?_
            refine A_bipush (v := nI 29) dX10_blamed_96 (by decide +kernel) ?_
            refine A_icmp_ge (tgt := 204) dX10_blamed_98 (by decide) (fun _ => ?_) (fun h => absurd h (by decide +kernel))
            refine A_iincN (ls1 := [_, _, _, _, _, _, _, _, _]) dX10_blamed_204 rfl (by decide) rfl rfl ?_
            refine A_goto (tgt := 70) dX10_blamed_207 (by decide) ?_
            exact A_weak (next μ1 ν1 x b74 Mr.rf Sv.rf (by rw [sgF, if_neg (by rw [z1]; decide)]; exact hx) (hJ.le (by omega))) (by repeat first | exact fw_0 | refine fw_s ?_ | refine fw_n ?_)
    refine A_iconst (v := nI 0) dX10_blamed_44 (by decide +kernel) ?_
    refine A_istore_n (ls1 := [_, _, _, _, _, _, _, _, _]) dX10_blamed_45 (by decide) rfl rfl ?_
    refine A_iconst (v := (-1)) dX10_blamed_46 (by decide +kernel) ?_
    refine A_istore_n (ls1 := [_, _, _, _, _, _, _, _, _]) dX10_blamed_47 (by decide) rfl rfl ?_
    refine A_iconst (v := (-1)) dX10_blamed_48 (by decide +kernel) ?_
    refine A_istore (ls1 := [_, _, _, _, _, _, _, _, _]) dX10_blamed_49 (by decide) rfl rfl ?_
    refine A_iconst (v := nI 0) dX10_blamed_51 (by decide +kernel) ?_
    refine A_istore (ls1 := [_, _, _, _, _, _, _, _, _]) dX10_blamed_52 (by decide) rfl rfl ?_
    refine A_iload_n dX10_blamed_54 rfl ?_
    refine A_if_ne (tgt := 213) dX10_blamed_55 (by decide) (fun h => absurd h (by decide +kernel)) (fun _ => ?_)
    refine A_iload dX10_blamed_58 rfl ?_
    refine A_iconst (v := nI 2) dX10_blamed_60 (by decide +kernel) ?_
    refine A_icmp_ge (tgt := 213) dX10_blamed_61 (by decide) (fun h => absurd h (by decide +kernel)) (fun _ => ?_)
    refine A_iinc (y := nI 1) (ls1 := [_, _, _, _, _, _, _, _, _]) dX10_blamed_64 rfl (by decide +kernel) (by decide) rfl rfl ?_
    refine A_iconst (v := nI 0) dX10_blamed_67 (by decide +kernel) ?_
    refine A_istore (ls1 := [_, _, _, _, _, _, _, _, _]) dX10_blamed_68 (by decide) rfl rfl ?_
    exact singles 29 0 μ0 ν0 (0, -1, -1) (by omega) (by omega) hM0 hS0 rfl ⟨0, Nat.le_refl _, rfl, fun _ => ⟨rfl, rfl⟩, fun q => absurd q (Nat.lt_irrefl 0)⟩
  refine A_iload_n dX10_blamed_0 rfl ?_
  refine A_i2l dX10_blamed_1 ?_
  refine A_lconst (v := 0) dX10_blamed_2 rfl ?_
  refine A_ldc2 dX10_blamed_3 kcX10_219 ?_
  refine A_callS3 dX10_blamed_6 mlX10_95 (by decide) (Nat.le_of_ble_eq_true rfl) (m_in what (nI 0) (nI 3) rfl (by decide +kernel) (by decide +kernel) (fun g1 g2 => ?_) (fun g3 => ?_))
  · refine Kn.s ?_
    refine A_if_ne (tgt := 16) dX10_blamed_9 (by decide) (fun _ => ?_) (fun h => absurd h (by decide +kernel))
    refine A_aload_n dX10_blamed_16 rfl ?_
    refine A_iconst (v := (-1)) dX10_blamed_17 (by decide +kernel) ?_
    refine A_iconst (v := (-1)) dX10_blamed_18 (by decide +kernel) ?_
    refine A_callV2 dX10_blamed_19 mlX10_221 (by decide) rfl rfl (Nat.le_of_ble_eq_true rfl) (m_fits (-1) (-1) hC hc hB (fun μ2 ν2 z3 k1 k2 => ?_) (fun μ2 ν2 z3 k1 k2 => ?_))
    · refine Kn.s ?_
      refine A_if_eq (tgt := 44) dX10_blamed_22 (by decide) (fun h => absurd h (by decide +kernel)) (fun _ => ?_)
      obtain ⟨j, hj, rfl⟩ := nI_of2 (M := nI 3) (n := 3) rfl (i_le_n g1) g2
      have hX : blX (canF (N (c 2 0)) (N (c 7 0))) (fitM c μ ν) = (0 + 1, -1, -1) := by
        have hX1 : blX1 (fitM c μ ν) = (0 + 1, -1, -1) := by unfold blX1; rw [z3]; rfl
        have hX2 : blX2 (canF (N (c 2 0)) (N (c 7 0))) (fitM c μ ν) = (0 + 1, -1, -1) := by
          unfold blX2
          rw [hX1, if_neg (by decide +kernel)]
        unfold blX
        rw [hX2, if_neg (by decide +kernel)]
      have h9 := ha j μ2 ν2 rfl (by omega) k1 k2
      rw [hX] at h9
      refine A_iload_n dX10_blamed_25 rfl ?_
      refine A_if_ne (tgt := 33) dX10_blamed_26 (by decide) (fun b26 => ?_) (fun b26 => ?_)
      · refine A_iload_n dX10_blamed_33 rfl ?_
        refine A_iconst (v := nI 1) dX10_blamed_34 (by decide +kernel) ?_
        refine A_icmp_ne (tgt := 42) dX10_blamed_35 (by decide) (fun b35 => ?_) (fun b35 => ?_)
        · refine A_iconst (v := (-1)) dX10_blamed_42 (by decide +kernel) ?_
          refine A_iret dX10_blamed_43 rfl rfl ?_
          rcases (show j = 2 ∨ j = 3 by
              have h1 : ¬ j = 0 := fun q => b26 (by rw [q]; rfl)
              have h2 : ¬ j = 1 := fun q => b35 (by rw [q])
              omega) with rfl | rfl
          · exact h9
          · exact h9
        · refine A_iconst (v := nI 1) dX10_blamed_38 (by decide +kernel) ?_
          refine A_goto (tgt := 43) dX10_blamed_39 (by decide) ?_
          refine A_iret dX10_blamed_43 rfl rfl ?_
          have ej : j = 1 := (nI_inj (by omega) (by omega)).mp b35
          subst ej
          exact h9
      · refine A_iconst (v := nI 0) dX10_blamed_29 (by decide +kernel) ?_
        refine A_goto (tgt := 43) dX10_blamed_30 (by decide) ?_
        refine A_iret dX10_blamed_43 rfl rfl ?_
        have ej : j = 0 := (nI_inj (by omega) (by omega)).mp b26
        subst ej
        exact h9
    · refine Kn.s ?_
      refine A_if_eq (tgt := 44) dX10_blamed_22 (by decide) (fun _ => ?_) (fun h => absurd h (by decide +kernel))
      obtain ⟨j, hj, rfl⟩ := nI_of2 (M := nI 3) (n := 3) rfl (i_le_n g1) g2
      exact main j rfl (by omega) μ2 ν2 k1 k2 z3
  · refine Kn.s ?_
    refine A_if_ne (tgt := 16) dX10_blamed_9 (by decide) (fun h => absurd h (by decide +kernel)) (fun _ => ?_)
    refine A_sipush (v := (-1002)) dX10_blamed_12 (by decide +kernel) ?_
    refine A_iret dX10_blamed_15 rfl rfl ?_
    exact ho g3
