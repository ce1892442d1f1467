/-! the same was told: the same course; the beginning; runs -/
theorem CX.row {c μ : MI} (h : CX c μ) {a : Nat} (h1 : 1 ≤ a) (h2 : a ≤ 18) : μ a = c a := funext (fun j => h a h1 h2 j)
theorem CX.fr {c μ μ' : MI} {lo n : Nat} (h : CX c μ) (hl : 19 ≤ lo) (hF : Fr lo n μ μ') : CX c μ' := fun k h1 h2 j => (hF k (Or.inl (by omega)) j).trans (h k h1 h2 j)
theorem WC.cx {c μ : MI} (h : WC c) (hc : CX c μ) : WC μ := by
  unfold WC at h ⊢
  rw [hc.row (a := 2) (by omega) (by omega), hc.row (a := 4) (by omega) (by omega), hc.row (a := 5) (by omega) (by omega), hc.row (a := 6) (by omega) (by omega), hc.row (a := 7) (by omega) (by omega), hc.row (a := 8) (by omega) (by omega), hc.row (a := 10) (by omega) (by omega), hc.row (a := 11) (by omega) (by omega), hc.row (a := 12) (by omega) (by omega), hc.row (a := 16) (by omega) (by omega), hc.row (a := 17) (by omega) (by omega), hc.row (a := 1) (by omega) (by omega)]
  exact h
theorem dripP_cx {c μ tw : MI} (hc : CX c μ) (t s : Nat) (S : St) : dripP μ tw t s S = dripP c tw t s S := by
  unfold dripP dueB heldB frogB waterP wetP
  rw [hc.row (a := 8) (by omega) (by omega), hc.row (a := 9) (by omega) (by omega), hc.row (a := 10) (by omega) (by omega), hc.row (a := 11) (by omega) (by omega), hc.row (a := 12) (by omega) (by omega), hc.row (a := 13) (by omega) (by omega), hc.row (a := 14) (by omega) (by omega), hc.row (a := 15) (by omega) (by omega), hc.row (a := 16) (by omega) (by omega), hc.row (a := 17) (by omega) (by omega), hc.row (a := 18) (by omega) (by omega)]
theorem dripsP_cx {c μ tw : MI} (hc : CX c μ) (t : Nat) (S : St) : ∀ k, dripsP μ tw t k S = dripsP c tw t k S
  | 0 => rfl
  | k + 1 => by rw [dripsP, dripsP, dripP_cx hc, dripsP_cx hc t S k]
theorem knB_cx {c μ tw : MI} (hc : CX c μ) (b : Nat) (S : St) : knB μ tw b S = knB c tw b S := by
  unfold knB
  rw [hc.row (a := 3) (by omega) (by omega)]
theorem turnP_cx {c μ tw : MI} (hc : CX c μ) (t b : Nat) (S : St) : turnP μ tw t b S = turnP c tw t b S := by
  unfold turnP tipP fallP brookB knB
  rw [hc.row (a := 3) (by omega) (by omega), hc.row (a := 4) (by omega) (by omega), hc.row (a := 5) (by omega) (by omega), hc.row (a := 6) (by omega) (by omega)]
theorem turnsP_cx {c μ tw : MI} (hc : CX c μ) (t : Nat) (S : St) : ∀ k, turnsP μ tw t k S = turnsP c tw t k S
  | 0 => rfl
  | k + 1 => by rw [turnsP, turnsP, turnP_cx hc, turnsP_cx hc t S k]
theorem wateredP_cx {c μ tw : MI} (hc : CX c μ) (t : Nat) (S : St) : wateredP μ tw t S = wateredP c tw t S := by
  unfold wateredP dryT
  rw [hc.row (a := 1) (by omega) (by omega), hc.row (a := 2) (by omega) (by omega), hc.row (a := 7) (by omega) (by omega), dripsP_cx hc]
theorem stepP_cx {c μ tw : MI} (hc : CX c μ) (t : Nat) (S : St) : stepP μ tw t S = stepP c tw t S := by
  unfold stepP
  rw [hc.row (a := 2) (by omega) (by omega), turnsP_cx hc, wateredP_cx hc]
theorem setP_cx {c μ tw : MI} (hc : CX c μ) (t : Nat) (S : St) : setP μ tw t S = setP c tw t S := by
  funext b
  unfold setP
  rw [knB_cx hc, turnsP_cx hc, wateredP_cx hc]
theorem runP_cx {c μ tw : MI} (hc : CX c μ) : ∀ t, runP μ tw t = runP c tw t
  | 0 => rfl
  | t + 1 => by rw [runP, runP, runP_cx hc t, stepP_cx hc]
theorem knockN_cx {c μ tw : MI} (hc : CX c μ) (t : Nat) : knockN μ tw t = knockN c tw t := by
  unfold knockN
  rw [hc.row (a := 2) (by omega) (by omega), runP_cx hc, setP_cx hc]
/-! what comes, ahead of a tick -/
theorem turnP_C2 {c tw : MI} {t b : Nat} {S : St} {a j : Nat} (h : ¬ c 5 b < 0 → N (c 5 b) ≠ a) : sC (turnP c tw t b S) a j = sC S a j := by
  unfold turnP
  split
  · rfl
  · split
    · show sC (fallP c tw b S) a j = _
      unfold fallP
      split
      · rfl
      · next h3 =>
        have h2 : ¬ c 5 b < 0 := fun q => h3 (by unfold brookB; simp [q])
        exact up2_a _ _ (fun e => h h2 e.symm)
    · rfl
theorem turnsP_C2 {c tw : MI} {t : Nat} {S : St} {a j : Nat} : ∀ k, (∀ b, b < k → ¬ c 5 b < 0 → N (c 5 b) ≠ a) → sC (turnsP c tw t k S) a j = sC S a j
  | 0, _ => rfl
  | k + 1, h => by rw [turnsP, turnP_C2 (h k (by omega)), turnsP_C2 k (fun b hb => h b (by omega))]
theorem GC_step {c tw : MI} (hC : WC c) {t : Nat} {S : St} (h : GC (N (c 2 0)) S) : GC (N (c 2 0)) (stepP c tw t S) := by
  have hdel : ∀ b, b < N (c 2 0) → ¬ c 5 b < 0 → 0 < N (c 6 b) ∧ N (c 6 b) ≤ 20 := fun b hb h => ⟨(hC.pipe hb h).2.2.2, (hC.pipe hb h).2.2.1.2⟩
  refine ⟨fun b j hb hj => ?_, fun b hnb hb j => ?_⟩
  · show sC (turnsP c tw t (N (c 2 0)) (wateredP c tw t S)) b (j + 1) = 0
    rw [turnsP_C (Or.inr (by omega)) _ hdel, wateredP_C, if_neg (by omega)]
    exact h.1 b (j + 1) hb (by omega)
  · show sC (turnsP c tw t (N (c 2 0)) (wateredP c tw t S)) b (j + 1) = 0
    rw [turnsP_C2 _ (fun k hk h5 => by have := (hC.pipe hk h5).2.1; omega), wateredP_C, if_neg (by omega)]
    exact h.2 b hnb hb (j + 1)
theorem GC_S0 (nb : Nat) : GC nb S0 := ⟨fun _ _ _ _ => rfl, fun _ _ _ _ => rfl⟩
theorem GC_run {c tw : MI} (hC : WC c) : ∀ t, GC (N (c 2 0)) (runP c tw t)
  | 0 => GC_S0 _
  | t + 1 => GC_step hC (GC_run hC t)
/-- the step, over what was told as in c -/
theorem c_stepC {f w t : Nat} (hF : FlowAt f w) {S : St} {c tw μ : MI} {ν : ML} {P : Po} (ht : t < 9000) (hC : WC c) (hc : CX c μ) (hT : TW w tw μ) (hR : RX f t S μ) (hG : GC (N (c 2 0)) S) (hP : ∀ μ', RX f (t + 1) (stepP c tw t S) μ' → Fr f 14 μ μ' → P (some (.int (nI (bitsN (setP c tw t S) (N (c 2 0)))))) μ' ν) : Ct mX2_step 3 [.ref f] μ ν P := by
  have e2 : μ 2 0 = c 2 0 := hc 2 (by omega) (by omega) 0
  refine c_step hF ht (hC.cx hc) hT hR (by rw [e2]; exact hG) (fun μ' h1 h2 => ?_)
  rw [e2, setP_cx hc]
  rw [stepP_cx hc] at h1
  exact hP μ' h1 h2
theorem TW.fr {w : Nat} {tw μ μ' : MI} {lo n : Nat} (h : TW w tw μ) (hl : w + 5 ≤ lo) (hF : Fr lo n μ μ') : TW w tw μ' :=
  ⟨(hF w (Or.inl (by omega)) 0).trans h.1, fun s hs => ⟨(hF (w + 1) (Or.inl (by omega)) s).trans (h.2.1 s hs).1, (hF (w + 2) (Or.inl (by omega)) s).trans (h.2.1 s hs).2⟩, fun b hb => ⟨(hF (w + 3) (Or.inl (by omega)) b).trans (h.2.2 b hb).1, (hF (w + 4) (Or.inl (by omega)) b).trans (h.2.2 b hb).2⟩⟩
theorem RX.fr {f t : Nat} {S : St} {μ μ' : MI} {lo n : Nat} (h : RX f t S μ) (hl : f + 14 ≤ lo ∨ lo + n ≤ f) (hF : Fr lo n μ μ') : RX f t S μ' := by
  have e : ∀ a, a < 14 → ∀ j, μ' (f + a) j = μ (f + a) j := fun a ha j => hF (f + a) (by omega) j
  refine ⟨⟨(e 0 (by omega) 2).trans h.1.1, (e 0 (by omega) 3).trans h.1.2.1, (e 0 (by omega) 4).trans h.1.2.2.1, (e 0 (by omega) 5).trans h.1.2.2.2⟩, fun b hb => ?_, fun b hb => ?_⟩
  · obtain ⟨h1, h2, h3, h4, h5⟩ := h.2.1 b hb
    exact ⟨(e 1 (by omega) b).trans h1, (e 2 (by omega) b).trans h2, h3, (e 3 (by omega) b).trans h4, (e 4 (by omega) b).trans h5⟩
  · obtain ⟨h1, h2⟩ := h.2.2 b hb
    have e2 : ∀ j, μ' (f + 6 + b) j = μ (f + 6 + b) j := fun j => hF (f + 6 + b) (by omega) j
    exact ⟨(e2 _).trans h1, fun j h0 h20 => (e2 _).trans (h2 j h0 h20)⟩
theorem Fr.fill {lo n a m : Nat} {μ : MI} {x : Int32} (h1 : lo ≤ a) (h2 : a < lo + n) : Fr lo n μ (fillX μ a m x) := fun b hb j => fillX_a μ x j (by omega)
theorem c_begin {f w : Nat} (hF : FlowAt f w) {μ : MI} {ν : ML} {P : Po} (hP : ∀ μ', RX f 0 S0 μ' → Fr f 14 μ μ' → P none μ' ν) : Ct mX2_begin 1 [.ref f] μ ν P := by
  refine Ct.of (ls0 := [_, _]) (by decide) rfl (Nat.le_of_ble_eq_true rfl) rfl ?_
  have loop : ∀ (n i : Nat) (μ1 : MI), 8 - i < n → i ≤ 8 → Fr f 14 μ μ1 → (μ1 f 2 = nI 0 ∧ μ1 f 3 = 0 ∧ μ1 f 4 = 0 ∧ μ1 f 5 = 0) → (∀ b, b < 8 → μ1 (f + 1) b = 0 ∧ μ1 (f + 2) b = nI 0 ∧ μ1 (f + 3) b = 0 ∧ μ1 (f + 4) b = -1) → (∀ b, b < i → ∀ j, j < 20 → μ1 (f + 6 + b) j = 0) → AW mX2_begin (1, none) P 54 [some (.ref f), some (.int (nI i))] [] μ1 ν := by
    intro n
    induction n with
    | zero => intro i μ1 h; omega
    | succ n ih =>
      intro i μ1 hn hi hF1 h1 h2 h3
      refine A_iload_n dX2_begin_54 rfl ?_
      refine A_bipush (v := nI 8) dX2_begin_55 (by decide +kernel) ?_
      refine A_icmp_geN (tgt := 76) dX2_begin_57 (by decide) (by omega) (by omega) (fun b57 => ?_) (fun b57 => ?_)
      · refine A_vret dX2_begin_76 rfl ?_
        refine hP μ1 ⟨h1, fun b hb => ?_, fun b hb => ?_⟩ hF1
        · obtain ⟨q1, q2, q3, q4⟩ := h2 b hb
          exact ⟨q1, q2, Nat.zero_le _, q3, q4⟩
        · refine ⟨(h3 b (by omega) _ (by omega)).trans (show (0 : Int32) = (0 : Int32) + 0 by decide +kernel), fun j h0 h20 => h3 b (by omega) _ (by omega)⟩
      · refine A_aload_n dX2_begin_60 rfl ?_
        refine A_getR dX2_begin_61 flX2_26 hF.l0 rfl ?_
        refine A_iload_n dX2_begin_64 rfl ?_
        refine A_aald (j := i) dX2_begin_65 hF.l5 rfl b57 (by decide) (row_get f b57) ?_
        refine A_iconst (v := nI 0) dX2_begin_66 (by decide +kernel) ?_
        refine A_callS2 dX2_begin_67 mlX2_37 (by decide) (Nat.le_of_ble_eq_true rfl) (c_fill _ (hF.row b57) (by omega) ?_)
        refine Kn.v ?_
        refine A_iincN (ls1 := [_, _]) dX2_begin_70 rfl (by decide) rfl rfl ?_
        refine A_goto (tgt := 54) dX2_begin_73 (by decide) ?_
        refine ih (i + 1) _ (by omega) (by omega) (hF1.tr (Fr.fill (by omega) (by omega))) ?_ (fun b hb => ?_) (fun b hb j hj => ?_)
        · simp (disch := omega) only [fillX_a]; exact h1
        · simp (disch := omega) only [fillX_a]; exact h2 b hb
        · by_cases e : b = i
          · subst e
            exact fillX_in _ _ hj
          · rw [fillX_a _ _ _ (by omega)]
            exact h3 b (by omega) j hj
  refine A_aload_n dX2_begin_0 rfl ?_
  refine A_iconst (v := nI 0) dX2_begin_1 (by decide +kernel) ?_
  refine A_put dX2_begin_2 fpX2_43 hF.l0 rfl rfl rfl ?_
  refine A_aload_n dX2_begin_5 rfl ?_
  refine A_iconst (v := nI 0) dX2_begin_6 (by decide +kernel) ?_
  refine A_put dX2_begin_7 fpX2_47 hF.l0 rfl rfl rfl ?_
  refine A_aload_n dX2_begin_10 rfl ?_
  refine A_iconst (v := nI 0) dX2_begin_11 (by decide +kernel) ?_
  refine A_put dX2_begin_12 fpX2_50 hF.l0 rfl rfl rfl ?_
  refine A_aload_n dX2_begin_15 rfl ?_
  refine A_iconst (v := nI 0) dX2_begin_16 (by decide +kernel) ?_
  refine A_put dX2_begin_17 fpX2_53 hF.l0 rfl rfl rfl ?_
  refine A_aload_n dX2_begin_20 rfl ?_
  refine A_getR dX2_begin_21 flX2_9 hF.l0 rfl ?_
  refine A_iconst (v := nI 0) dX2_begin_24 (by decide +kernel) ?_
  refine A_callS2 dX2_begin_25 mlX2_37 (by decide) (Nat.le_of_ble_eq_true rfl) (c_fill _ hF.l1 (by omega) ?_)
  refine Kn.v ?_
  refine A_aload_n dX2_begin_28 rfl ?_
  refine A_getR dX2_begin_29 flX2_15 hF.l0 rfl ?_
  refine A_iconst (v := nI 0) dX2_begin_32 (by decide +kernel) ?_
  refine A_callS2 dX2_begin_33 mlX2_37 (by decide) (Nat.le_of_ble_eq_true rfl) (c_fill _ hF.l2 (by omega) ?_)
  refine Kn.v ?_
  refine A_aload_n dX2_begin_36 rfl ?_
  refine A_getR dX2_begin_37 flX2_18 hF.l0 rfl ?_
  refine A_iconst (v := nI 0) dX2_begin_40 (by decide +kernel) ?_
  refine A_callS2 dX2_begin_41 mlX2_37 (by decide) (Nat.le_of_ble_eq_true rfl) (c_fill _ hF.l3 (by omega) ?_)
  refine Kn.v ?_
  refine A_aload_n dX2_begin_44 rfl ?_
  refine A_getR dX2_begin_45 flX2_21 hF.l0 rfl ?_
  refine A_iconst (v := (-1)) dX2_begin_48 (by decide +kernel) ?_
  refine A_callS2 dX2_begin_49 mlX2_37 (by decide) (Nat.le_of_ble_eq_true rfl) (c_fill _ hF.l4 (by omega) ?_)
  refine Kn.v ?_
  refine A_iconst (v := nI 0) dX2_begin_52 (by decide +kernel) ?_
  refine A_istore_n (ls1 := [_, _]) dX2_begin_53 (by decide) rfl rfl ?_
  refine loop 9 0 _ (by omega) (by omega) ((((((((Fr.up (by omega) (by omega)).tr (Fr.up (by omega) (by omega))).tr (Fr.up (by omega) (by omega))).tr (Fr.up (by omega) (by omega))).tr (Fr.fill (by omega) (by omega))).tr (Fr.fill (by omega) (by omega))).tr (Fr.fill (by omega) (by omega))).tr (Fr.fill (by omega) (by omega))) ?_ (fun b hb => ?_) (fun b hb => by omega)
  · refine ⟨?_, ?_, ?_, ?_⟩ <;> (simp (disch := omega) only [fillX_a, up2_b, up2_s] <;> rfl)
  · refine ⟨?_, ?_, ?_, ?_⟩ <;> (simp (disch := omega) only [fillX_a, fillX_in] <;> rfl)
/-- the twist's cells and a flow's changed, no others -/
def Fq (f : Nat) (μ μ' : MI) : Prop := ∀ a, (a < 24 ∨ 29 ≤ a) → (a < f ∨ f + 14 ≤ a) → ∀ j, μ' a j = μ a j
theorem Fq.of {f : Nat} {μ μ' μ'' : MI} (h : Fr 24 5 μ μ') (h2 : Fr f 14 μ' μ'') : Fq f μ μ'' := fun a h3 h4 j => (h2 a h4 j).trans (h a h3 j)
theorem Fq.tr {f : Nat} {μ μ' μ'' : MI} (h : Fq f μ μ') (h2 : Fr f 14 μ' μ'') : Fq f μ μ'' := fun a h3 h4 j => (h2 a h4 j).trans (h a h3 h4 j)
theorem Fq.cx {f : Nat} {c μ μ' : MI} (hc : CX c μ) (hf : 29 ≤ f) (h : Fq f μ μ') : CX c μ' := fun k h1 h2 j => (h k (Or.inl (by omega)) (Or.inl (by omega)) j).trans (hc k h1 h2 j)
theorem c_runPlain {f n : Nat} (hF : FlowAt f 24) (hn : n < 3000) {c μ : MI} {ν : ML} {P : Po} (hC : WC c) (hc : CX c μ) (hP : ∀ μ', RX f n (runP c (tw0 (nI 1)) n) μ' → TW 24 (tw0 (nI 1)) μ' → Fq f μ μ' → P none μ' ν) : Ct mX9_runPlain 4 [.ref 0, .ref f, .int (nI n)] μ ν P := by
  have hr := hF.rng
  refine Ct.of (ls0 := [_, _, _, _]) (by decide) rfl (Nat.le_of_ble_eq_true rfl) rfl ?_
  have loop : ∀ (k i : Nat) (μ1 : MI), n - i < k → i ≤ n → Fq f μ μ1 → TW 24 (tw0 (nI 1)) μ1 → RX f i (runP c (tw0 (nI 1)) i) μ1 → AW mX9_runPlain (4, none) P 14 [some (.ref 0), some (.ref f), some (.int (nI n)), some (.int (nI i))] [] μ1 ν := by
    intro k
    induction k with
    | zero => intro i μ1 h; omega
    | succ k ih =>
      intro i μ1 hk hi hF1 hT1 hR1
      refine A_iload_n dX9_runPlain_14 rfl ?_
      refine A_iload_n dX9_runPlain_15 rfl ?_
      refine A_icmp_geN (tgt := 30) dX9_runPlain_16 (by decide) (by omega) (by omega) (fun b16 => ?_) (fun b16 => ?_)
      · refine A_vret dX9_runPlain_30 rfl ?_
        rw [show n = i by omega] at hP
        exact hP μ1 hR1 hT1 hF1
      · refine A_aload_n dX9_runPlain_19 rfl ?_
        refine A_callV0 dX9_runPlain_20 mlX9_163 (by decide) hF.l0 rfl (Nat.le_of_ble_eq_true rfl) (c_stepC hF (by omega) hC (hF1.cx hc (by omega)) hT1 hR1 (GC_run hC i) (fun μ2 hR2 hF2 => ?_))
        refine Kn.s ?_
        refine A_pop dX9_runPlain_23 rfl ?_
        refine A_iincN (ls1 := [_, _, _, _]) dX9_runPlain_24 rfl (by decide) rfl rfl ?_
        refine A_goto (tgt := 14) dX9_runPlain_27 (by decide) ?_
        exact ih (i + 1) μ2 (by omega) (by omega) (hF1.tr hF2) (hT1.fr (by omega) hF2) hR2
  refine A_aload_n dX9_runPlain_0 rfl ?_
  refine A_getR dX9_runPlain_1 flX9_28 rfl rfl ?_
  refine A_iconst (v := nI 1) dX9_runPlain_4 (by decide +kernel) ?_
  refine A_callV1 dX9_runPlain_5 mlX9_177 (by decide) rfl rfl (Nat.le_of_ble_eq_true rfl) (c_reset _ (Or.inr rfl) (fun μ1 hT1 hF1 => ?_))
  refine Kn.v ?_
  refine A_aload_n dX9_runPlain_8 rfl ?_
  refine A_callV0 dX9_runPlain_9 mlX9_172 (by decide) hF.l0 rfl (Nat.le_of_ble_eq_true rfl) (c_begin hF (fun μ2 hR2 hF2 => ?_))
  refine Kn.v ?_
  refine A_iconst (v := nI 0) dX9_runPlain_12 (by decide +kernel) ?_
  refine A_istore_n (ls1 := [_, _, _, _]) dX9_runPlain_13 (by decide) rfl rfl ?_
  exact loop (n + 1) 0 μ2 (by omega) (by omega) (Fq.of hF1 hF2) (hT1.fr (by omega) hF2) hR2
