/-! ===== the law's roads: what is asked ===== -/
theorem rng_of {x : Int32} {k n : Nat} (e : x = nI k) (h : k ≤ n) (hn : n < 2 ^ 31) : nI 0 ≤ x ∧ x ≤ nI n := by
  rw [e]
  exact ⟨nI_pos' (by omega), (nI_leI (by omega) hn).mpr h⟩
theorem rng_1 {x : Int32} {k n : Nat} (e : x = nI k) (h1 : 1 ≤ k) (h : k ≤ n) (hn : n < 2 ^ 31) : nI 1 ≤ x ∧ x ≤ nI n := by
  rw [e]
  exact ⟨(nI_leI (by omega) (by omega)).mpr h1, (nI_leI (by omega) hn).mpr h⟩
theorem nI_2 {x : Int32} {a b : Nat} (h1 : x = nI a) (h2 : x = nI b) (ha : a < 100000) (hb : b < 100000) : a = b := (nI_eq (by omega) (by omega)).mp (h1.symm.trans h2)
theorem LV.up {t : Nat} {S : St} {μ μ' : MI} (h : LV t S μ) (e : ∀ a, 75 ≤ a → ∀ j, μ' a j = μ a j) : LV t S μ' := by
  refine ⟨h.1.ext (fun a h1 h2 j => e a (by omega) j) (fun j h1 h2 => e 75 (by omega) j), (e 75 (by omega) 21).trans h.2.1, fun b hb => ?_⟩
  rw [e 92 (by omega), e 93 (by omega)]
  exact h.2.2 b hb
theorem CM.up75 {c μ μ' : MI} (h : CM c μ) (e : ∀ a, 75 ≤ a → ∀ j, μ' a j = μ a j) : CM c μ' := h.ext (fun _ _ _ _ => rfl) (fun j _ => e 75 (by omega) j) (fun a h1 _ j => e a (by omega) j)
theorem good_iff {c : MI} (hC : WC c) (n : Nat) : goodL c n = true ↔ beatB c n = true ∧ EQ c 1000 (1000 + n) := by
  unfold goodL
  rw [Bool.and_eq_true, likeB_iff hC]
  exact ⟨fun h => ⟨h.1, h.2.sy⟩, fun h => ⟨h.1, h.2.sy⟩⟩
theorem likeA_iff {c : MI} (hC : WC c) (n a : Nat) : likeA c n a = true ↔ EQ c a (a + n) := by
  unfold likeA
  rw [likeB_iff hC]
  exact ⟨fun h => h.sy, fun h => h.sy⟩
theorem fitM_sc {c μ μ' : MI} {ν : ML} (h : Sc μ μ') : fitM c μ' ν = fitM c μ ν := by
  funext f g
  unfold fitM hitM
  exact allB_cong (fun b _ => by rw [h 97 (Or.inr (Or.inr (by omega)))])
theorem cntB_set {K K' : Nat → Bool} {k : Nat} (h0 : K k = false) (h1 : K' k = true) (h : ∀ j, j ≠ k → K' j = K j) : ∀ n, cntB K' n = cntB K n + if k < n then 1 else 0
  | 0 => rfl
  | n + 1 => by
    rw [cntB, cntB, cntB_set h0 h1 h n]
    by_cases e : n = k
    · subst e
      rw [h0, h1, if_neg (Nat.lt_irrefl n), if_pos (Nat.lt_succ_self n), if_pos rfl, if_neg (by decide)]
    · rw [h n e]
      by_cases q : k < n
      · rw [if_pos q, if_pos (show k < n + 1 by omega)]
        omega
      · rw [if_neg q, if_neg (show ¬ k < n + 1 by omega)]
        omega
theorem IV.ticked {t k : Nat} {S : St} {μ μ1 μ2 : MI} {ν : ML} (h : IV t S μ ν) (hk : t + k ≤ 2000) (r1 : RX 33 (t + k) (advP μ zeP t S k) μ1) (r2 : Fr 33 14 μ μ1) (l1 : LV (t + k) (advP μ zeP t S k) μ2) (l2 : μ2 75 22 = μ1 75 22 + nI (cntP μ zeP t S k)) (l3 : Ml μ1 μ2) : IV (t + k) (advP μ zeP t S k) μ2 ν := by
  obtain ⟨h1, h2, h3, h4, h5, h6, h7⟩ := h
  have c0 : ∀ a, ¬ (33 ≤ a ∧ a < 47) → a ≠ 89 → a ≠ 90 → a ≠ 91 → a ≠ 75 → a ≠ 92 → a ≠ 93 → ∀ j, μ2 a j = μ a j := fun a q1 q2 q3 q4 q5 q6 q7 j => (l3 a j (by omega) (by omega) (by omega) (by omega)).trans (r2 a (by omega) j)
  have c75 : ∀ j, ¬ (21 ≤ j ∧ j ≤ 25) → μ2 75 j = μ 75 j := fun j q => (l3 75 j (by omega) (by omega) (by omega) (by omega)).trans (r2 75 (by omega) j)
  have e20 := c0 2 (by omega) (by omega) (by omega) (by omega) (by omega) (by omega) (by omega) 0
  have hT := h4.2.2.2.1
  have hB := h4.2.2.2.2
  refine ⟨hk, h2.row (fun a q1 q2 j => c0 a (by omega) (by omega) (by omega) (by omega) (by omega) (by omega) (by omega) j), h3.ext (fun a q1 q2 j => c0 a (by omega) (by omega) (by omega) (by omega) (by omega) (by omega) (by omega) j) (fun j q => c75 j (by omega)) (fun a q1 q2 j => c0 a (by omega) (by omega) (by omega) (by omega) (by omega) (by omega) (by omega) j), ⟨r1.ext (fun a ha j => l3 (33 + a) j (by omega) (by omega) (by omega) (by omega)), l1, ?_, ?_, ?_⟩, by rw [e20]; exact GC_adv h2 h5 k, by rw [e20]; exact GN_adv h2 h6 k, h7.ext (c0 29 (by omega) (by omega) (by omega) (by omega) (by omega) (by omega) (by omega) 0) e20 (fun j => c0 97 (by omega) (by omega) (by omega) (by omega) (by omega) (by omega) (by omega) j) (fun j => c0 30 (by omega) (by omega) (by omega) (by omega) (by omega) (by omega) (by omega) j) (fun _ => rfl) (fun _ => rfl)⟩
  · rw [l2, r2 75 (by omega), h4.2.2.1, sumK_adv h2]
  · exact ⟨(c0 19 (by omega) (by omega) (by omega) (by omega) (by omega) (by omega) (by omega) 0).trans hT.1, fun s hs => ⟨(c0 20 (by omega) (by omega) (by omega) (by omega) (by omega) (by omega) (by omega) s).trans (hT.2.1 s hs).1, (c0 21 (by omega) (by omega) (by omega) (by omega) (by omega) (by omega) (by omega) s).trans (hT.2.1 s hs).2⟩, fun b hb => ⟨(c0 22 (by omega) (by omega) (by omega) (by omega) (by omega) (by omega) (by omega) b).trans (hT.2.2 b hb).1, (c0 23 (by omega) (by omega) (by omega) (by omega) (by omega) (by omega) (by omega) b).trans (hT.2.2 b hb).2⟩⟩
  · exact ⟨fun s hs => (c0 94 (by omega) (by omega) (by omega) (by omega) (by omega) (by omega) (by omega) s).trans (hB.1 s hs), (c75 28 (by omega)).trans hB.2.1, (c75 29 (by omega)).trans hB.2.2⟩
theorem IV.anew {t : Nat} {S : St} {μ μ1 μ2 : MI} {ν : ML} (h : IV t S μ ν) (r1 : RX 33 0 S0 μ1) (r2 : Fr 33 14 μ μ1) (l1 : LV 0 S0 μ2) (l2 : μ2 75 22 = 0) (l3 : Ml μ1 μ2) : IV 0 S0 μ2 ν := by
  obtain ⟨h1, h2, h3, h4, h5, h6, h7⟩ := h
  have c0 : ∀ a, ¬ (33 ≤ a ∧ a < 47) → a ≠ 89 → a ≠ 90 → a ≠ 91 → a ≠ 75 → a ≠ 92 → a ≠ 93 → ∀ j, μ2 a j = μ a j := fun a q1 q2 q3 q4 q5 q6 q7 j => (l3 a j (by omega) (by omega) (by omega) (by omega)).trans (r2 a (by omega) j)
  have c75 : ∀ j, ¬ (21 ≤ j ∧ j ≤ 25) → μ2 75 j = μ 75 j := fun j q => (l3 75 j (by omega) (by omega) (by omega) (by omega)).trans (r2 75 (by omega) j)
  have e20 := c0 2 (by omega) (by omega) (by omega) (by omega) (by omega) (by omega) (by omega) 0
  have hT := h4.2.2.2.1
  have hB := h4.2.2.2.2
  refine ⟨by omega, h2.row (fun a q1 q2 j => c0 a (by omega) (by omega) (by omega) (by omega) (by omega) (by omega) (by omega) j), h3.ext (fun a q1 q2 j => c0 a (by omega) (by omega) (by omega) (by omega) (by omega) (by omega) (by omega) j) (fun j q => c75 j (by omega)) (fun a q1 q2 j => c0 a (by omega) (by omega) (by omega) (by omega) (by omega) (by omega) (by omega) j), ⟨r1.ext (fun a ha j => l3 (33 + a) j (by omega) (by omega) (by omega) (by omega)), l1, ?_, ?_, ?_⟩, GC_S0 _, GN_S0 _, h7.ext (c0 29 (by omega) (by omega) (by omega) (by omega) (by omega) (by omega) (by omega) 0) e20 (fun j => c0 97 (by omega) (by omega) (by omega) (by omega) (by omega) (by omega) (by omega) j) (fun j => c0 30 (by omega) (by omega) (by omega) (by omega) (by omega) (by omega) (by omega) j) (fun _ => rfl) (fun _ => rfl)⟩
  · rw [l2]
    decide +kernel
  · exact ⟨(c0 19 (by omega) (by omega) (by omega) (by omega) (by omega) (by omega) (by omega) 0).trans hT.1, fun s hs => ⟨(c0 20 (by omega) (by omega) (by omega) (by omega) (by omega) (by omega) (by omega) s).trans (hT.2.1 s hs).1, (c0 21 (by omega) (by omega) (by omega) (by omega) (by omega) (by omega) (by omega) s).trans (hT.2.1 s hs).2⟩, fun b hb => ⟨(c0 22 (by omega) (by omega) (by omega) (by omega) (by omega) (by omega) (by omega) b).trans (hT.2.2 b hb).1, (c0 23 (by omega) (by omega) (by omega) (by omega) (by omega) (by omega) (by omega) b).trans (hT.2.2 b hb).2⟩⟩
  · exact ⟨fun s hs => (c0 94 (by omega) (by omega) (by omega) (by omega) (by omega) (by omega) (by omega) s).trans (hB.1 s hs), (c75 28 (by omega)).trans hB.2.1, (c75 29 (by omega)).trans hB.2.2⟩
/-- what was heard changed, in both -/
theorem IV.hrd {t : Nat} {S : St} {μ μ' : MI} {ν ν' : ML} (h : IV t S μ ν) (e : ∀ a j, a ≠ 29 → a ≠ 30 → a ≠ 97 → μ' a j = μ a j) (hH : HR μ' ν') : IV t S μ' ν' := by
  obtain ⟨h1, h2, h3, h4, h5, h6, h7⟩ := h
  have e20 := e 2 0 (by omega) (by omega) (by omega)
  have hB := h4.2.2.2.2
  exact ⟨h1, h2.row (fun a q1 q2 j => e a j (by omega) (by omega) (by omega)), h3.ext (fun a q1 q2 j => e a j (by omega) (by omega) (by omega)) (fun j _ => e 75 j (by omega) (by omega) (by omega)) (fun a q1 q2 j => e a j (by omega) (by omega) (by omega)), h4.ext (fun a q1 q2 j => e a j (by omega) (by omega) (by omega)) (fun a q1 q2 j => e a j (by omega) (by omega) (by omega)) (fun j _ _ => e 75 j (by omega) (by omega) (by omega)) (fun a j q _ => e a j (by omega) (by omega) (by omega)) (fun j _ => e 91 j (by omega) (by omega) (by omega)) (fun a j q => e a j (by omega) (by omega) (by omega)) ⟨fun s hs => (e 94 s (by omega) (by omega) (by omega)).trans (hB.1 s hs), (e 75 28 (by omega) (by omega) (by omega)).trans hB.2.1, (e 75 29 (by omega) (by omega) (by omega)).trans hB.2.2⟩, by rw [e20]; exact h5, by rw [e20]; exact h6, hH⟩
theorem op_told {L i : Nat} {xs : Nat → Int32} {μ : MI} {ν : ML} (hL : L ≤ 3072) (hi : i + 6 ≤ L) (hV : INV μ ν) (next : ∀ μ' ν', INV μ' ν' → AW mL_law (9, some (L, xs)) lwP 817 [some (.ref NO), some (.ref 0), some (.ref 75), some (.int (nI i))] [] μ' ν') : AW mL_law (9, some (L, xs)) lwP 385 [some (.ref NO), some (.ref 0), some (.ref 75), some (.int (nI i))] [] μ ν := by
  obtain ⟨t, S, hV⟩ := hV
  obtain ⟨h1, h2, h3, h4, h5, h6, h7⟩ := id hV
  have hnb := h2.1.1
  have hns := h2.2.1.1
  have hfr := h2.2.2.1
  have hsp := h2.2.2.2.1.1
  have hB := h4.2.2.2.2
  have hnb2 := hnb.2
  have hns2 := hns.2
  have hfr2 := hfr.2
  have hsp2 := hsp.2
  have hmb : μ 75 0 = nI (N (μ 2 0)) := h3.1.1.trans hnb.1
  have hms : μ 75 5 = nI (N (μ 7 0)) := h3.1.2.1.trans hns.1
  have hLV := h4.2.1
  have hG20 : ∀ b, b < 8 → sC S b 20 = 0 := fun b hb => h5.1 b 20 hb (by omega)
  refine A_aload_n dL_law_385 rfl ?_
  refine A_aload_n dL_law_386 rfl ?_
  refine A_iload_n dL_law_387 rfl ?_
  refine A_iconst (v := nI 1) dL_law_388 (by decide +kernel) ?_
  refine A_iaddN dL_law_389 ?_
  refine A_sld dL_law_390 rfl (vp_in_nI (by omega) (by omega)) ?_
  refine A_aload_n dL_law_391 rfl ?_
  refine A_iload_n dL_law_392 rfl ?_
  refine A_iconst (v := nI 2) dL_law_393 (by decide +kernel) ?_
  refine A_iaddN dL_law_394 ?_
  refine A_sld dL_law_395 rfl (vp_in_nI (by omega) (by omega)) ?_
  refine A_callV2 dL_law_396 mlL_45 (Nat.le_of_ble_eq_true rfl) rfl rfl (Nat.le_of_ble_eq_true rfl) (c_told _ _ hnb.1 hnb.2 (fun g => ?_) (fun k j e1 e2 e3 e4 => ?_) (fun g s => ?_))
  · refine Kn.s ?_
    refine A_pop dL_law_399 rfl ?_
    refine A_aload_n dL_law_400 rfl ?_
    refine A_aload_n dL_law_401 rfl ?_
    refine A_iload_n dL_law_402 rfl ?_
    refine A_iconst (v := nI 1) dL_law_403 (by decide +kernel) ?_
    refine A_iaddN dL_law_404 ?_
    refine A_sld dL_law_405 rfl (vp_in_nI (by omega) (by omega)) ?_
    refine A_aload_n dL_law_406 rfl ?_
    refine A_iload_n dL_law_407 rfl ?_
    refine A_iconst (v := nI 2) dL_law_408 (by decide +kernel) ?_
    refine A_iaddN dL_law_409 ?_
    refine A_sld dL_law_410 rfl (vp_in_nI (by omega) (by omega)) ?_
    refine A_callV2 dL_law_411 mlL_48 (Nat.le_of_ble_eq_true rfl) rfl rfl (Nat.le_of_ble_eq_true rfl) (m_told (t := t) (S := S) (c := μ) _ _ h3 hnb.1 hnb.2 (by omega) hLV.1 hLV.2.1 hLV.2.2 (fun _ => ?_) (fun k j e1 e2 _ _ => absurd ⟨k, e1, e2⟩ g) (fun q _ => absurd q g))
    refine Kn.s ?_
    refine A_pop dL_law_414 rfl ?_
    refine A_goto (tgt := 817) dL_law_415 (by decide) ?_
    exact next μ ν ⟨t, S, hV⟩
  · refine Kn.s ?_
    refine A_pop dL_law_399 rfl ?_
    refine A_aload_n dL_law_400 rfl ?_
    refine A_aload_n dL_law_401 rfl ?_
    refine A_iload_n dL_law_402 rfl ?_
    refine A_iconst (v := nI 1) dL_law_403 (by decide +kernel) ?_
    refine A_iaddN dL_law_404 ?_
    refine A_sld dL_law_405 rfl (vp_in_nI (by omega) (by omega)) ?_
    refine A_aload_n dL_law_406 rfl ?_
    refine A_iload_n dL_law_407 rfl ?_
    refine A_iconst (v := nI 2) dL_law_408 (by decide +kernel) ?_
    refine A_iaddN dL_law_409 ?_
    refine A_sld dL_law_410 rfl (vp_in_nI (by omega) (by omega)) ?_
    refine A_callV2 dL_law_411 mlL_48 (Nat.le_of_ble_eq_true rfl) rfl rfl (Nat.le_of_ble_eq_true rfl) (m_told (t := t) (S := S) (c := μ) _ _ h3 hnb.1 hnb.2 (by omega) hLV.1 hLV.2.1 hLV.2.2 (fun q => absurd ⟨k, e1, e2⟩ q) (fun k2 j2 a1 a2 a3 a4 => ?_) (fun _ q => by rw [e4, nI_toInt (by omega)] at q; omega))
    refine Kn.s ?_
    have ek := nI_2 a1 e1 (by omega) (by omega)
    have ej := nI_2 a4 e4 (by omega) (by omega)
    subst ek
    subst ej
    have ev := told_eq (j := j2) h4.1 hG20 (show k2 < 8 by omega) e3
    refine A_pop dL_law_414 rfl ?_
    refine A_goto (tgt := 817) dL_law_415 (by decide) ?_
    exact next μ ν ⟨t, S, hV⟩
  · refine Kn.s ?_
    refine A_pop dL_law_399 rfl ?_
    refine A_aload_n dL_law_400 rfl ?_
    refine A_aload_n dL_law_401 rfl ?_
    refine A_iload_n dL_law_402 rfl ?_
    refine A_iconst (v := nI 1) dL_law_403 (by decide +kernel) ?_
    refine A_iaddN dL_law_404 ?_
    refine A_sld dL_law_405 rfl (vp_in_nI (by omega) (by omega)) ?_
    refine A_aload_n dL_law_406 rfl ?_
    refine A_iload_n dL_law_407 rfl ?_
    refine A_iconst (v := nI 2) dL_law_408 (by decide +kernel) ?_
    refine A_iaddN dL_law_409 ?_
    refine A_sld dL_law_410 rfl (vp_in_nI (by omega) (by omega)) ?_
    refine A_callV2 dL_law_411 mlL_48 (Nat.le_of_ble_eq_true rfl) rfl rfl (Nat.le_of_ble_eq_true rfl) (m_told (t := t) (S := S) (c := μ) _ _ h3 hnb.1 hnb.2 (by omega) hLV.1 hLV.2.1 hLV.2.2 (fun q => absurd g q) (fun k j a1 a2 a3 a4 => by rw [a4, nI_toInt (by omega)] at s; omega) (fun _ _ => ?_))
    refine Kn.s ?_
    refine A_pop dL_law_414 rfl ?_
    refine A_goto (tgt := 817) dL_law_415 (by decide) ?_
    exact next μ ν ⟨t, S, hV⟩
theorem op_count {L i : Nat} {xs : Nat → Int32} {μ : MI} {ν : ML} (hL : L ≤ 3072) (hi : i + 6 ≤ L) (hV : INV μ ν) (next : ∀ μ' ν', INV μ' ν' → AW mL_law (9, some (L, xs)) lwP 817 [some (.ref NO), some (.ref 0), some (.ref 75), some (.int (nI i))] [] μ' ν') : AW mL_law (9, some (L, xs)) lwP 418 [some (.ref NO), some (.ref 0), some (.ref 75), some (.int (nI i))] [] μ ν := by
  obtain ⟨t, S, hV⟩ := hV
  obtain ⟨h1, h2, h3, h4, h5, h6, h7⟩ := id hV
  have hnb := h2.1.1
  have hns := h2.2.1.1
  have hfr := h2.2.2.1
  have hsp := h2.2.2.2.1.1
  have hB := h4.2.2.2.2
  have hnb2 := hnb.2
  have hns2 := hns.2
  have hfr2 := hfr.2
  have hsp2 := hsp.2
  have hmb : μ 75 0 = nI (N (μ 2 0)) := h3.1.1.trans hnb.1
  have hms : μ 75 5 = nI (N (μ 7 0)) := h3.1.2.1.trans hns.1
  have hLV := h4.2.1
  have hG20 : ∀ b, b < 8 → sC S b 20 = 0 := fun b hb => h5.1 b 20 hb (by omega)
  refine A_aload_n dL_law_418 rfl ?_
  refine A_aload_n dL_law_419 rfl ?_
  refine A_iload_n dL_law_420 rfl ?_
  refine A_iconst (v := nI 1) dL_law_421 (by decide +kernel) ?_
  refine A_iaddN dL_law_422 ?_
  refine A_sld dL_law_423 rfl (vp_in_nI (by omega) (by omega)) ?_
  refine A_callV1 dL_law_424 mlL_49 (Nat.le_of_ble_eq_true rfl) rfl rfl (Nat.le_of_ble_eq_true rfl) (c_count _ (fun j hj e => ?_) (fun s => ?_))
  · refine Kn.s ?_
    refine A_pop dL_law_427 rfl ?_
    refine A_aload_n dL_law_428 rfl ?_
    refine A_aload_n dL_law_429 rfl ?_
    refine A_iload_n dL_law_430 rfl ?_
    refine A_iconst (v := nI 1) dL_law_431 (by decide +kernel) ?_
    refine A_iaddN dL_law_432 ?_
    refine A_sld dL_law_433 rfl (vp_in_nI (by omega) (by omega)) ?_
    refine A_callV1 dL_law_434 mlL_52 (Nat.le_of_ble_eq_true rfl) rfl rfl (Nat.le_of_ble_eq_true rfl) (m_count (t := t) (S := S) _ hmb hnb.2 hLV.1.1 (fun j2 hj2 e2 => ?_) (fun q => by rw [e, nI_toInt (by omega)] at q; omega))
    refine Kn.s ?_
    have ej := nI_2 e2 e (by omega) (by omega)
    subst ej
    have ev := count_eq hV hj
    refine A_pop dL_law_437 rfl ?_
    refine A_goto (tgt := 817) dL_law_438 (by decide) ?_
    exact next μ ν ⟨t, S, hV⟩
  · refine Kn.s ?_
    refine A_pop dL_law_427 rfl ?_
    refine A_aload_n dL_law_428 rfl ?_
    refine A_aload_n dL_law_429 rfl ?_
    refine A_iload_n dL_law_430 rfl ?_
    refine A_iconst (v := nI 1) dL_law_431 (by decide +kernel) ?_
    refine A_iaddN dL_law_432 ?_
    refine A_sld dL_law_433 rfl (vp_in_nI (by omega) (by omega)) ?_
    refine A_callV1 dL_law_434 mlL_52 (Nat.le_of_ble_eq_true rfl) rfl rfl (Nat.le_of_ble_eq_true rfl) (m_count (t := t) (S := S) _ hmb hnb.2 hLV.1.1 (fun j hj e => by rw [e, nI_toInt (by omega)] at s; omega) (fun _ => ?_))
    refine Kn.s ?_
    refine A_pop dL_law_437 rfl ?_
    refine A_goto (tgt := 817) dL_law_438 (by decide) ?_
    exact next μ ν ⟨t, S, hV⟩
theorem op_tick {L i : Nat} {xs : Nat → Int32} {μ : MI} {ν : ML} (hL : L ≤ 3072) (hi : i + 6 ≤ L) (hV : INV μ ν) (next : ∀ μ' ν', INV μ' ν' → AW mL_law (9, some (L, xs)) lwP 817 [some (.ref NO), some (.ref 0), some (.ref 75), some (.int (nI i))] [] μ' ν') : AW mL_law (9, some (L, xs)) lwP 441 [some (.ref NO), some (.ref 0), some (.ref 75), some (.int (nI i))] [] μ ν := by
  obtain ⟨t, S, hV⟩ := hV
  obtain ⟨h1, h2, h3, h4, h5, h6, h7⟩ := id hV
  have hnb := h2.1.1
  have hns := h2.2.1.1
  have hfr := h2.2.2.1
  have hsp := h2.2.2.2.1.1
  have hB := h4.2.2.2.2
  have hnb2 := hnb.2
  have hns2 := hns.2
  have hfr2 := hfr.2
  have hsp2 := hsp.2
  have hmb : μ 75 0 = nI (N (μ 2 0)) := h3.1.1.trans hnb.1
  have hms : μ 75 5 = nI (N (μ 7 0)) := h3.1.2.1.trans hns.1
  have hLV := h4.2.1
  have hG20 : ∀ b, b < 8 → sC S b 20 = 0 := fun b hb => h5.1 b 20 hb (by omega)
  refine A_aload_n dL_law_441 rfl ?_
  refine A_aload_n dL_law_442 rfl ?_
  refine A_iload_n dL_law_443 rfl ?_
  refine A_iconst (v := nI 1) dL_law_444 (by decide +kernel) ?_
  refine A_iaddN dL_law_445 ?_
  refine A_sld dL_law_446 rfl (vp_in_nI (by omega) (by omega)) ?_
  refine A_callV1 dL_law_447 mlL_53 (Nat.le_of_ble_eq_true rfl) rfl rfl (Nat.le_of_ble_eq_true rfl) (c_tick _ h1 h2 h4.2.2.2.1 h4.1 h5 (fun g => ?_) (fun k e k2 k3 => ?_) (fun k μ1 e k2 k3 r1 r2 => ?_))
  · refine Kn.s ?_
    refine A_pop dL_law_450 rfl ?_
    refine A_aload_n dL_law_451 rfl ?_
    refine A_aload_n dL_law_452 rfl ?_
    refine A_iload_n dL_law_453 rfl ?_
    refine A_iconst (v := nI 1) dL_law_454 (by decide +kernel) ?_
    refine A_iaddN dL_law_455 ?_
    refine A_sld dL_law_456 rfl (vp_in_nI (by omega) (by omega)) ?_
    refine A_callV1 dL_law_457 mlL_56 (Nat.le_of_ble_eq_true rfl) rfl rfl (Nat.le_of_ble_eq_true rfl) (m_tick (c := μ) _ h1 h2 h3 hLV h5 h6.gd (fun _ => ?_) (fun k e k2 _ => absurd (rng_of e k2 (by omega)) g) (fun k _ e k2 _ _ _ _ => absurd (rng_of e k2 (by omega)) g))
    refine Kn.s ?_
    refine A_pop dL_law_460 rfl ?_
    refine A_goto (tgt := 817) dL_law_461 (by decide) ?_
    exact next μ ν ⟨t, S, hV⟩
  · refine Kn.s ?_
    refine A_pop dL_law_450 rfl ?_
    refine A_aload_n dL_law_451 rfl ?_
    refine A_aload_n dL_law_452 rfl ?_
    refine A_iload_n dL_law_453 rfl ?_
    refine A_iconst (v := nI 1) dL_law_454 (by decide +kernel) ?_
    refine A_iaddN dL_law_455 ?_
    refine A_sld dL_law_456 rfl (vp_in_nI (by omega) (by omega)) ?_
    refine A_callV1 dL_law_457 mlL_56 (Nat.le_of_ble_eq_true rfl) rfl rfl (Nat.le_of_ble_eq_true rfl) (m_tick (c := μ) _ h1 h2 h3 hLV h5 h6.gd (fun q => absurd (rng_of e k2 (by omega)) q) (fun _ _ _ _ => ?_) (fun u _ e2 q2 q3 _ _ _ => by have := nI_2 e2 e (by omega) (by omega); omega))
    refine Kn.s ?_
    refine A_pop dL_law_460 rfl ?_
    refine A_goto (tgt := 817) dL_law_461 (by decide) ?_
    exact next μ ν ⟨t, S, hV⟩
  · refine Kn.s ?_
    refine A_pop dL_law_450 rfl ?_
    refine A_aload_n dL_law_451 rfl ?_
    refine A_aload_n dL_law_452 rfl ?_
    refine A_iload_n dL_law_453 rfl ?_
    refine A_iconst (v := nI 1) dL_law_454 (by decide +kernel) ?_
    refine A_iaddN dL_law_455 ?_
    refine A_sld dL_law_456 rfl (vp_in_nI (by omega) (by omega)) ?_
    refine A_callV1 dL_law_457 mlL_56 (Nat.le_of_ble_eq_true rfl) rfl rfl (Nat.le_of_ble_eq_true rfl) (m_tick (c := μ) (S := S) (t := t) _ h1 h2 (h3.up75 (fun a q j => r2 a (Or.inr (by omega)) j)) (hLV.up (fun a q j => r2 a (Or.inr (by omega)) j)) h5 h6.gd (fun q => absurd (rng_of e k2 (by omega)) q) (fun u e2 q2 q3 => by have := nI_2 e2 e (by omega) (by omega); omega) (fun u μ2 e2 q2 q3 l1 l2 l3 => ?_))
    refine Kn.s ?_
    have eu := nI_2 e2 e (by omega) (by omega)
    subst eu
    refine A_pop dL_law_460 rfl ?_
    refine A_goto (tgt := 817) dL_law_461 (by decide) ?_
    exact next μ2 ν ⟨_, _, hV.ticked q3 r1 r2 l1 l2 l3⟩
theorem op_again {L i : Nat} {xs : Nat → Int32} {μ : MI} {ν : ML} (hL : L ≤ 3072) (hi : i + 6 ≤ L) (hV : INV μ ν) (next : ∀ μ' ν', INV μ' ν' → AW mL_law (9, some (L, xs)) lwP 817 [some (.ref NO), some (.ref 0), some (.ref 75), some (.int (nI i))] [] μ' ν') : AW mL_law (9, some (L, xs)) lwP 464 [some (.ref NO), some (.ref 0), some (.ref 75), some (.int (nI i))] [] μ ν := by
  obtain ⟨t, S, hV⟩ := hV
  obtain ⟨h1, h2, h3, h4, h5, h6, h7⟩ := id hV
  have hnb := h2.1.1
  have hns := h2.2.1.1
  have hfr := h2.2.2.1
  have hsp := h2.2.2.2.1.1
  have hB := h4.2.2.2.2
  have hnb2 := hnb.2
  have hns2 := hns.2
  have hfr2 := hfr.2
  have hsp2 := hsp.2
  have hmb : μ 75 0 = nI (N (μ 2 0)) := h3.1.1.trans hnb.1
  have hms : μ 75 5 = nI (N (μ 7 0)) := h3.1.2.1.trans hns.1
  have hLV := h4.2.1
  have hG20 : ∀ b, b < 8 → sC S b 20 = 0 := fun b hb => h5.1 b 20 hb (by omega)
  refine A_aload_n dL_law_464 rfl ?_
  refine A_callV0 dL_law_465 mlL_57 (Nat.le_of_ble_eq_true rfl) rfl rfl (Nat.le_of_ble_eq_true rfl) (c_again h4.1 (fun μ1 r1 r2 => ?_))
  refine Kn.s ?_
  refine A_pop dL_law_468 rfl ?_
  refine A_aload_n dL_law_469 rfl ?_
  refine A_callV0 dL_law_470 mlL_61 (Nat.le_of_ble_eq_true rfl) rfl rfl (Nat.le_of_ble_eq_true rfl) (m_again (t := t) ((r2 75 (Or.inr (by omega)) 21).trans hLV.2.1) (fun μ2 l1 l2 l3 => ?_))
  refine Kn.s ?_
  refine A_pop dL_law_473 rfl ?_
  refine A_goto (tgt := 817) dL_law_474 (by decide) ?_
  exact next μ2 ν ⟨_, _, hV.anew r1 r2 l1 l2 l3⟩
theorem op_row {L i : Nat} {xs : Nat → Int32} {μ : MI} {ν : ML} (hL : L ≤ 3072) (hi : i + 6 ≤ L) (hV : INV μ ν) (next : ∀ μ' ν', INV μ' ν' → AW mL_law (9, some (L, xs)) lwP 817 [some (.ref NO), some (.ref 0), some (.ref 75), some (.int (nI i))] [] μ' ν') : AW mL_law (9, some (L, xs)) lwP 477 [some (.ref NO), some (.ref 0), some (.ref 75), some (.int (nI i))] [] μ ν := by
  obtain ⟨t, S, hV⟩ := hV
  obtain ⟨h1, h2, h3, h4, h5, h6, h7⟩ := id hV
  have hnb := h2.1.1
  have hns := h2.2.1.1
  have hfr := h2.2.2.1
  have hsp := h2.2.2.2.1.1
  have hB := h4.2.2.2.2
  have hnb2 := hnb.2
  have hns2 := hns.2
  have hfr2 := hfr.2
  have hsp2 := hsp.2
  have hmb : μ 75 0 = nI (N (μ 2 0)) := h3.1.1.trans hnb.1
  have hms : μ 75 5 = nI (N (μ 7 0)) := h3.1.2.1.trans hns.1
  have hLV := h4.2.1
  have hG20 : ∀ b, b < 8 → sC S b 20 = 0 := fun b hb => h5.1 b 20 hb (by omega)
  refine A_aload_n dL_law_477 rfl ?_
  refine A_aload_n dL_law_478 rfl ?_
  refine A_iload_n dL_law_479 rfl ?_
  refine A_iconst (v := nI 1) dL_law_480 (by decide +kernel) ?_
  refine A_iaddN dL_law_481 ?_
  refine A_sld dL_law_482 rfl (vp_in_nI (by omega) (by omega)) ?_
  refine A_aload_n dL_law_483 rfl ?_
  refine A_iload_n dL_law_484 rfl ?_
  refine A_iconst (v := nI 2) dL_law_485 (by decide +kernel) ?_
  refine A_iaddN dL_law_486 ?_
  refine A_sld dL_law_487 rfl (vp_in_nI (by omega) (by omega)) ?_
  refine A_if_eq (tgt := 495) dL_law_488 (by decide) (fun b488 => ?_) (fun b488 => ?_)
  · refine A_iconst (v := nI 0) dL_law_495 (by decide +kernel) ?_
    refine A_callV2 dL_law_496 mlL_62 (Nat.le_of_ble_eq_true rfl) rfl rfl (Nat.le_of_ble_eq_true rfl) (c_row _ (nI 0) (Or.inl rfl) h2 (CX.rf μ) hnb.1 hnb.2 (fun g => ?_) (fun k μ1 e hk hS => ?_))
    · refine Kn.s ?_
      refine A_pop2 dL_law_499 rfl ?_
      refine A_aload_n dL_law_500 rfl ?_
      refine A_aload_n dL_law_501 rfl ?_
      refine A_iload_n dL_law_502 rfl ?_
      refine A_iconst (v := nI 1) dL_law_503 (by decide +kernel) ?_
      refine A_iaddN dL_law_504 ?_
      refine A_sld dL_law_505 rfl (vp_in_nI (by omega) (by omega)) ?_
      refine A_aload_n dL_law_506 rfl ?_
      refine A_iload_n dL_law_507 rfl ?_
      refine A_iconst (v := nI 2) dL_law_508 (by decide +kernel) ?_
      refine A_iaddN dL_law_509 ?_
      refine A_sld dL_law_510 rfl (vp_in_nI (by omega) (by omega)) ?_
      refine A_if_eq (tgt := 518) dL_law_511 (by decide) (fun b511 => ?_) (fun b511 => absurd b511 (fun q => q b488))
      refine A_iconst (v := nI 0) dL_law_518 (by decide +kernel) ?_
      refine A_callV2 dL_law_519 mlL_66 (Nat.le_of_ble_eq_true rfl) rfl rfl (Nat.le_of_ble_eq_true rfl) (m_row (c := μ) _ (nI 0) h2 h3 hB hnb.1 hnb.2 (fun _ => ?_) (fun k _ _ e hk _ _ => absurd ⟨k, e, hk⟩ g))
      refine Kn.s ?_
      refine A_pop2 dL_law_522 rfl ?_
      refine A_goto (tgt := 817) dL_law_523 (by decide) ?_
      exact next μ ν ⟨t, S, hV⟩
    · refine Kn.s ?_
      refine A_pop2 dL_law_499 rfl ?_
      refine A_aload_n dL_law_500 rfl ?_
      refine A_aload_n dL_law_501 rfl ?_
      refine A_iload_n dL_law_502 rfl ?_
      refine A_iconst (v := nI 1) dL_law_503 (by decide +kernel) ?_
      refine A_iaddN dL_law_504 ?_
      refine A_sld dL_law_505 rfl (vp_in_nI (by omega) (by omega)) ?_
      refine A_aload_n dL_law_506 rfl ?_
      refine A_iload_n dL_law_507 rfl ?_
      refine A_iconst (v := nI 2) dL_law_508 (by decide +kernel) ?_
      refine A_iaddN dL_law_509 ?_
      refine A_sld dL_law_510 rfl (vp_in_nI (by omega) (by omega)) ?_
      refine A_if_eq (tgt := 518) dL_law_511 (by decide) (fun b511 => ?_) (fun b511 => absurd b511 (fun q => q b488))
      refine A_iconst (v := nI 0) dL_law_518 (by decide +kernel) ?_
      refine A_callV2 dL_law_519 mlL_66 (Nat.le_of_ble_eq_true rfl) rfl rfl (Nat.le_of_ble_eq_true rfl) (m_row (c := μ) _ (nI 0) h2 (h3.sc hS) (hB.sc hS) hnb.1 hnb.2 (fun q => absurd ⟨k, e, hk⟩ q) (fun k2 μ2 ν2 e2 hk2 m1 m2 => ?_))
      refine Kn.s ?_
      have ek := nI_2 e2 e (by omega) (by omega)
      subst ek
      refine A_pop2 dL_law_522 rfl ?_
      refine A_goto (tgt := 817) dL_law_523 (by decide) ?_
      exact next μ2 ν2 ⟨t, S, hV.look hS (Ms.mr m1) m2 ((hB.sc hS).mr m1)⟩
  · refine A_iconst (v := nI 1) dL_law_491 (by decide +kernel) ?_
    refine A_goto (tgt := 496) dL_law_492 (by decide) ?_
    refine A_callV2 dL_law_496 mlL_62 (Nat.le_of_ble_eq_true rfl) rfl rfl (Nat.le_of_ble_eq_true rfl) (c_row _ (nI 1) (Or.inr rfl) h2 (CX.rf μ) hnb.1 hnb.2 (fun g => ?_) (fun k μ1 e hk hS => ?_))
    · refine Kn.s ?_
      refine A_pop2 dL_law_499 rfl ?_
      refine A_aload_n dL_law_500 rfl ?_
      refine A_aload_n dL_law_501 rfl ?_
      refine A_iload_n dL_law_502 rfl ?_
      refine A_iconst (v := nI 1) dL_law_503 (by decide +kernel) ?_
      refine A_iaddN dL_law_504 ?_
      refine A_sld dL_law_505 rfl (vp_in_nI (by omega) (by omega)) ?_
      refine A_aload_n dL_law_506 rfl ?_
      refine A_iload_n dL_law_507 rfl ?_
      refine A_iconst (v := nI 2) dL_law_508 (by decide +kernel) ?_
      refine A_iaddN dL_law_509 ?_
      refine A_sld dL_law_510 rfl (vp_in_nI (by omega) (by omega)) ?_
      refine A_if_eq (tgt := 518) dL_law_511 (by decide) (fun b511 => absurd b511 b488) (fun b511 => ?_)
      refine A_iconst (v := nI 1) dL_law_514 (by decide +kernel) ?_
      refine A_goto (tgt := 519) dL_law_515 (by decide) ?_
      refine A_callV2 dL_law_519 mlL_66 (Nat.le_of_ble_eq_true rfl) rfl rfl (Nat.le_of_ble_eq_true rfl) (m_row (c := μ) _ (nI 1) h2 h3 hB hnb.1 hnb.2 (fun _ => ?_) (fun k _ _ e hk _ _ => absurd ⟨k, e, hk⟩ g))
      refine Kn.s ?_
      refine A_pop2 dL_law_522 rfl ?_
      refine A_goto (tgt := 817) dL_law_523 (by decide) ?_
      exact next μ ν ⟨t, S, hV⟩
    · refine Kn.s ?_
      refine A_pop2 dL_law_499 rfl ?_
      refine A_aload_n dL_law_500 rfl ?_
      refine A_aload_n dL_law_501 rfl ?_
      refine A_iload_n dL_law_502 rfl ?_
      refine A_iconst (v := nI 1) dL_law_503 (by decide +kernel) ?_
      refine A_iaddN dL_law_504 ?_
      refine A_sld dL_law_505 rfl (vp_in_nI (by omega) (by omega)) ?_
      refine A_aload_n dL_law_506 rfl ?_
      refine A_iload_n dL_law_507 rfl ?_
      refine A_iconst (v := nI 2) dL_law_508 (by decide +kernel) ?_
      refine A_iaddN dL_law_509 ?_
      refine A_sld dL_law_510 rfl (vp_in_nI (by omega) (by omega)) ?_
      refine A_if_eq (tgt := 518) dL_law_511 (by decide) (fun b511 => absurd b511 b488) (fun b511 => ?_)
      refine A_iconst (v := nI 1) dL_law_514 (by decide +kernel) ?_
      refine A_goto (tgt := 519) dL_law_515 (by decide) ?_
      refine A_callV2 dL_law_519 mlL_66 (Nat.le_of_ble_eq_true rfl) rfl rfl (Nat.le_of_ble_eq_true rfl) (m_row (c := μ) _ (nI 1) h2 (h3.sc hS) (hB.sc hS) hnb.1 hnb.2 (fun q => absurd ⟨k, e, hk⟩ q) (fun k2 μ2 ν2 e2 hk2 m1 m2 => ?_))
      refine Kn.s ?_
      have ek := nI_2 e2 e (by omega) (by omega)
      subst ek
      refine A_pop2 dL_law_522 rfl ?_
      refine A_goto (tgt := 817) dL_law_523 (by decide) ?_
      exact next μ2 ν2 ⟨t, S, hV.look hS (Ms.mr m1) m2 ((hB.sc hS).mr m1)⟩
theorem op_round {L i : Nat} {xs : Nat → Int32} {μ : MI} {ν : ML} (hL : L ≤ 3072) (hi : i + 6 ≤ L) (hV : INV μ ν) (next : ∀ μ' ν', INV μ' ν' → AW mL_law (9, some (L, xs)) lwP 817 [some (.ref NO), some (.ref 0), some (.ref 75), some (.int (nI i))] [] μ' ν') : AW mL_law (9, some (L, xs)) lwP 526 [some (.ref NO), some (.ref 0), some (.ref 75), some (.int (nI i))] [] μ ν := by
  obtain ⟨t, S, hV⟩ := hV
  obtain ⟨h1, h2, h3, h4, h5, h6, h7⟩ := id hV
  have hnb := h2.1.1
  have hns := h2.2.1.1
  have hfr := h2.2.2.1
  have hsp := h2.2.2.2.1.1
  have hB := h4.2.2.2.2
  have hnb2 := hnb.2
  have hns2 := hns.2
  have hfr2 := hfr.2
  have hsp2 := hsp.2
  have hmb : μ 75 0 = nI (N (μ 2 0)) := h3.1.1.trans hnb.1
  have hms : μ 75 5 = nI (N (μ 7 0)) := h3.1.2.1.trans hns.1
  have hLV := h4.2.1
  have hG20 : ∀ b, b < 8 → sC S b 20 = 0 := fun b hb => h5.1 b 20 hb (by omega)
  refine A_aload_n dL_law_526 rfl ?_
  refine A_aload_n dL_law_527 rfl ?_
  refine A_iload_n dL_law_528 rfl ?_
  refine A_iconst (v := nI 1) dL_law_529 (by decide +kernel) ?_
  refine A_iaddN dL_law_530 ?_
  refine A_sld dL_law_531 rfl (vp_in_nI (by omega) (by omega)) ?_
  refine A_callV1 dL_law_532 mlL_67 (Nat.le_of_ble_eq_true rfl) rfl rfl (Nat.le_of_ble_eq_true rfl) (c_round _ h2 (CX.rf μ) (fun g => ?_) (fun μ1 g1 g2 _ hS => ?_) (fun _ μ1 g1 g2 _ _ _ _ _ hS => ?_) (fun _ _ μ1 e _ _ _ _ _ _ _ _ hS => ?_) (fun _ _ μ1 e _ _ _ _ _ _ _ _ hS => ?_))
  · refine Kn.s ?_
    refine A_pop dL_law_535 rfl ?_
    refine A_aload_n dL_law_536 rfl ?_
    refine A_aload_n dL_law_537 rfl ?_
    refine A_iload_n dL_law_538 rfl ?_
    refine A_iconst (v := nI 1) dL_law_539 (by decide +kernel) ?_
    refine A_iaddN dL_law_540 ?_
    refine A_sld dL_law_541 rfl (vp_in_nI (by omega) (by omega)) ?_
    refine A_callV1 dL_law_542 mlL_70 (Nat.le_of_ble_eq_true rfl) rfl rfl (Nat.le_of_ble_eq_true rfl) (m_round (c := μ) _ h2 h3 hB (fun _ => ?_) (fun _ a b _ _ => absurd ⟨a, b⟩ g) (fun _ _ _ a b _ _ => absurd ⟨a, b⟩ g))
    refine Kn.s ?_
    refine A_pop dL_law_545 rfl ?_
    refine A_goto (tgt := 817) dL_law_546 (by decide) ?_
    exact next μ ν ⟨t, S, hV⟩
  · refine Kn.s ?_
    refine A_pop dL_law_535 rfl ?_
    refine A_aload_n dL_law_536 rfl ?_
    refine A_aload_n dL_law_537 rfl ?_
    refine A_iload_n dL_law_538 rfl ?_
    refine A_iconst (v := nI 1) dL_law_539 (by decide +kernel) ?_
    refine A_iaddN dL_law_540 ?_
    refine A_sld dL_law_541 rfl (vp_in_nI (by omega) (by omega)) ?_
    refine A_callV1 dL_law_542 mlL_70 (Nat.le_of_ble_eq_true rfl) rfl rfl (Nat.le_of_ble_eq_true rfl) (m_round (c := μ) _ h2 (h3.sc hS) (hB.sc hS) (fun z => absurd ⟨g1, g2⟩ z) (fun μ2 _ _ _ m1 => ?_) (fun _ _ μ2 _ _ _ m1 => ?_))
    · refine Kn.s ?_
      refine A_pop dL_law_545 rfl ?_
      refine A_goto (tgt := 817) dL_law_546 (by decide) ?_
      exact next μ2 ν ⟨t, S, hV.look hS (Ms.mk m1) Sv.rf ((hB.sc hS).mk m1)⟩
    · refine Kn.s ?_
      refine A_pop dL_law_545 rfl ?_
      refine A_goto (tgt := 817) dL_law_546 (by decide) ?_
      exact next μ2 ν ⟨t, S, hV.look hS (Ms.mk m1) Sv.rf ((hB.sc hS).mk m1)⟩
  · refine Kn.s ?_
    refine A_pop dL_law_535 rfl ?_
    refine A_aload_n dL_law_536 rfl ?_
    refine A_aload_n dL_law_537 rfl ?_
    refine A_iload_n dL_law_538 rfl ?_
    refine A_iconst (v := nI 1) dL_law_539 (by decide +kernel) ?_
    refine A_iaddN dL_law_540 ?_
    refine A_sld dL_law_541 rfl (vp_in_nI (by omega) (by omega)) ?_
    refine A_callV1 dL_law_542 mlL_70 (Nat.le_of_ble_eq_true rfl) rfl rfl (Nat.le_of_ble_eq_true rfl) (m_round (c := μ) _ h2 (h3.sc hS) (hB.sc hS) (fun z => absurd ⟨g1, g2⟩ z) (fun μ2 _ _ _ m1 => ?_) (fun _ _ μ2 _ _ _ m1 => ?_))
    · refine Kn.s ?_
      refine A_pop dL_law_545 rfl ?_
      refine A_goto (tgt := 817) dL_law_546 (by decide) ?_
      exact next μ2 ν ⟨t, S, hV.look hS (Ms.mk m1) Sv.rf ((hB.sc hS).mk m1)⟩
    · refine Kn.s ?_
      refine A_pop dL_law_545 rfl ?_
      refine A_goto (tgt := 817) dL_law_546 (by decide) ?_
      exact next μ2 ν ⟨t, S, hV.look hS (Ms.mk m1) Sv.rf ((hB.sc hS).mk m1)⟩
  · refine Kn.s ?_
    refine A_pop dL_law_535 rfl ?_
    refine A_aload_n dL_law_536 rfl ?_
    refine A_aload_n dL_law_537 rfl ?_
    refine A_iload_n dL_law_538 rfl ?_
    refine A_iconst (v := nI 1) dL_law_539 (by decide +kernel) ?_
    refine A_iaddN dL_law_540 ?_
    refine A_sld dL_law_541 rfl (vp_in_nI (by omega) (by omega)) ?_
    refine A_callV1 dL_law_542 mlL_70 (Nat.le_of_ble_eq_true rfl) rfl rfl (Nat.le_of_ble_eq_true rfl) (m_round (c := μ) _ h2 (h3.sc hS) (hB.sc hS) (fun z => absurd (rng_of (n := 1) e (by omega) (by omega)) z) (fun μ2 _ _ _ m1 => ?_) (fun _ _ μ2 _ _ _ m1 => ?_))
    · refine Kn.s ?_
      refine A_pop dL_law_545 rfl ?_
      refine A_goto (tgt := 817) dL_law_546 (by decide) ?_
      exact next μ2 ν ⟨t, S, hV.look hS (Ms.mk m1) Sv.rf ((hB.sc hS).mk m1)⟩
    · refine Kn.s ?_
      refine A_pop dL_law_545 rfl ?_
      refine A_goto (tgt := 817) dL_law_546 (by decide) ?_
      exact next μ2 ν ⟨t, S, hV.look hS (Ms.mk m1) Sv.rf ((hB.sc hS).mk m1)⟩
  · refine Kn.s ?_
    refine A_pop dL_law_535 rfl ?_
    refine A_aload_n dL_law_536 rfl ?_
    refine A_aload_n dL_law_537 rfl ?_
    refine A_iload_n dL_law_538 rfl ?_
    refine A_iconst (v := nI 1) dL_law_539 (by decide +kernel) ?_
    refine A_iaddN dL_law_540 ?_
    refine A_sld dL_law_541 rfl (vp_in_nI (by omega) (by omega)) ?_
    refine A_callV1 dL_law_542 mlL_70 (Nat.le_of_ble_eq_true rfl) rfl rfl (Nat.le_of_ble_eq_true rfl) (m_round (c := μ) _ h2 (h3.sc hS) (hB.sc hS) (fun z => absurd (rng_of (n := 1) e (by omega) (by omega)) z) (fun μ2 _ _ _ m1 => ?_) (fun _ _ μ2 _ _ _ m1 => ?_))
    · refine Kn.s ?_
      refine A_pop dL_law_545 rfl ?_
      refine A_goto (tgt := 817) dL_law_546 (by decide) ?_
      exact next μ2 ν ⟨t, S, hV.look hS (Ms.mk m1) Sv.rf ((hB.sc hS).mk m1)⟩
    · refine Kn.s ?_
      refine A_pop dL_law_545 rfl ?_
      refine A_goto (tgt := 817) dL_law_546 (by decide) ?_
      exact next μ2 ν ⟨t, S, hV.look hS (Ms.mk m1) Sv.rf ((hB.sc hS).mk m1)⟩
theorem op_meeting {L i : Nat} {xs : Nat → Int32} {μ : MI} {ν : ML} (hL : L ≤ 3072) (hi : i + 6 ≤ L) (hV : INV μ ν) (next : ∀ μ' ν', INV μ' ν' → AW mL_law (9, some (L, xs)) lwP 817 [some (.ref NO), some (.ref 0), some (.ref 75), some (.int (nI i))] [] μ' ν') : AW mL_law (9, some (L, xs)) lwP 549 [some (.ref NO), some (.ref 0), some (.ref 75), some (.int (nI i))] [] μ ν := by
  obtain ⟨t, S, hV⟩ := hV
  obtain ⟨h1, h2, h3, h4, h5, h6, h7⟩ := id hV
  have hnb := h2.1.1
  have hns := h2.2.1.1
  have hfr := h2.2.2.1
  have hsp := h2.2.2.2.1.1
  have hB := h4.2.2.2.2
  have hnb2 := hnb.2
  have hns2 := hns.2
  have hfr2 := hfr.2
  have hsp2 := hsp.2
  have hmb : μ 75 0 = nI (N (μ 2 0)) := h3.1.1.trans hnb.1
  have hms : μ 75 5 = nI (N (μ 7 0)) := h3.1.2.1.trans hns.1
  have hLV := h4.2.1
  have hG20 : ∀ b, b < 8 → sC S b 20 = 0 := fun b hb => h5.1 b 20 hb (by omega)
  refine A_aload_n dL_law_549 rfl ?_
  refine A_aload_n dL_law_550 rfl ?_
  refine A_iload_n dL_law_551 rfl ?_
  refine A_iconst (v := nI 1) dL_law_552 (by decide +kernel) ?_
  refine A_iaddN dL_law_553 ?_
  refine A_sld dL_law_554 rfl (vp_in_nI (by omega) (by omega)) ?_
  refine A_aload_n dL_law_555 rfl ?_
  refine A_iload_n dL_law_556 rfl ?_
  refine A_iconst (v := nI 2) dL_law_557 (by decide +kernel) ?_
  refine A_iaddN dL_law_558 ?_
  refine A_sld dL_law_559 rfl (vp_in_nI (by omega) (by omega)) ?_
  refine A_callV2 dL_law_560 mlL_71 (Nat.le_of_ble_eq_true rfl) rfl rfl (Nat.le_of_ble_eq_true rfl) (c_meeting _ _ h2 (CX.rf μ) hnb.1 hnb.2 (fun g => ?_) (fun g g2 e => ?_) (fun i1 j1 u μ1 e1 k1 e2 k2 ne u1 u2 u3 hS => ?_) (fun i1 j1 μ1 e1 k1 e2 k2 ne u3 hS => ?_))
  · refine Kn.s ?_
    refine A_pop dL_law_563 rfl ?_
    refine A_aload_n dL_law_564 rfl ?_
    refine A_aload_n dL_law_565 rfl ?_
    refine A_iload_n dL_law_566 rfl ?_
    refine A_iconst (v := nI 1) dL_law_567 (by decide +kernel) ?_
    refine A_iaddN dL_law_568 ?_
    refine A_sld dL_law_569 rfl (vp_in_nI (by omega) (by omega)) ?_
    refine A_aload_n dL_law_570 rfl ?_
    refine A_iload_n dL_law_571 rfl ?_
    refine A_iconst (v := nI 2) dL_law_572 (by decide +kernel) ?_
    refine A_iaddN dL_law_573 ?_
    refine A_sld dL_law_574 rfl (vp_in_nI (by omega) (by omega)) ?_
    refine A_callV2 dL_law_575 mlL_74 (Nat.le_of_ble_eq_true rfl) rfl rfl (Nat.le_of_ble_eq_true rfl) (m_meeting (c := μ) _ _ h2 h3 hB hnb.1 hnb.2 (fun _ => ?_) (fun a b _ => absurd g (fun q => q.elim (fun z => z a) (fun z => z b))) (fun i2 j2 _ _ a1 a2 a3 a4 _ _ _ _ _ => absurd g (fun q => q.elim (fun z => z ⟨i2, a1, a2⟩) (fun z => z ⟨j2, a3, a4⟩))) (fun i2 j2 _ a1 a2 a3 a4 _ _ _ => absurd g (fun q => q.elim (fun z => z ⟨i2, a1, a2⟩) (fun z => z ⟨j2, a3, a4⟩))))
    refine Kn.s ?_
    refine A_pop dL_law_578 rfl ?_
    refine A_goto (tgt := 817) dL_law_579 (by decide) ?_
    exact next μ ν ⟨t, S, hV⟩
  · refine Kn.s ?_
    refine A_pop dL_law_563 rfl ?_
    refine A_aload_n dL_law_564 rfl ?_
    refine A_aload_n dL_law_565 rfl ?_
    refine A_iload_n dL_law_566 rfl ?_
    refine A_iconst (v := nI 1) dL_law_567 (by decide +kernel) ?_
    refine A_iaddN dL_law_568 ?_
    refine A_sld dL_law_569 rfl (vp_in_nI (by omega) (by omega)) ?_
    refine A_aload_n dL_law_570 rfl ?_
    refine A_iload_n dL_law_571 rfl ?_
    refine A_iconst (v := nI 2) dL_law_572 (by decide +kernel) ?_
    refine A_iaddN dL_law_573 ?_
    refine A_sld dL_law_574 rfl (vp_in_nI (by omega) (by omega)) ?_
    refine A_callV2 dL_law_575 mlL_74 (Nat.le_of_ble_eq_true rfl) rfl rfl (Nat.le_of_ble_eq_true rfl) (m_meeting (c := μ) _ _ h2 h3 hB hnb.1 hnb.2 (fun q => absurd q (fun q => q.elim (fun z => z g) (fun z => z g2))) (fun _ _ _ => ?_) (fun _ _ _ _ _ _ _ _ z _ _ _ _ => absurd e z) (fun _ _ _ _ _ _ _ z _ _ => absurd e z))
    refine Kn.s ?_
    refine A_pop dL_law_578 rfl ?_
    refine A_goto (tgt := 817) dL_law_579 (by decide) ?_
    exact next μ ν ⟨t, S, hV⟩
  · refine Kn.s ?_
    refine A_pop dL_law_563 rfl ?_
    refine A_aload_n dL_law_564 rfl ?_
    refine A_aload_n dL_law_565 rfl ?_
    refine A_iload_n dL_law_566 rfl ?_
    refine A_iconst (v := nI 1) dL_law_567 (by decide +kernel) ?_
    refine A_iaddN dL_law_568 ?_
    refine A_sld dL_law_569 rfl (vp_in_nI (by omega) (by omega)) ?_
    refine A_aload_n dL_law_570 rfl ?_
    refine A_iload_n dL_law_571 rfl ?_
    refine A_iconst (v := nI 2) dL_law_572 (by decide +kernel) ?_
    refine A_iaddN dL_law_573 ?_
    refine A_sld dL_law_574 rfl (vp_in_nI (by omega) (by omega)) ?_
    refine A_callV2 dL_law_575 mlL_74 (Nat.le_of_ble_eq_true rfl) rfl rfl (Nat.le_of_ble_eq_true rfl) (m_meeting (c := μ) _ _ h2 (h3.sc hS) (hB.sc hS) hnb.1 hnb.2 (fun q => absurd q (fun q => q.elim (fun z => z ⟨i1, e1, k1⟩) (fun z => z ⟨j1, e2, k2⟩))) (fun _ _ z => absurd z ne) (fun i2 j2 w μ2 a1 a2 a3 a4 _ w1 w2 w3 m1 => ?_) (fun i2 j2 μ2 a1 a2 a3 a4 _ w3 m1 => by
        have q1 := nI_2 a1 e1 (by omega) (by omega)
        have q2 := nI_2 a3 e2 (by omega) (by omega)
        subst q1
        subst q2
        exact absurd u2 (w3 u u1)))
    refine Kn.s ?_
    have q1 := nI_2 a1 e1 (by omega) (by omega)
    have q2 := nI_2 a3 e2 (by omega) (by omega)
    subst q1
    subst q2
    have eu : w = u := by
      rcases Nat.lt_trichotomy w u with z | z | z
      · exact absurd w2 (u3 w z)
      · exact z
      · exact absurd u2 (w3 u z)
    subst eu
    refine A_pop dL_law_578 rfl ?_
    refine A_goto (tgt := 817) dL_law_579 (by decide) ?_
    exact next μ2 ν ⟨t, S, hV.look hS (Ms.mr m1) Sv.rf ((hB.sc hS).mr m1)⟩
  · refine Kn.s ?_
    refine A_pop dL_law_563 rfl ?_
    refine A_aload_n dL_law_564 rfl ?_
    refine A_aload_n dL_law_565 rfl ?_
    refine A_iload_n dL_law_566 rfl ?_
    refine A_iconst (v := nI 1) dL_law_567 (by decide +kernel) ?_
    refine A_iaddN dL_law_568 ?_
    refine A_sld dL_law_569 rfl (vp_in_nI (by omega) (by omega)) ?_
    refine A_aload_n dL_law_570 rfl ?_
    refine A_iload_n dL_law_571 rfl ?_
    refine A_iconst (v := nI 2) dL_law_572 (by decide +kernel) ?_
    refine A_iaddN dL_law_573 ?_
    refine A_sld dL_law_574 rfl (vp_in_nI (by omega) (by omega)) ?_
    refine A_callV2 dL_law_575 mlL_74 (Nat.le_of_ble_eq_true rfl) rfl rfl (Nat.le_of_ble_eq_true rfl) (m_meeting (c := μ) _ _ h2 (h3.sc hS) (hB.sc hS) hnb.1 hnb.2 (fun q => absurd q (fun q => q.elim (fun z => z ⟨i1, e1, k1⟩) (fun z => z ⟨j1, e2, k2⟩))) (fun _ _ z => absurd z ne) (fun i2 j2 w μ2 a1 a2 a3 a4 _ w1 w2 w3 m1 => by
        have q1 := nI_2 a1 e1 (by omega) (by omega)
        have q2 := nI_2 a3 e2 (by omega) (by omega)
        subst q1
        subst q2
        exact absurd w2 (u3 w w1)) (fun i2 j2 μ2 _ _ _ _ _ _ m1 => ?_))
    refine Kn.s ?_
    refine A_pop dL_law_578 rfl ?_
    refine A_goto (tgt := 817) dL_law_579 (by decide) ?_
    exact next μ2 ν ⟨t, S, hV.look hS (Ms.mr m1) Sv.rf ((hB.sc hS).mr m1)⟩
theorem op_drip {L i : Nat} {xs : Nat → Int32} {μ : MI} {ν : ML} (hL : L ≤ 3072) (hi : i + 6 ≤ L) (hV : INV μ ν) (next : ∀ μ' ν', INV μ' ν' → AW mL_law (9, some (L, xs)) lwP 817 [some (.ref NO), some (.ref 0), some (.ref 75), some (.int (nI i))] [] μ' ν') : AW mL_law (9, some (L, xs)) lwP 582 [some (.ref NO), some (.ref 0), some (.ref 75), some (.int (nI i))] [] μ ν := by
  obtain ⟨t, S, hV⟩ := hV
  obtain ⟨h1, h2, h3, h4, h5, h6, h7⟩ := id hV
  have hnb := h2.1.1
  have hns := h2.2.1.1
  have hfr := h2.2.2.1
  have hsp := h2.2.2.2.1.1
  have hB := h4.2.2.2.2
  have hnb2 := hnb.2
  have hns2 := hns.2
  have hfr2 := hfr.2
  have hsp2 := hsp.2
  have hmb : μ 75 0 = nI (N (μ 2 0)) := h3.1.1.trans hnb.1
  have hms : μ 75 5 = nI (N (μ 7 0)) := h3.1.2.1.trans hns.1
  have hLV := h4.2.1
  have hG20 : ∀ b, b < 8 → sC S b 20 = 0 := fun b hb => h5.1 b 20 hb (by omega)
  refine A_aload_n dL_law_582 rfl ?_
  refine A_aload_n dL_law_583 rfl ?_
  refine A_iload_n dL_law_584 rfl ?_
  refine A_iconst (v := nI 1) dL_law_585 (by decide +kernel) ?_
  refine A_iaddN dL_law_586 ?_
  refine A_sld dL_law_587 rfl (vp_in_nI (by omega) (by omega)) ?_
  refine A_i2l dL_law_588 ?_
  refine A_bipush (v := nI 32) dL_law_589 (by decide +kernel) ?_
  refine A_lshl dL_law_591 ?_
  refine A_aload_n dL_law_592 rfl ?_
  refine A_iload_n dL_law_593 rfl ?_
  refine A_iconst (v := nI 2) dL_law_594 (by decide +kernel) ?_
  refine A_iaddN dL_law_595 ?_
  refine A_sld dL_law_596 rfl (vp_in_nI (by omega) (by omega)) ?_
  refine A_i2l dL_law_597 ?_
  refine A_ldc2 dL_law_598 kcL_75 ?_
  refine A_land dL_law_601 ?_
  refine A_lor dL_law_602 ?_
  refine A_aload_n dL_law_603 rfl ?_
  refine A_iload_n dL_law_604 rfl ?_
  refine A_iconst (v := nI 3) dL_law_605 (by decide +kernel) ?_
  refine A_iaddN dL_law_606 ?_
  refine A_sld dL_law_607 rfl (vp_in_nI (by omega) (by omega)) ?_
  refine A_aload_n dL_law_608 rfl ?_
  refine A_iload_n dL_law_609 rfl ?_
  refine A_iconst (v := nI 4) dL_law_610 (by decide +kernel) ?_
  refine A_iaddN dL_law_611 ?_
  refine A_sld dL_law_612 rfl (vp_in_nI (by omega) (by omega)) ?_
  refine A_aload_n dL_law_613 rfl ?_
  refine A_iload_n dL_law_614 rfl ?_
  refine A_iconst (v := nI 5) dL_law_615 (by decide +kernel) ?_
  refine A_iaddN dL_law_616 ?_
  refine A_sld dL_law_617 rfl (vp_in_nI (by omega) (by omega)) ?_
  refine A_callV4 dL_law_618 mlL_77 (Nat.le_of_ble_eq_true rfl) rfl rfl (Nat.le_of_ble_eq_true rfl) (c_drip _ _ _ _ (fun g => ?_) (fun s q j g0 e1 s1 s2 e2 q1 e3 j1 => ?_))
  · refine Kn.s ?_
    refine A_pop dL_law_621 rfl ?_
    refine A_aload_n dL_law_622 rfl ?_
    refine A_aload_n dL_law_623 rfl ?_
    refine A_iload_n dL_law_624 rfl ?_
    refine A_iconst (v := nI 1) dL_law_625 (by decide +kernel) ?_
    refine A_iaddN dL_law_626 ?_
    refine A_sld dL_law_627 rfl (vp_in_nI (by omega) (by omega)) ?_
    refine A_i2l dL_law_628 ?_
    refine A_bipush (v := nI 32) dL_law_629 (by decide +kernel) ?_
    refine A_lshl dL_law_631 ?_
    refine A_aload_n dL_law_632 rfl ?_
    refine A_iload_n dL_law_633 rfl ?_
    refine A_iconst (v := nI 2) dL_law_634 (by decide +kernel) ?_
    refine A_iaddN dL_law_635 ?_
    refine A_sld dL_law_636 rfl (vp_in_nI (by omega) (by omega)) ?_
    refine A_i2l dL_law_637 ?_
    refine A_ldc2 dL_law_638 kcL_75 ?_
    refine A_land dL_law_641 ?_
    refine A_lor dL_law_642 ?_
    refine A_aload_n dL_law_643 rfl ?_
    refine A_iload_n dL_law_644 rfl ?_
    refine A_iconst (v := nI 3) dL_law_645 (by decide +kernel) ?_
    refine A_iaddN dL_law_646 ?_
    refine A_sld dL_law_647 rfl (vp_in_nI (by omega) (by omega)) ?_
    refine A_aload_n dL_law_648 rfl ?_
    refine A_iload_n dL_law_649 rfl ?_
    refine A_iconst (v := nI 4) dL_law_650 (by decide +kernel) ?_
    refine A_iaddN dL_law_651 ?_
    refine A_sld dL_law_652 rfl (vp_in_nI (by omega) (by omega)) ?_
    refine A_aload_n dL_law_653 rfl ?_
    refine A_iload_n dL_law_654 rfl ?_
    refine A_iconst (v := nI 5) dL_law_655 (by decide +kernel) ?_
    refine A_iaddN dL_law_656 ?_
    refine A_sld dL_law_657 rfl (vp_in_nI (by omega) (by omega)) ?_
    refine A_callV4 dL_law_658 mlL_81 (Nat.le_of_ble_eq_true rfl) rfl rfl (Nat.le_of_ble_eq_true rfl) (m_drip _ _ _ _ (fun _ => ?_) (fun s q j g0 e1 s1 s2 e2 q1 e3 j1 => absurd ⟨g0, rng_1 e1 s1 s2 (by omega), rng_of e2 q1 (by omega), rng_of (n := 2) e3 (by omega) (by omega)⟩ g))
    refine Kn.s ?_
    refine A_pop dL_law_661 rfl ?_
    refine A_goto (tgt := 817) dL_law_662 (by decide) ?_
    exact next μ ν ⟨t, S, hV⟩
  · refine Kn.s ?_
    refine A_pop dL_law_621 rfl ?_
    refine A_aload_n dL_law_622 rfl ?_
    refine A_aload_n dL_law_623 rfl ?_
    refine A_iload_n dL_law_624 rfl ?_
    refine A_iconst (v := nI 1) dL_law_625 (by decide +kernel) ?_
    refine A_iaddN dL_law_626 ?_
    refine A_sld dL_law_627 rfl (vp_in_nI (by omega) (by omega)) ?_
    refine A_i2l dL_law_628 ?_
    refine A_bipush (v := nI 32) dL_law_629 (by decide +kernel) ?_
    refine A_lshl dL_law_631 ?_
    refine A_aload_n dL_law_632 rfl ?_
    refine A_iload_n dL_law_633 rfl ?_
    refine A_iconst (v := nI 2) dL_law_634 (by decide +kernel) ?_
    refine A_iaddN dL_law_635 ?_
    refine A_sld dL_law_636 rfl (vp_in_nI (by omega) (by omega)) ?_
    refine A_i2l dL_law_637 ?_
    refine A_ldc2 dL_law_638 kcL_75 ?_
    refine A_land dL_law_641 ?_
    refine A_lor dL_law_642 ?_
    refine A_aload_n dL_law_643 rfl ?_
    refine A_iload_n dL_law_644 rfl ?_
    refine A_iconst (v := nI 3) dL_law_645 (by decide +kernel) ?_
    refine A_iaddN dL_law_646 ?_
    refine A_sld dL_law_647 rfl (vp_in_nI (by omega) (by omega)) ?_
    refine A_aload_n dL_law_648 rfl ?_
    refine A_iload_n dL_law_649 rfl ?_
    refine A_iconst (v := nI 4) dL_law_650 (by decide +kernel) ?_
    refine A_iaddN dL_law_651 ?_
    refine A_sld dL_law_652 rfl (vp_in_nI (by omega) (by omega)) ?_
    refine A_aload_n dL_law_653 rfl ?_
    refine A_iload_n dL_law_654 rfl ?_
    refine A_iconst (v := nI 5) dL_law_655 (by decide +kernel) ?_
    refine A_iaddN dL_law_656 ?_
    refine A_sld dL_law_657 rfl (vp_in_nI (by omega) (by omega)) ?_
    refine A_callV4 dL_law_658 mlL_81 (Nat.le_of_ble_eq_true rfl) rfl rfl (Nat.le_of_ble_eq_true rfl) (m_drip _ _ _ _ (fun z => absurd ⟨g0, rng_1 e1 s1 s2 (by omega), rng_of e2 q1 (by omega), rng_of (n := 2) e3 (by omega) (by omega)⟩ z) (fun s3 q3 j3 _ a1 a2 a3 a4 a5 a6 a7 => ?_))
    refine Kn.s ?_
    have z1 := nI_2 a1 e1 (by omega) (by omega)
    have z2 := nI_2 a4 e2 (by omega) (by omega)
    have z3 := nI_2 a6 e3 (by omega) (by omega)
    subst z1
    subst z2
    subst z3
    refine A_pop dL_law_661 rfl ?_
    refine A_goto (tgt := 817) dL_law_662 (by decide) ?_
    exact next μ ν ⟨t, S, hV⟩
theorem op_hear {L i : Nat} {xs : Nat → Int32} {μ : MI} {ν : ML} (hL : L ≤ 3072) (hi : i + 6 ≤ L) (hV : INV μ ν) (next : ∀ μ' ν', INV μ' ν' → AW mL_law (9, some (L, xs)) lwP 817 [some (.ref NO), some (.ref 0), some (.ref 75), some (.int (nI i))] [] μ' ν') : AW mL_law (9, some (L, xs)) lwP 665 [some (.ref NO), some (.ref 0), some (.ref 75), some (.int (nI i))] [] μ ν := by
  obtain ⟨t, S, hV⟩ := hV
  obtain ⟨h1, h2, h3, h4, h5, h6, h7⟩ := id hV
  have hnb := h2.1.1
  have hns := h2.2.1.1
  have hfr := h2.2.2.1
  have hsp := h2.2.2.2.1.1
  have hB := h4.2.2.2.2
  have hnb2 := hnb.2
  have hns2 := hns.2
  have hfr2 := hfr.2
  have hsp2 := hsp.2
  have hmb : μ 75 0 = nI (N (μ 2 0)) := h3.1.1.trans hnb.1
  have hms : μ 75 5 = nI (N (μ 7 0)) := h3.1.2.1.trans hns.1
  have hLV := h4.2.1
  have hG20 : ∀ b, b < 8 → sC S b 20 = 0 := fun b hb => h5.1 b 20 hb (by omega)
  refine A_aload_n dL_law_665 rfl ?_
  refine A_aload_n dL_law_666 rfl ?_
  refine A_iload_n dL_law_667 rfl ?_
  refine A_iconst (v := nI 1) dL_law_668 (by decide +kernel) ?_
  refine A_iaddN dL_law_669 ?_
  refine A_sld dL_law_670 rfl (vp_in_nI (by omega) (by omega)) ?_
  refine A_aload_n dL_law_671 rfl ?_
  refine A_iload_n dL_law_672 rfl ?_
  refine A_iconst (v := nI 2) dL_law_673 (by decide +kernel) ?_
  refine A_iaddN dL_law_674 ?_
  refine A_sld dL_law_675 rfl (vp_in_nI (by omega) (by omega)) ?_
  refine A_i2l dL_law_676 ?_
  refine A_bipush (v := nI 32) dL_law_677 (by decide +kernel) ?_
  refine A_lshl dL_law_679 ?_
  refine A_aload_n dL_law_680 rfl ?_
  refine A_iload_n dL_law_681 rfl ?_
  refine A_iconst (v := nI 3) dL_law_682 (by decide +kernel) ?_
  refine A_iaddN dL_law_683 ?_
  refine A_sld dL_law_684 rfl (vp_in_nI (by omega) (by omega)) ?_
  refine A_i2l dL_law_685 ?_
  refine A_ldc2 dL_law_686 kcL_75 ?_
  refine A_land dL_law_689 ?_
  refine A_lor dL_law_690 ?_
  refine A_callV2 dL_law_691 mlL_82 (Nat.le_of_ble_eq_true rfl) rfl rfl (Nat.le_of_ble_eq_true rfl) (c_hear _ _ hnb.1 hnb.2 (fun g => ?_) (fun g g2 => ?_) (fun k e hk g2 z => ?_) (fun k e hk g2 z => ?_))
  · refine Kn.s ?_
    refine A_pop dL_law_694 rfl ?_
    refine A_aload_n dL_law_695 rfl ?_
    refine A_aload_n dL_law_696 rfl ?_
    refine A_iload_n dL_law_697 rfl ?_
    refine A_iconst (v := nI 1) dL_law_698 (by decide +kernel) ?_
    refine A_iaddN dL_law_699 ?_
    refine A_sld dL_law_700 rfl (vp_in_nI (by omega) (by omega)) ?_
    refine A_aload_n dL_law_701 rfl ?_
    refine A_iload_n dL_law_702 rfl ?_
    refine A_iconst (v := nI 2) dL_law_703 (by decide +kernel) ?_
    refine A_iaddN dL_law_704 ?_
    refine A_sld dL_law_705 rfl (vp_in_nI (by omega) (by omega)) ?_
    refine A_i2l dL_law_706 ?_
    refine A_bipush (v := nI 32) dL_law_707 (by decide +kernel) ?_
    refine A_lshl dL_law_709 ?_
    refine A_aload_n dL_law_710 rfl ?_
    refine A_iload_n dL_law_711 rfl ?_
    refine A_iconst (v := nI 3) dL_law_712 (by decide +kernel) ?_
    refine A_iaddN dL_law_713 ?_
    refine A_sld dL_law_714 rfl (vp_in_nI (by omega) (by omega)) ?_
    refine A_i2l dL_law_715 ?_
    refine A_ldc2 dL_law_716 kcL_75 ?_
    refine A_land dL_law_719 ?_
    refine A_lor dL_law_720 ?_
    refine A_callV2 dL_law_721 mlL_86 (Nat.le_of_ble_eq_true rfl) rfl rfl (Nat.le_of_ble_eq_true rfl) (m_hear (t := t) (S := S) _ _ hmb hnb.2 hLV.1.1 (fun _ => ?_) (fun q _ => absurd q g) (fun k e hk _ => absurd ⟨k, e, hk⟩ g))
    refine Kn.s ?_
    refine A_pop dL_law_724 rfl ?_
    refine A_goto (tgt := 817) dL_law_725 (by decide) ?_
    exact next μ ν ⟨t, S, hV⟩
  · refine Kn.s ?_
    refine A_pop dL_law_694 rfl ?_
    refine A_aload_n dL_law_695 rfl ?_
    refine A_aload_n dL_law_696 rfl ?_
    refine A_iload_n dL_law_697 rfl ?_
    refine A_iconst (v := nI 1) dL_law_698 (by decide +kernel) ?_
    refine A_iaddN dL_law_699 ?_
    refine A_sld dL_law_700 rfl (vp_in_nI (by omega) (by omega)) ?_
    refine A_aload_n dL_law_701 rfl ?_
    refine A_iload_n dL_law_702 rfl ?_
    refine A_iconst (v := nI 2) dL_law_703 (by decide +kernel) ?_
    refine A_iaddN dL_law_704 ?_
    refine A_sld dL_law_705 rfl (vp_in_nI (by omega) (by omega)) ?_
    refine A_i2l dL_law_706 ?_
    refine A_bipush (v := nI 32) dL_law_707 (by decide +kernel) ?_
    refine A_lshl dL_law_709 ?_
    refine A_aload_n dL_law_710 rfl ?_
    refine A_iload_n dL_law_711 rfl ?_
    refine A_iconst (v := nI 3) dL_law_712 (by decide +kernel) ?_
    refine A_iaddN dL_law_713 ?_
    refine A_sld dL_law_714 rfl (vp_in_nI (by omega) (by omega)) ?_
    refine A_i2l dL_law_715 ?_
    refine A_ldc2 dL_law_716 kcL_75 ?_
    refine A_land dL_law_719 ?_
    refine A_lor dL_law_720 ?_
    refine A_callV2 dL_law_721 mlL_86 (Nat.le_of_ble_eq_true rfl) rfl rfl (Nat.le_of_ble_eq_true rfl) (m_hear (t := t) (S := S) _ _ hmb hnb.2 hLV.1.1 (fun q => absurd g q) (fun _ _ => ?_) (fun _ _ _ q => absurd q g2))
    refine Kn.s ?_
    refine A_pop dL_law_724 rfl ?_
    refine A_goto (tgt := 817) dL_law_725 (by decide) ?_
    exact next μ ν ⟨t, S, hV⟩
  · refine Kn.s ?_
    refine A_pop dL_law_694 rfl ?_
    refine A_aload_n dL_law_695 rfl ?_
    refine A_aload_n dL_law_696 rfl ?_
    refine A_iload_n dL_law_697 rfl ?_
    refine A_iconst (v := nI 1) dL_law_698 (by decide +kernel) ?_
    refine A_iaddN dL_law_699 ?_
    refine A_sld dL_law_700 rfl (vp_in_nI (by omega) (by omega)) ?_
    refine A_aload_n dL_law_701 rfl ?_
    refine A_iload_n dL_law_702 rfl ?_
    refine A_iconst (v := nI 2) dL_law_703 (by decide +kernel) ?_
    refine A_iaddN dL_law_704 ?_
    refine A_sld dL_law_705 rfl (vp_in_nI (by omega) (by omega)) ?_
    refine A_i2l dL_law_706 ?_
    refine A_bipush (v := nI 32) dL_law_707 (by decide +kernel) ?_
    refine A_lshl dL_law_709 ?_
    refine A_aload_n dL_law_710 rfl ?_
    refine A_iload_n dL_law_711 rfl ?_
    refine A_iconst (v := nI 3) dL_law_712 (by decide +kernel) ?_
    refine A_iaddN dL_law_713 ?_
    refine A_sld dL_law_714 rfl (vp_in_nI (by omega) (by omega)) ?_
    refine A_i2l dL_law_715 ?_
    refine A_ldc2 dL_law_716 kcL_75 ?_
    refine A_land dL_law_719 ?_
    refine A_lor dL_law_720 ?_
    refine A_callV2 dL_law_721 mlL_86 (Nat.le_of_ble_eq_true rfl) rfl rfl (Nat.le_of_ble_eq_true rfl) (m_hear (m := N (μ 2 0)) (t := t) (S := S) _ _ (by simp (disch := omega) only [up2_a]; exact hmb) hnb.2 (hLV.1.1.ext (fun a q1 q2 j => by simp (disch := omega) only [up2_a])) (fun q => absurd ⟨k, e, hk⟩ q) (fun _ q => absurd g2 q) (fun k2 e2 hk2 _ => ?_))
    refine Kn.s ?_
    have ek := nI_2 e2 e (by omega) (by omega)
    subst ek
    obtain ⟨y1, y2⟩ := h7.2 k2 (by omega)
    have hc : heaN (up2 (up2 (up2 μ 30 k2 1) 29 0 (μ 29 0 + 1)) 97 k2 (nI 1)) (N (μ 2 0)) = heaN μ (N (μ 2 0)) + 1 := by
      have q := cntB_set (K := fun b => decide (μ 97 b ≠ 0)) (K' := fun b => decide ((up2 (up2 (up2 μ 30 k2 1) 29 0 (μ 29 0 + 1)) 97 k2 (nI 1)) 97 b ≠ 0)) (k := k2) (decide_eq_false (fun q => q (y1.mpr z))) (by simp only [up2_s]; decide +kernel) (fun j hj => by simp (disch := omega) only [up2_ne]) (N (μ 2 0))
      rw [if_pos hk2] at q
      exact q
    have ev : μ 29 0 + 1 = nI (heaN (up2 (up2 (up2 μ 30 k2 1) 29 0 (μ 29 0 + 1)) 97 k2 (nI 1)) (N (μ 2 0))) := by rw [hc, h7.1, nI_1]
    refine A_pop dL_law_724 rfl ?_
    refine A_goto (tgt := 817) dL_law_725 (by decide) ?_
    refine next _ _ ⟨t, S, hV.hrd (fun a j q1 q2 q3 => by simp (disch := omega) only [up2_ne]) ⟨?_, fun b hb => ?_⟩⟩
    · have e20 : (up2 (up2 (up2 μ 30 k2 1) 29 0 (μ 29 0 + 1)) 97 k2 (nI 1)) 2 0 = μ 2 0 := by simp (disch := omega) only [up2_ne]
      rw [e20, ← ev]
      simp (disch := omega) only [up2_ne, up2_s]
    · obtain ⟨x1, x2⟩ := h7.2 b hb
      by_cases q : b = k2
      · subst q
        simp (disch := omega) only [up2_ne, up2_s]
        exact ⟨⟨fun q => absurd q (by decide +kernel), fun q => absurd q (by decide +kernel)⟩, fun _ => ⟨hk2, trivial, g2⟩⟩
      · simp (disch := omega) only [up2_ne]
        exact ⟨x1, x2⟩
  · refine Kn.s ?_
    refine A_pop dL_law_694 rfl ?_
    refine A_aload_n dL_law_695 rfl ?_
    refine A_aload_n dL_law_696 rfl ?_
    refine A_iload_n dL_law_697 rfl ?_
    refine A_iconst (v := nI 1) dL_law_698 (by decide +kernel) ?_
    refine A_iaddN dL_law_699 ?_
    refine A_sld dL_law_700 rfl (vp_in_nI (by omega) (by omega)) ?_
    refine A_aload_n dL_law_701 rfl ?_
    refine A_iload_n dL_law_702 rfl ?_
    refine A_iconst (v := nI 2) dL_law_703 (by decide +kernel) ?_
    refine A_iaddN dL_law_704 ?_
    refine A_sld dL_law_705 rfl (vp_in_nI (by omega) (by omega)) ?_
    refine A_i2l dL_law_706 ?_
    refine A_bipush (v := nI 32) dL_law_707 (by decide +kernel) ?_
    refine A_lshl dL_law_709 ?_
    refine A_aload_n dL_law_710 rfl ?_
    refine A_iload_n dL_law_711 rfl ?_
    refine A_iconst (v := nI 3) dL_law_712 (by decide +kernel) ?_
    refine A_iaddN dL_law_713 ?_
    refine A_sld dL_law_714 rfl (vp_in_nI (by omega) (by omega)) ?_
    refine A_i2l dL_law_715 ?_
    refine A_ldc2 dL_law_716 kcL_75 ?_
    refine A_land dL_law_719 ?_
    refine A_lor dL_law_720 ?_
    refine A_callV2 dL_law_721 mlL_86 (Nat.le_of_ble_eq_true rfl) rfl rfl (Nat.le_of_ble_eq_true rfl) (m_hear (m := N (μ 2 0)) (t := t) (S := S) _ _ hmb hnb.2 hLV.1.1 (fun q => absurd ⟨k, e, hk⟩ q) (fun _ q => absurd g2 q) (fun k2 e2 hk2 _ => ?_))
    refine Kn.s ?_
    have ek := nI_2 e2 e (by omega) (by omega)
    subst ek
    obtain ⟨y1, y2⟩ := h7.2 k2 (by omega)
    have hc : heaN (up2 μ 97 k2 (nI 1)) (N (μ 2 0)) = heaN μ (N (μ 2 0)) := cntB_cong (fun b hb => by
      by_cases q : b = k2
      · subst q
        rw [up2_s, decide_eq_true (show nI 1 ≠ 0 by decide +kernel), decide_eq_true (show μ 97 b ≠ 0 from fun q => z (y1.mp q))]
      · rw [up2_b _ _ q])
    have ev : μ 29 0 = nI (heaN (up2 μ 97 k2 (nI 1)) (N (μ 2 0))) := by rw [hc]; exact h7.1
    refine A_pop dL_law_724 rfl ?_
    refine A_goto (tgt := 817) dL_law_725 (by decide) ?_
    refine next _ _ ⟨t, S, hV.hrd (fun a j q1 q2 q3 => by simp (disch := omega) only [up2_ne]) ⟨?_, fun b hb => ?_⟩⟩
    · have e20 : (up2 μ 97 k2 (nI 1)) 2 0 = μ 2 0 := by simp (disch := omega) only [up2_ne]
      rw [e20, ← ev]
      simp (disch := omega) only [up2_ne]
    · obtain ⟨x1, x2⟩ := h7.2 b hb
      by_cases q : b = k2
      · subst q
        simp (disch := omega) only [up2_ne, up2_s]
        exact ⟨⟨fun q => absurd q (by decide +kernel), fun q => absurd q z⟩, fun _ => ⟨hk2, trivial, g2⟩⟩
      · simp (disch := omega) only [up2_ne]
        exact ⟨x1, x2⟩
theorem op_hush {L i : Nat} {xs : Nat → Int32} {μ : MI} {ν : ML} (hL : L ≤ 3072) (hi : i + 6 ≤ L) (hV : INV μ ν) (next : ∀ μ' ν', INV μ' ν' → AW mL_law (9, some (L, xs)) lwP 817 [some (.ref NO), some (.ref 0), some (.ref 75), some (.int (nI i))] [] μ' ν') : AW mL_law (9, some (L, xs)) lwP 728 [some (.ref NO), some (.ref 0), some (.ref 75), some (.int (nI i))] [] μ ν := by
  obtain ⟨t, S, hV⟩ := hV
  obtain ⟨h1, h2, h3, h4, h5, h6, h7⟩ := id hV
  have hnb := h2.1.1
  have hns := h2.2.1.1
  have hfr := h2.2.2.1
  have hsp := h2.2.2.2.1.1
  have hB := h4.2.2.2.2
  have hnb2 := hnb.2
  have hns2 := hns.2
  have hfr2 := hfr.2
  have hsp2 := hsp.2
  have hmb : μ 75 0 = nI (N (μ 2 0)) := h3.1.1.trans hnb.1
  have hms : μ 75 5 = nI (N (μ 7 0)) := h3.1.2.1.trans hns.1
  have hLV := h4.2.1
  have hG20 : ∀ b, b < 8 → sC S b 20 = 0 := fun b hb => h5.1 b 20 hb (by omega)
  refine A_aload_n dL_law_728 rfl ?_
  refine A_callV0 dL_law_729 mlL_87 (Nat.le_of_ble_eq_true rfl) rfl rfl (Nat.le_of_ble_eq_true rfl) (c_hush ?_)
  refine Kn.s ?_
  refine A_pop dL_law_732 rfl ?_
  refine A_aload_n dL_law_733 rfl ?_
  refine A_callV0 dL_law_734 mlL_90 (Nat.le_of_ble_eq_true rfl) rfl rfl (Nat.le_of_ble_eq_true rfl) (m_hush (m := N (μ 2 0)) (t := t) (S := S) (by rw [fillX_a _ _ _ (by omega), up2_a _ _ (by omega)]; exact hmb) hnb.2 (hLV.1.1.ext (fun a q1 q2 j => by rw [fillX_a _ _ _ (by omega), up2_a _ _ (by omega)])) ?_)
  refine Kn.s ?_
  have ev : μ 29 0 = nI (heaN (fillX (up2 μ 29 0 0) 30 8 0) (N (μ 2 0))) := by rw [heaN_ext (fun j => by rw [fillX_a _ _ _ (by omega), up2_a _ _ (by omega)])]; exact h7.1
  refine A_pop dL_law_737 rfl ?_
  refine A_goto (tgt := 817) dL_law_738 (by decide) ?_
  have e2 : ∀ a j, a ≠ 29 → a ≠ 30 → a ≠ 97 → fillX (fillX (up2 μ 29 0 0) 30 8 0) 97 8 (nI 0) a j = μ a j := fun a j q1 q2 q3 => by rw [fillX_a _ _ _ q3, fillX_a _ _ _ q2, up2_a _ _ q1]
  have e97 : ∀ b, b < 8 → fillX (fillX (up2 μ 29 0 0) 30 8 0) 97 8 (nI 0) 97 b = 0 := fun b hb => fillX_in _ _ hb
  refine next _ _ ⟨t, S, hV.hrd e2 ⟨?_, fun b hb => ?_⟩⟩
  · rw [e2 2 0 (by omega) (by omega) (by omega), show heaN (fillX (fillX (up2 μ 29 0 0) 30 8 0) 97 8 (nI 0)) (N (μ 2 0)) = 0 from by
      have q := heaN_more (μ := fillX (fillX (up2 μ 29 0 0) 30 8 0) 97 8 (nI 0)) (n := 0) (n' := N (μ 2 0)) (by omega) (fun b _ hb => e97 b (by omega))
      exact q, fillX_a _ _ _ (by omega), fillX_a _ _ _ (by omega), up2_s]
    rfl
  · rw [e97 b hb, fillX_a _ _ _ (by omega), fillX_in _ _ hb]
    exact ⟨Iff.rfl, fun q => absurd rfl q⟩
theorem op_blamed {L i : Nat} {xs : Nat → Int32} {μ : MI} {ν : ML} (hL : L ≤ 3072) (hi : i + 6 ≤ L) (hV : INV μ ν) (next : ∀ μ' ν', INV μ' ν' → AW mL_law (9, some (L, xs)) lwP 817 [some (.ref NO), some (.ref 0), some (.ref 75), some (.int (nI i))] [] μ' ν') : AW mL_law (9, some (L, xs)) lwP 741 [some (.ref NO), some (.ref 0), some (.ref 75), some (.int (nI i))] [] μ ν := by
  obtain ⟨t, S, hV⟩ := hV
  obtain ⟨h1, h2, h3, h4, h5, h6, h7⟩ := id hV
  have hnb := h2.1.1
  have hns := h2.2.1.1
  have hfr := h2.2.2.1
  have hsp := h2.2.2.2.1.1
  have hB := h4.2.2.2.2
  have hnb2 := hnb.2
  have hns2 := hns.2
  have hfr2 := hfr.2
  have hsp2 := hsp.2
  have hmb : μ 75 0 = nI (N (μ 2 0)) := h3.1.1.trans hnb.1
  have hms : μ 75 5 = nI (N (μ 7 0)) := h3.1.2.1.trans hns.1
  have hLV := h4.2.1
  have hG20 : ∀ b, b < 8 → sC S b 20 = 0 := fun b hb => h5.1 b 20 hb (by omega)
  refine A_aload_n dL_law_741 rfl ?_
  refine A_aload_n dL_law_742 rfl ?_
  refine A_iload_n dL_law_743 rfl ?_
  refine A_iconst (v := nI 1) dL_law_744 (by decide +kernel) ?_
  refine A_iaddN dL_law_745 ?_
  refine A_sld dL_law_746 rfl (vp_in_nI (by omega) (by omega)) ?_
  refine A_callV1 dL_law_747 mlL_91 (Nat.le_of_ble_eq_true rfl) rfl rfl (Nat.le_of_ble_eq_true rfl) (c_blamed _ h2 (CX.rf μ) (fun g => ?_) (fun j μ1 e hj hS => ?_))
  · refine Kn.s ?_
    refine A_pop dL_law_750 rfl ?_
    refine A_aload_n dL_law_751 rfl ?_
    refine A_aload_n dL_law_752 rfl ?_
    refine A_iload_n dL_law_753 rfl ?_
    refine A_iconst (v := nI 1) dL_law_754 (by decide +kernel) ?_
    refine A_iaddN dL_law_755 ?_
    refine A_sld dL_law_756 rfl (vp_in_nI (by omega) (by omega)) ?_
    refine A_callV1 dL_law_757 mlL_94 (Nat.le_of_ble_eq_true rfl) rfl rfl (Nat.le_of_ble_eq_true rfl) (m_blamed (c := μ) _ h2 h3 hB (fun _ => ?_) (fun j _ _ e hj _ _ => absurd (rng_of (n := 3) e (by omega) (by omega)) g))
    refine Kn.s ?_
    refine A_pop dL_law_760 rfl ?_
    refine A_goto (tgt := 817) dL_law_761 (by decide) ?_
    exact next μ ν ⟨t, S, hV⟩
  · refine Kn.s ?_
    refine A_pop dL_law_750 rfl ?_
    refine A_aload_n dL_law_751 rfl ?_
    refine A_aload_n dL_law_752 rfl ?_
    refine A_iload_n dL_law_753 rfl ?_
    refine A_iconst (v := nI 1) dL_law_754 (by decide +kernel) ?_
    refine A_iaddN dL_law_755 ?_
    refine A_sld dL_law_756 rfl (vp_in_nI (by omega) (by omega)) ?_
    refine A_callV1 dL_law_757 mlL_94 (Nat.le_of_ble_eq_true rfl) rfl rfl (Nat.le_of_ble_eq_true rfl) (m_blamed (c := μ) _ h2 (h3.sc hS) (hB.sc hS) (fun z => absurd (rng_of (n := 3) e (by omega) (by omega)) z) (fun j2 μ2 ν2 e2 hj2 m1 m2 => ?_))
    refine Kn.s ?_
    have ej := nI_2 e2 e (by omega) (by omega)
    subst ej
    have ev : blR (blX (canF (N (μ 2 0)) (N (μ 7 0))) (fitX μ μ ν)) j2 = blR (blX (canF (N (μ 2 0)) (N (μ 7 0))) (fitM μ μ1 ν)) j2 := by rw [fitM_sc hS, fit_eq hV]
    refine A_pop dL_law_760 rfl ?_
    refine A_goto (tgt := 817) dL_law_761 (by decide) ?_
    exact next μ2 ν2 ⟨t, S, hV.look hS (Ms.mr m1) m2 ((hB.sc hS).mr m1)⟩
theorem op_mended {L i : Nat} {xs : Nat → Int32} {μ : MI} {ν : ML} (hL : L ≤ 3072) (hi : i + 6 ≤ L) (hV : INV μ ν) (next : ∀ μ' ν', INV μ' ν' → AW mL_law (9, some (L, xs)) lwP 817 [some (.ref NO), some (.ref 0), some (.ref 75), some (.int (nI i))] [] μ' ν') : AW mL_law (9, some (L, xs)) lwP 764 [some (.ref NO), some (.ref 0), some (.ref 75), some (.int (nI i))] [] μ ν := by
  obtain ⟨t, S, hV⟩ := hV
  obtain ⟨h1, h2, h3, h4, h5, h6, h7⟩ := id hV
  have hnb := h2.1.1
  have hns := h2.2.1.1
  have hfr := h2.2.2.1
  have hsp := h2.2.2.2.1.1
  have hB := h4.2.2.2.2
  have hnb2 := hnb.2
  have hns2 := hns.2
  have hfr2 := hfr.2
  have hsp2 := hsp.2
  have hmb : μ 75 0 = nI (N (μ 2 0)) := h3.1.1.trans hnb.1
  have hms : μ 75 5 = nI (N (μ 7 0)) := h3.1.2.1.trans hns.1
  have hLV := h4.2.1
  have hG20 : ∀ b, b < 8 → sC S b 20 = 0 := fun b hb => h5.1 b 20 hb (by omega)
  refine A_aload_n dL_law_764 rfl ?_
  refine A_aload_n dL_law_765 rfl ?_
  refine A_iload_n dL_law_766 rfl ?_
  refine A_iconst (v := nI 1) dL_law_767 (by decide +kernel) ?_
  refine A_iaddN dL_law_768 ?_
  refine A_sld dL_law_769 rfl (vp_in_nI (by omega) (by omega)) ?_
  refine A_aload_n dL_law_770 rfl ?_
  refine A_iload_n dL_law_771 rfl ?_
  refine A_iconst (v := nI 2) dL_law_772 (by decide +kernel) ?_
  refine A_iaddN dL_law_773 ?_
  refine A_sld dL_law_774 rfl (vp_in_nI (by omega) (by omega)) ?_
  refine A_aload_n dL_law_775 rfl ?_
  refine A_iload_n dL_law_776 rfl ?_
  refine A_iconst (v := nI 3) dL_law_777 (by decide +kernel) ?_
  refine A_iaddN dL_law_778 ?_
  refine A_sld dL_law_779 rfl (vp_in_nI (by omega) (by omega)) ?_
  refine A_aload_n dL_law_780 rfl ?_
  refine A_iload_n dL_law_781 rfl ?_
  refine A_iconst (v := nI 4) dL_law_782 (by decide +kernel) ?_
  refine A_iaddN dL_law_783 ?_
  refine A_sld dL_law_784 rfl (vp_in_nI (by omega) (by omega)) ?_
  refine A_callV4 dL_law_785 mlL_95 (Nat.le_of_ble_eq_true rfl) rfl rfl (Nat.le_of_ble_eq_true rfl) (c_mended _ _ _ _ h2 (CX.rf μ) hnb.1 hnb.2 hns.1 hns.2 (fun g => ?_) (fun g g2 => ?_) (fun b1 n1 T1 x μ1 e1 k1 e2 k2 e3 k3 k4 gs w hS => ?_) (fun b1 n1 T1 μ1 e1 k1 e2 k2 e3 k3 k4 gs w hS => ?_))
  · refine Kn.s ?_
    refine A_aload_n dL_law_788 rfl ?_
    refine A_aload_n dL_law_789 rfl ?_
    refine A_iload_n dL_law_790 rfl ?_
    refine A_iconst (v := nI 1) dL_law_791 (by decide +kernel) ?_
    refine A_iaddN dL_law_792 ?_
    refine A_sld dL_law_793 rfl (vp_in_nI (by omega) (by omega)) ?_
    refine A_aload_n dL_law_794 rfl ?_
    refine A_iload_n dL_law_795 rfl ?_
    refine A_iconst (v := nI 2) dL_law_796 (by decide +kernel) ?_
    refine A_iaddN dL_law_797 ?_
    refine A_sld dL_law_798 rfl (vp_in_nI (by omega) (by omega)) ?_
    refine A_aload_n dL_law_799 rfl ?_
    refine A_iload_n dL_law_800 rfl ?_
    refine A_iconst (v := nI 3) dL_law_801 (by decide +kernel) ?_
    refine A_iaddN dL_law_802 ?_
    refine A_sld dL_law_803 rfl (vp_in_nI (by omega) (by omega)) ?_
    refine A_aload_n dL_law_804 rfl ?_
    refine A_iload_n dL_law_805 rfl ?_
    refine A_iconst (v := nI 4) dL_law_806 (by decide +kernel) ?_
    refine A_iaddN dL_law_807 ?_
    refine A_sld dL_law_808 rfl (vp_in_nI (by omega) (by omega)) ?_
    refine A_callV4 dL_law_809 mlL_98 (Nat.le_of_ble_eq_true rfl) rfl rfl (Nat.le_of_ble_eq_true rfl) (m_mended (c := μ) _ _ _ _ h2 h3 hB hnb.1 hnb.2 hns.1 hns.2 (fun _ => ?_) (fun q _ => absurd q g) (fun b1 _ _ _ _ a1 a2 _ _ _ _ _ a8 _ _ _ => absurd ⟨⟨b1, a1, a2⟩, a8⟩ g) (fun b1 _ _ _ a1 a2 _ _ _ _ _ a8 _ _ _ => absurd ⟨⟨b1, a1, a2⟩, a8⟩ g))
    refine Kn.s ?_
    refine A_icmp_eq (tgt := 817) dL_law_812 (by decide) (fun b812 => ?_) (fun b812 => absurd b812 (fun q => q rfl))
    exact next μ ν ⟨t, S, hV⟩
  · refine Kn.s ?_
    refine A_aload_n dL_law_788 rfl ?_
    refine A_aload_n dL_law_789 rfl ?_
    refine A_iload_n dL_law_790 rfl ?_
    refine A_iconst (v := nI 1) dL_law_791 (by decide +kernel) ?_
    refine A_iaddN dL_law_792 ?_
    refine A_sld dL_law_793 rfl (vp_in_nI (by omega) (by omega)) ?_
    refine A_aload_n dL_law_794 rfl ?_
    refine A_iload_n dL_law_795 rfl ?_
    refine A_iconst (v := nI 2) dL_law_796 (by decide +kernel) ?_
    refine A_iaddN dL_law_797 ?_
    refine A_sld dL_law_798 rfl (vp_in_nI (by omega) (by omega)) ?_
    refine A_aload_n dL_law_799 rfl ?_
    refine A_iload_n dL_law_800 rfl ?_
    refine A_iconst (v := nI 3) dL_law_801 (by decide +kernel) ?_
    refine A_iaddN dL_law_802 ?_
    refine A_sld dL_law_803 rfl (vp_in_nI (by omega) (by omega)) ?_
    refine A_aload_n dL_law_804 rfl ?_
    refine A_iload_n dL_law_805 rfl ?_
    refine A_iconst (v := nI 4) dL_law_806 (by decide +kernel) ?_
    refine A_iaddN dL_law_807 ?_
    refine A_sld dL_law_808 rfl (vp_in_nI (by omega) (by omega)) ?_
    refine A_callV4 dL_law_809 mlL_98 (Nat.le_of_ble_eq_true rfl) rfl rfl (Nat.le_of_ble_eq_true rfl) (m_mended (c := μ) _ _ _ _ h2 h3 hB hnb.1 hnb.2 hns.1 hns.2 (fun q => absurd g q) (fun _ _ => ?_) (fun _ _ _ _ _ _ _ a3 a4 a5 a6 a7 _ _ _ _ => absurd ⟨rng_of a3 a4 (by omega), rng_1 a5 a6 a7 (by omega)⟩ g2) (fun _ _ _ _ _ _ a3 a4 a5 a6 a7 _ _ _ _ => absurd ⟨rng_of a3 a4 (by omega), rng_1 a5 a6 a7 (by omega)⟩ g2))
    refine Kn.s ?_
    refine A_icmp_eq (tgt := 817) dL_law_812 (by decide) (fun b812 => ?_) (fun b812 => absurd b812 (fun q => q rfl))
    exact next μ ν ⟨t, S, hV⟩
  · refine Kn.s ?_
    refine A_aload_n dL_law_788 rfl ?_
    refine A_aload_n dL_law_789 rfl ?_
    refine A_iload_n dL_law_790 rfl ?_
    refine A_iconst (v := nI 1) dL_law_791 (by decide +kernel) ?_
    refine A_iaddN dL_law_792 ?_
    refine A_sld dL_law_793 rfl (vp_in_nI (by omega) (by omega)) ?_
    refine A_aload_n dL_law_794 rfl ?_
    refine A_iload_n dL_law_795 rfl ?_
    refine A_iconst (v := nI 2) dL_law_796 (by decide +kernel) ?_
    refine A_iaddN dL_law_797 ?_
    refine A_sld dL_law_798 rfl (vp_in_nI (by omega) (by omega)) ?_
    refine A_aload_n dL_law_799 rfl ?_
    refine A_iload_n dL_law_800 rfl ?_
    refine A_iconst (v := nI 3) dL_law_801 (by decide +kernel) ?_
    refine A_iaddN dL_law_802 ?_
    refine A_sld dL_law_803 rfl (vp_in_nI (by omega) (by omega)) ?_
    refine A_aload_n dL_law_804 rfl ?_
    refine A_iload_n dL_law_805 rfl ?_
    refine A_iconst (v := nI 4) dL_law_806 (by decide +kernel) ?_
    refine A_iaddN dL_law_807 ?_
    refine A_sld dL_law_808 rfl (vp_in_nI (by omega) (by omega)) ?_
    refine A_callV4 dL_law_809 mlL_98 (Nat.le_of_ble_eq_true rfl) rfl rfl (Nat.le_of_ble_eq_true rfl) (m_mended (c := μ) _ _ _ _ h2 (h3.sc hS) (hB.sc hS) hnb.1 hnb.2 hns.1 hns.2 (fun q => absurd ⟨⟨b1, e1, k1⟩, gs⟩ q) (fun _ q => absurd ⟨rng_of e2 k2 (by omega), rng_1 e3 k3 k4 (by omega)⟩ q) (fun b2 n2 T2 x2 μ2 a1 a2 a3 a4 a5 a6 a7 _ w2 m1 m2 => ?_) (fun b2 n2 T2 μ2 a1 a2 a3 a4 a5 a6 a7 _ w2 _ _ => by
        have q1 := nI_2 a1 e1 (by omega) (by omega)
        have q2 := nI_2 a3 e2 (by omega) (by omega)
        have q3 := nI_2 a5 e3 (by omega) (by omega)
        subst q1
        subst q2
        subst q3
        exact absurd w.2.1 (by rw [w2 x w.1]; decide)))
    refine Kn.s ?_
    have q1 := nI_2 a1 e1 (by omega) (by omega)
    have q2 := nI_2 a3 e2 (by omega) (by omega)
    have q3 := nI_2 a5 e3 (by omega) (by omega)
    subst q1
    subst q2
    subst q3
    have ex := LeastW_uniq w2 w
    subst ex
    refine A_icmp_eq (tgt := 817) dL_law_812 (by decide) (fun b812 => ?_) (fun b812 => absurd b812 (fun q => q rfl))
    exact next μ2 ν ⟨t, S, hV.look hS (Ms.mf m1) Sv.rf m2⟩
  · refine Kn.s ?_
    refine A_aload_n dL_law_788 rfl ?_
    refine A_aload_n dL_law_789 rfl ?_
    refine A_iload_n dL_law_790 rfl ?_
    refine A_iconst (v := nI 1) dL_law_791 (by decide +kernel) ?_
    refine A_iaddN dL_law_792 ?_
    refine A_sld dL_law_793 rfl (vp_in_nI (by omega) (by omega)) ?_
    refine A_aload_n dL_law_794 rfl ?_
    refine A_iload_n dL_law_795 rfl ?_
    refine A_iconst (v := nI 2) dL_law_796 (by decide +kernel) ?_
    refine A_iaddN dL_law_797 ?_
    refine A_sld dL_law_798 rfl (vp_in_nI (by omega) (by omega)) ?_
    refine A_aload_n dL_law_799 rfl ?_
    refine A_iload_n dL_law_800 rfl ?_
    refine A_iconst (v := nI 3) dL_law_801 (by decide +kernel) ?_
    refine A_iaddN dL_law_802 ?_
    refine A_sld dL_law_803 rfl (vp_in_nI (by omega) (by omega)) ?_
    refine A_aload_n dL_law_804 rfl ?_
    refine A_iload_n dL_law_805 rfl ?_
    refine A_iconst (v := nI 4) dL_law_806 (by decide +kernel) ?_
    refine A_iaddN dL_law_807 ?_
    refine A_sld dL_law_808 rfl (vp_in_nI (by omega) (by omega)) ?_
    refine A_callV4 dL_law_809 mlL_98 (Nat.le_of_ble_eq_true rfl) rfl rfl (Nat.le_of_ble_eq_true rfl) (m_mended (c := μ) _ _ _ _ h2 (h3.sc hS) (hB.sc hS) hnb.1 hnb.2 hns.1 hns.2 (fun q => absurd ⟨⟨b1, e1, k1⟩, gs⟩ q) (fun _ q => absurd ⟨rng_of e2 k2 (by omega), rng_1 e3 k3 k4 (by omega)⟩ q) (fun b2 n2 T2 x2 μ2 a1 a2 a3 a4 a5 a6 a7 _ w2 _ _ => by
        have q1 := nI_2 a1 e1 (by omega) (by omega)
        have q2 := nI_2 a3 e2 (by omega) (by omega)
        have q3 := nI_2 a5 e3 (by omega) (by omega)
        subst q1
        subst q2
        subst q3
        exact absurd w2.2.1 (by rw [w x2 w2.1]; decide)) (fun b2 n2 T2 μ2 _ _ _ _ _ _ _ _ _ m1 m2 => ?_))
    refine Kn.s ?_
    refine A_icmp_eq (tgt := 817) dL_law_812 (by decide) (fun b812 => ?_) (fun b812 => absurd b812 (fun q => q rfl))
    exact next μ2 ν ⟨t, S, hV.look hS (Ms.mf m1) Sv.rf m2⟩
