/-! the class's small methods -/
theorem i_nlt {x y : Int32} (h : ¬ y < x) : x ≤ y := by
  rw [Int32.lt_iff_toInt_lt] at h
  rw [Int32.le_iff_toInt_le]
  omega
theorem i_nle {x y : Int32} (h : ¬ x ≤ y) : y < x := by
  rw [Int32.le_iff_toInt_le] at h
  rw [Int32.lt_iff_toInt_lt]
  omega
theorem i_lt_n {x y : Int32} (h : x < y) : ¬ y ≤ x := by
  rw [Int32.lt_iff_toInt_lt] at h
  rw [Int32.le_iff_toInt_le]
  omega
theorem i_le_n {x y : Int32} (h : x ≤ y) : ¬ y < x := by
  rw [Int32.le_iff_toInt_le] at h
  rw [Int32.lt_iff_toInt_lt]
  omega
/-- one of the numbers 0 .. n - 1 -/
def inR (b : Int32) (n : Nat) : Prop := ∃ k : Nat, b = nI k ∧ k < n
theorem inR_of {b : Int32} {n : Nat} (h0 : ¬ b < 0) (h1 : ¬ nI n ≤ b) (hn : n < 2 ^ 31) : inR b n := by
  obtain ⟨j, hj, rfl⟩ := nI_of h0
  refine ⟨j, rfl, ?_⟩
  rcases Nat.lt_or_ge j n with q | q
  · exact q
  · exact absurd ((nI_leI hn hj).mpr q) h1
theorem inR_0 {b : Int32} {n : Nat} (h : b < 0) (hn : n < 2 ^ 31) : ¬ inR b n := by
  rintro ⟨k, rfl, hk⟩
  exact nI_pos (by omega) h
theorem inR_1 {b : Int32} {n : Nat} (h : nI n ≤ b) (hn : n < 2 ^ 31) : ¬ inR b n := by
  rintro ⟨k, rfl, hk⟩
  have := (nI_leI hn (by omega)).mp h
  omega
theorem fw_0 {ls : List (Option Value)} : fewer [] ls := trivial
theorem fw_n {r ls : List (Option Value)} {x : Option Value} (h : fewer r ls) : fewer (none :: r) (x :: ls) := h
theorem fw_s {r ls : List (Option Value)} {v : Value} (h : fewer r ls) : fewer (some v :: r) (some v :: ls) := ⟨rfl, h⟩
theorem A_weak {M : MInfo} {d : Lv} {P : Po} {pc : Nat} {ls ls0 : List (Option Value)} {st : List Value} {μ : MI} {ν : ML} (kk : AW M d P pc ls0 st μ ν) (hf : fewer ls0 ls) : AW M d P pc ls st μ ν := A_few hf kk
theorem A_max {M : MInfo} {d : Lv} {P : Po} {pc idx : Nat} {ls : List (Option Value)} {st : List Value} {μ : MI} {ν : ML} {x y : Int32} (hd : DC M pc (.invokestatic idx) 3) (hm : SL (mOwn M) idx mJ9_max_7cf53 2) (h1 : 1 ≤ d.1) (hr : (st.map fun v => v.category).sum ≤ 8) (kk : AW M d P (pc + 3) ls (.int (if x < y then y else x) :: st) μ ν) : AW M d P pc ls (.int y :: .int x :: st) μ ν := by
  intro _ p l e R s m args below meth c cells slots Q ad dC dI ca A C H locs lsC hW hl
  obtain ⟨⟨hx, hb, hml, hown, hts⟩, hK, hA, hR, hend, hscr, hNW⟩ := id C
  have hr2 := st_room ad hr
  exact va_mmax hx hb (hml.trans hl.1.symm) hown (hts _ hm.2.1) (hts _ hm.2.2) (hts _ hm.1.1) (hts _ hm.1.2.1) (by omega) (by omega) hR.2.2.1 hR.2.2.2 hd (kk trivial C hW hl)
theorem A_min {M : MInfo} {d : Lv} {P : Po} {pc idx : Nat} {ls : List (Option Value)} {st : List Value} {μ : MI} {ν : ML} {x y : Int32} (hd : DC M pc (.invokestatic idx) 3) (hm : SL (mOwn M) idx mJ9_min_7cf53 2) (h1 : 1 ≤ d.1) (hr : (st.map fun v => v.category).sum ≤ 8) (kk : AW M d P (pc + 3) ls (.int (if y < x then y else x) :: st) μ ν) : AW M d P pc ls (.int y :: .int x :: st) μ ν := by
  intro _ p l e R s m args below meth c cells slots Q ad dC dI ca A C H locs lsC hW hl
  obtain ⟨⟨hx, hb, hml, hown, hts⟩, hK, hA, hR, hend, hscr, hNW⟩ := id C
  have hr2 := st_room ad hr
  exact va_mmin hx hb (hml.trans hl.1.symm) hown (hts _ hm.2.1) (hts _ hm.2.2) (hts _ hm.1.1) (hts _ hm.1.2.1) (by omega) (by omega) hR.2.2.1 hR.2.2.2 hd (kk trivial C hW hl)
theorem A_abs {M : MInfo} {d : Lv} {P : Po} {pc idx : Nat} {ls : List (Option Value)} {st : List Value} {μ : MI} {ν : ML} {x : Int32} (hd : DC M pc (.invokestatic idx) 3) (hm : SL (mOwn M) idx mJ9_abs_0f7a4 1) (h1 : 1 ≤ d.1) (hr : (st.map fun v => v.category).sum ≤ 8) (kk : AW M d P (pc + 3) ls (.int (if 0 ≤ x then x else 0 - x) :: st) μ ν) : AW M d P pc ls (.int x :: st) μ ν := by
  intro _ p l e R s m args below meth c cells slots Q ad dC dI ca A C H locs lsC hW hl
  obtain ⟨⟨hx, hb, hml, hown, hts⟩, hK, hA, hR, hend, hscr, hNW⟩ := id C
  have hr2 := st_room ad hr
  exact va_mabs hx hb (hml.trans hl.1.symm) hown (hts _ hm.2.1) (hts _ hm.2.2) (hts _ hm.1.1) (hts _ hm.1.2.1) (by omega) (by omega) hR.2.2.1 hR.2.2.2 hd (kk trivial C hW hl)
theorem c_within (v lo hi : Int32) {μ : MI} {ν : ML} {P : Po} (h1 : lo ≤ v → v ≤ hi → P (some (.int (nI 1))) μ ν) (h0 : ¬ (lo ≤ v ∧ v ≤ hi) → P (some (.int (nI 0))) μ ν) : Ct mX9_within 0 [.int v, .int lo, .int hi] μ ν P := by
  refine Ct.of (ls0 := [_, _, _]) (by decide) rfl (Nat.le_of_ble_eq_true rfl) rfl ?_
  refine A_iload_n dX9_within_0 rfl ?_
  refine A_iload_n dX9_within_1 rfl ?_
  refine A_icmp_gt (tgt := 14) dX9_within_2 (by decide) (fun b2 => ?_) (fun b2 => ?_)
  · refine A_iconst (v := nI 0) dX9_within_14 (by decide +kernel) ?_
    refine A_iret dX9_within_15 rfl (by decide +kernel) ?_
    exact h0 (fun q => i_lt_n b2 q.1)
  · refine A_iload_n dX9_within_5 rfl ?_
    refine A_iload_n dX9_within_6 rfl ?_
    refine A_icmp_gt (tgt := 14) dX9_within_7 (by decide) (fun b7 => ?_) (fun b7 => ?_)
    · refine A_iconst (v := nI 0) dX9_within_14 (by decide +kernel) ?_
      refine A_iret dX9_within_15 rfl (by decide +kernel) ?_
      exact h0 (fun q => i_lt_n b7 q.2)
    · refine A_iconst (v := nI 1) dX9_within_10 (by decide +kernel) ?_
      refine A_goto (tgt := 15) dX9_within_11 (by decide) ?_
      refine A_iret dX9_within_15 rfl (by decide +kernel) ?_
      exact h1 (i_nlt b2) (i_nlt b7)
theorem c_goesInto {p w : Nat} (hp : p < 2 ^ 31) (hw : w < 2 ^ 31) {μ : MI} {ν : ML} {P : Po} (h1 : 0 < p → w % p = 0 → P (some (.int (nI 1))) μ ν) (h0 : ¬ (0 < p ∧ w % p = 0) → P (some (.int (nI 0))) μ ν) : Ct mX9_goesInto 0 [.int (nI p), .int (nI w)] μ ν P := by
  refine Ct.of (ls0 := [_, _]) (by decide) rfl (Nat.le_of_ble_eq_true rfl) rfl ?_
  refine A_iload_n dX9_goesInto_0 rfl ?_
  refine A_if_le (tgt := 14) dX9_goesInto_1 (by decide) (fun b1 => ?_) (fun b1 => ?_)
  · refine A_iconst (v := nI 0) dX9_goesInto_14 (by decide +kernel) ?_
    refine A_iret dX9_goesInto_15 rfl (by decide +kernel) ?_
    exact h0 (fun q => nI_nle q.1 hp b1)
  · have hp0 : 0 < p := Nat.pos_of_ne_zero (fun e => b1 (by rw [e]; decide +kernel))
    refine A_iload_n dX9_goesInto_4 rfl ?_
    refine A_iload_n dX9_goesInto_5 rfl ?_
    refine A_iremN dX9_goesInto_6 (by omega) (by omega) (by omega) ?_
    refine A_if_ne (tgt := 14) dX9_goesInto_7 (by decide) (fun b7 => ?_) (fun b7 => ?_)
    · refine A_iconst (v := nI 0) dX9_goesInto_14 (by decide +kernel) ?_
      refine A_iret dX9_goesInto_15 rfl (by decide +kernel) ?_
      exact h0 (fun q => b7 (by rw [q.2]; rfl))
    · refine A_iconst (v := nI 1) dX9_goesInto_10 (by decide +kernel) ?_
      refine A_goto (tgt := 15) dX9_goesInto_11 (by decide) ?_
      refine A_iret dX9_goesInto_15 rfl (by decide +kernel) ?_
      exact h1 hp0 (by have hl := Nat.mod_lt w hp0; exact (nI_eq (a := w % p) (b := 0) (by omega) (by omega)).mp b7)
theorem c_has (b : Int32) {m : Nat} {μ : MI} {ν : ML} {P : Po} (hm : μ 2 0 = nI m) (hm8 : m ≤ 8) (h1 : inR b m → P (some (.int (nI 1))) μ ν) (h0 : ¬ inR b m → P (some (.int (nI 0))) μ ν) : Ct mX1_has 0 [.ref 2, .int b] μ ν P := by
  refine Ct.of (ls0 := [_, _]) (by decide) rfl (Nat.le_of_ble_eq_true rfl) rfl ?_
  refine A_iload_n dX1_has_0 rfl ?_
  refine A_if_lt (tgt := 16) dX1_has_1 (by decide) (fun b1 => ?_) (fun b1 => ?_)
  · refine A_iconst (v := nI 0) dX1_has_16 (by decide +kernel) ?_
    refine A_iret dX1_has_17 rfl (by decide +kernel) ?_
    exact h0 (inR_0 b1 (by omega))
  · refine A_iload_n dX1_has_4 rfl ?_
    refine A_aload_n dX1_has_5 rfl ?_
    refine A_getI dX1_has_6 flX1_24 rfl rfl ?_
    rw [hm]
    refine A_icmp_ge (tgt := 16) dX1_has_9 (by decide) (fun b9 => ?_) (fun b9 => ?_)
    · refine A_iconst (v := nI 0) dX1_has_16 (by decide +kernel) ?_
      refine A_iret dX1_has_17 rfl (by decide +kernel) ?_
      exact h0 (inR_1 b9 (by omega))
    · refine A_iconst (v := nI 1) dX1_has_12 (by decide +kernel) ?_
      refine A_goto (tgt := 17) dX1_has_13 (by decide) ?_
      refine A_iret dX1_has_17 rfl (by decide +kernel) ?_
      exact h1 (inR_of b1 b9 (by omega))
