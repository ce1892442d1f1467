/-! ===== the law's loop ===== -/
theorem i_inc6 (i : Nat) : nI i + Int32.ofInt 6 = nI (i + 6) := by rw [show Int32.ofInt 6 = nI 6 by decide +kernel, nI_add]
theorem law_loop {L : Nat} {xs : Nat → Int32} (hL : L ≤ 3072) : ∀ (n i : Nat) (μ : MI) (ν : ML), L - i < n → i ≤ L → INV μ ν → AW mL_law (9, some (L, xs)) lwP 18 [some (.ref NO), some (.ref 0), some (.ref 75), some (.int (nI i))] [] μ ν := by
  intro n
  induction n with
  | zero => intro i μ ν h; omega
  | succ n ih =>
    intro i μ ν hn hi hV
    have next : i + 6 ≤ L → ∀ μ' ν', INV μ' ν' → AW mL_law (9, some (L, xs)) lwP 817 [some (.ref NO), some (.ref 0), some (.ref 75), some (.int (nI i))] [] μ' ν' := by
      intro h6 μ' ν' hV'
      have h9 := ih (i + 6) μ' ν' (by omega) (by omega) hV'
      refine A_iinc (ls1 := [_, _, _, _]) dL_law_817 rfl rfl (by decide) rfl rfl ?_
      refine A_goto (tgt := 18) dL_law_820 (by decide) ?_
      rw [i_inc6]
      exact h9
    refine A_iload_n dL_law_18 rfl ?_
    refine A_aload_n dL_law_19 rfl ?_
    refine A_slen dL_law_20 rfl ?_
    refine A_bipush (v := nI 6) dL_law_21 (by decide +kernel) ?_
    refine A_isub dL_law_23 ?_
    refine A_icmp_gt (tgt := 823) dL_law_24 (by decide) (fun b24 => ?_) (fun b24 => ?_)
    · refine A_iconst (v := nI 1) dL_law_823 (by decide +kernel) ?_
      refine A_iret dL_law_824 rfl (by decide +kernel) ?_
      rfl
    · have h6 : i + 6 ≤ L := by
        have q := i_nlt b24
        rw [fa_le, nI_toInt (by omega), pk_sub_toInt (by omega) (by omega)] at q
        omega
      have next := next h6
      refine A_aload_n dL_law_27 rfl ?_
      refine A_iload_n dL_law_28 rfl ?_
      refine A_sld dL_law_29 rfl (vp_in_nI (by omega) (by omega)) ?_
      refine A_bipush (v := nI 31) dL_law_30 (by decide +kernel) ?_
      refine A_iand dL_law_32 ?_
      rcases sw_of (xs (nI i).toNatClampNeg &&& nI 31) (n := 19) (by decide) with ⟨k33, hk33, hs33⟩ | hs33
      · rcases (show k33 = 0 ∨ k33 = 1 ∨ k33 = 2 ∨ k33 = 3 ∨ k33 = 4 ∨ k33 = 5 ∨ k33 = 6 ∨ k33 = 7 ∨ k33 = 8 ∨ k33 = 9 ∨ k33 = 10 ∨ k33 = 11 ∨ k33 = 12 ∨ k33 = 13 ∨ k33 = 14 ∨ k33 = 15 ∨ k33 = 16 ∨ k33 = 17 ∨ k33 = 18 by omega) with rfl | rfl | rfl | rfl | rfl | rfl | rfl | rfl | rfl | rfl | rfl | rfl | rfl | rfl | rfl | rfl | rfl | rfl | rfl
        · rw [hs33]
          refine A_tableIn (off := 91) (tgt := 124) dL_law_33 (by decide +kernel) (by decide +kernel) (by decide +kernel) (by decide) ?_
          exact op_bucket hL h6 hV next
        · rw [hs33]
          refine A_tableIn (off := 124) (tgt := 157) dL_law_33 (by decide +kernel) (by decide +kernel) (by decide +kernel) (by decide) ?_
          exact op_pipe hL h6 hV next
        · rw [hs33]
          refine A_tableIn (off := 167) (tgt := 200) dL_law_33 (by decide +kernel) (by decide +kernel) (by decide +kernel) (by decide) ?_
          exact op_spout hL h6 hV next
        · rw [hs33]
          refine A_tableIn (off := 220) (tgt := 253) dL_law_33 (by decide +kernel) (by decide +kernel) (by decide +kernel) (by decide) ?_
          exact op_turn hL h6 hV next
        · rw [hs33]
          refine A_tableIn (off := 253) (tgt := 286) dL_law_33 (by decide +kernel) (by decide +kernel) (by decide +kernel) (by decide) ?_
          exact op_frog hL h6 hV next
        · rw [hs33]
          refine A_tableIn (off := 296) (tgt := 329) dL_law_33 (by decide +kernel) (by decide +kernel) (by decide +kernel) (by decide) ?_
          exact op_weather hL h6 hV next
        · rw [hs33]
          refine A_tableIn (off := 329) (tgt := 362) dL_law_33 (by decide +kernel) (by decide +kernel) (by decide +kernel) (by decide) ?_
          exact op_dry hL h6 hV next
        · rw [hs33]
          refine A_tableIn (off := 352) (tgt := 385) dL_law_33 (by decide +kernel) (by decide +kernel) (by decide +kernel) (by decide) ?_
          exact op_told hL h6 hV next
        · rw [hs33]
          refine A_tableIn (off := 385) (tgt := 418) dL_law_33 (by decide +kernel) (by decide +kernel) (by decide +kernel) (by decide) ?_
          exact op_count hL h6 hV next
        · rw [hs33]
          refine A_tableIn (off := 408) (tgt := 441) dL_law_33 (by decide +kernel) (by decide +kernel) (by decide +kernel) (by decide) ?_
          exact op_tick hL h6 hV next
        · rw [hs33]
          refine A_tableIn (off := 431) (tgt := 464) dL_law_33 (by decide +kernel) (by decide +kernel) (by decide +kernel) (by decide) ?_
          exact op_again hL h6 hV next
        · rw [hs33]
          refine A_tableIn (off := 444) (tgt := 477) dL_law_33 (by decide +kernel) (by decide +kernel) (by decide +kernel) (by decide) ?_
          exact op_row hL h6 hV next
        · rw [hs33]
          refine A_tableIn (off := 493) (tgt := 526) dL_law_33 (by decide +kernel) (by decide +kernel) (by decide +kernel) (by decide) ?_
          exact op_round hL h6 hV next
        · rw [hs33]
          refine A_tableIn (off := 516) (tgt := 549) dL_law_33 (by decide +kernel) (by decide +kernel) (by decide +kernel) (by decide) ?_
          exact op_meeting hL h6 hV next
        · rw [hs33]
          refine A_tableIn (off := 549) (tgt := 582) dL_law_33 (by decide +kernel) (by decide +kernel) (by decide +kernel) (by decide) ?_
          exact op_drip hL h6 hV next
        · rw [hs33]
          refine A_tableIn (off := 632) (tgt := 665) dL_law_33 (by decide +kernel) (by decide +kernel) (by decide +kernel) (by decide) ?_
          exact op_hear hL h6 hV next
        · rw [hs33]
          refine A_tableIn (off := 695) (tgt := 728) dL_law_33 (by decide +kernel) (by decide +kernel) (by decide +kernel) (by decide) ?_
          exact op_hush hL h6 hV next
        · rw [hs33]
          refine A_tableIn (off := 708) (tgt := 741) dL_law_33 (by decide +kernel) (by decide +kernel) (by decide +kernel) (by decide) ?_
          exact op_blamed hL h6 hV next
        · rw [hs33]
          refine A_tableIn (off := 731) (tgt := 764) dL_law_33 (by decide +kernel) (by decide +kernel) (by decide +kernel) (by decide) ?_
          exact op_mended hL h6 hV next
      · refine A_tableOut (tgt := 817) dL_law_33 hs33 (by decide) ?_
        exact next μ ν hV
/-- the law, from behind its two constructors -/
theorem law_body {L : Nat} {xs : Nat → Int32} (hL : L ≤ 3072) {μ : MI} {ν : ML} (hV : INV μ ν) : AW mL_law (9, some (L, xs)) lwP 16 [some (.ref NO), some (.ref 0), some (.ref 75), none] [] μ ν := by
  refine A_iconst (v := nI 0) dL_law_16 (by decide +kernel) ?_
  refine A_istore_n (ls1 := [_, _, _, _]) dL_law_17 (by decide) rfl rfl ?_
  exact law_loop hL (L + 1) 0 μ ν (by omega) (by omega) hV
