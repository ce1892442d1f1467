/-! the reference's drip -/
theorem sar_sm : ∀ k, k < 64 → (((nI k).toInt64 &&& 63).toBitVec.smod 64).toNat = k := by decide +kernel
theorem sar_N {n k : Nat} (hn : n < 2 ^ 62) (hk : k < 64) : lN n >>> ((nI k).toInt64 &&& 63) = lN (n / 2 ^ k) := pf_shr (sar_sm k hk) hn
theorem m_ones {n : Nat} (hn : n < 2 ^ 60) {μ : MI} {ν : ML} {P : Po} (hP : P (some (.int (nI (popN n 60)))) μ ν) : Ct mX10_ones 0 [.long (lN n)] μ ν P := by
  refine Ct.of (ls0 := [_, _, _, _]) (by decide) rfl (Nat.le_of_ble_eq_true rfl) rfl ?_
  have loop : ∀ (q i : Nat), 60 - i < q → i ≤ 60 → AW mX10_ones (0, none) P 4 [some (.long (lN n)), none, some (.int (nI (popN n i))), some (.int (nI i))] [] μ ν := by
    intro q
    induction q with
    | zero => intro i h; omega
    | succ q ih =>
      intro i hq hi
      refine A_iload_n dX10_ones_4 rfl ?_
      refine A_bipush (v := nI 60) dX10_ones_5 (by decide +kernel) ?_
      refine A_icmp_geN (tgt := 25) dX10_ones_7 (by decide) (by omega) (by omega) (fun b7 => ?_) (fun b7 => ?_)
      · refine A_iload_n dX10_ones_25 rfl ?_
        refine A_iret dX10_ones_26 rfl rfl ?_
        rw [show i = 60 by omega]
        exact hP
      · refine A_iload_n dX10_ones_10 rfl ?_
        refine A_lload_n dX10_ones_11 rfl ?_
        refine A_iload_n dX10_ones_12 rfl ?_
        refine A_lshr dX10_ones_13 ?_
        rw [sar_N (by omega) (by omega)]
        refine A_lconst (v := 1) dX10_ones_14 rfl ?_
        refine A_land dX10_ones_15 ?_
        rw [show (1 : Int64) = lN (2 ^ 1 - 1) from rfl, wb_mask (Nat.lt_of_le_of_lt (Nat.div_le_self _ _) (by omega)) (by decide)]
        refine A_l2i dX10_ones_16 ?_
        rw [lN_i]
        refine A_iaddN dX10_ones_17 ?_
        refine A_istore_n (ls1 := [_, _, _, _]) dX10_ones_18 (by decide) rfl rfl ?_
        refine A_iincN (ls1 := [_, _, _, _]) dX10_ones_19 rfl (by decide) rfl rfl ?_
        refine A_goto (tgt := 4) dX10_ones_22 (by decide) ?_
        exact ih (i + 1) (by omega) (by omega)
  refine A_iconst (v := nI 0) dX10_ones_0 (by decide +kernel) ?_
  refine A_istore_n (ls1 := [_, _, _, _]) dX10_ones_1 (by decide) rfl rfl ?_
  refine A_iconst (v := nI 0) dX10_ones_2 (by decide +kernel) ?_
  refine A_istore_n (ls1 := [_, _, _, _]) dX10_ones_3 (by decide) rfl rfl ?_
  exact loop 61 0 (by omega) (by omega)
theorem hJ_ok : ∀ i, i < 12 → (i < 5 → nI 0 - hI i = nI (5 - i)) ∧ (i < 5 → nI 0 - hI i = nI (dI5 i)) ∧ (5 ≤ i → hI i = nI (dI5 i)) := by decide +kernel
theorem m_offOf {a b : Nat} (ha : a < 2 ^ 60) (hb : b < 2 ^ 60) {μ : MI} {ν : ML} {P : Po} (hP : P (some (.int (nI (offF a b 1000 11)))) μ ν) : Ct mX10_offOf 1 [.long (lN a), .long (lN b)] μ ν P := by
  refine Ct.of (ls0 := [_, _, _, _, _, _, _, _, _, _, _]) (by decide) rfl (Nat.le_of_ble_eq_true rfl) rfl ?_
  have loop : ∀ (n i : Nat), 11 - i < n → i ≤ 11 → AW mX10_offOf (1, none) P 14 [some (.long (lN a)), none, some (.long (lN b)), none, some (.long 1152921504606846975), none, some (.int (nI (offF a b 1000 i))), some (.int (hI i)), none, none, none] [] μ ν := by
    intro n
    induction n with
    | zero => intro i h; omega
    | succ n ih =>
      intro i hn hi
      obtain ⟨q1, q2, q3, q4, q5, q6⟩ := hI_ok i (by omega)
      obtain ⟨j1, j2, j3⟩ := hJ_ok i (by omega)
      have hx : a ^^^ shP b i < 2 ^ 60 := Nat.xor_lt_two_pow ha (shP_lt hb i)
      have ho := offF_le a b 1000 i
      have hp := popN_le (a ^^^ shP b i) 60
      have hd : dI5 i ≤ 11 := by unfold dI5; split <;> omega
      have ih1 := ih (i + 1)
      rw [offF] at ih1
      have tail : i < 11 → AW mX10_offOf (1, none) P 64 [some (.long (lN a)), none, some (.long (lN b)), none, some (.long 1152921504606846975), none, some (.int (nI (offF a b 1000 i))), some (.int (hI i)), none, none, none] [.int (nI (dI5 i)), .int (nI (popN (a ^^^ shP b i) 60))] μ ν := by
        intro h11
        have ih2 := ih1 (by omega) (by omega)
        refine A_iaddN dX10_offOf_64 ?_
        refine A_istore (ls1 := [_, _, _, _, _, _, _, _, _, _, _]) dX10_offOf_65 (by decide) rfl rfl ?_
        refine A_iload dX10_offOf_67 rfl ?_
        refine A_iload dX10_offOf_69 rfl ?_
        refine A_icmp_geN (tgt := 79) dX10_offOf_71 (by decide) (by omega) (by omega) (fun b71 => ?_) (fun b71 => ?_)
        · refine A_iload dX10_offOf_79 rfl ?_
          refine A_istore (ls1 := [_, _, _, _, _, _, _, _, _, _, _]) dX10_offOf_81 (by decide) rfl rfl ?_
          refine A_iinc (ls1 := [_, _, _, _, _, _, _, _, _, _, _]) dX10_offOf_83 rfl rfl (by decide) rfl rfl ?_
          refine A_goto (tgt := 14) dX10_offOf_86 (by decide) ?_
          rw [q3]
          rw [show (offF a b 1000 i).min (popN (a ^^^ shP b i) 60 + dI5 i) = offF a b 1000 i from Nat.min_eq_left b71] at ih2
          exact A_weak ih2 (by repeat first | exact fw_0 | refine fw_s ?_ | refine fw_n ?_)
        · refine A_iload dX10_offOf_74 rfl ?_
          refine A_goto (tgt := 81) dX10_offOf_76 (by decide) ?_
          refine A_istore (ls1 := [_, _, _, _, _, _, _, _, _, _, _]) dX10_offOf_81 (by decide) rfl rfl ?_
          refine A_iinc (ls1 := [_, _, _, _, _, _, _, _, _, _, _]) dX10_offOf_83 rfl rfl (by decide) rfl rfl ?_
          refine A_goto (tgt := 14) dX10_offOf_86 (by decide) ?_
          rw [q3]
          rw [show (offF a b 1000 i).min (popN (a ^^^ shP b i) 60 + dI5 i) = popN (a ^^^ shP b i) 60 + dI5 i from Nat.min_eq_right (Nat.le_of_lt b71)] at ih2
          exact A_weak ih2 (by repeat first | exact fw_0 | refine fw_s ?_ | refine fw_n ?_)
      refine A_iload dX10_offOf_14 rfl ?_
      refine A_iconst (v := nI 5) dX10_offOf_16 (by decide +kernel) ?_
      refine A_icmp_gt (tgt := 89) dX10_offOf_17 (by decide) (fun b17 => ?_) (fun b17 => ?_)
      · refine A_iload dX10_offOf_89 rfl ?_
        refine A_iret dX10_offOf_91 rfl rfl ?_
        rw [show i = 11 by have := q1.mp b17; omega]
        exact hP
      · have h11 : i < 11 := by
          rcases Nat.lt_or_ge i 11 with z | z
          · exact z
          · exact absurd (q1.mpr z) b17
        have tail := tail h11
        refine A_iload dX10_offOf_20 rfl ?_
        refine A_if_ge (tgt := 34) dX10_offOf_22 (by decide) (fun b22 => ?_) (fun b22 => ?_)
        · have h5 : 5 ≤ i := q2.mp b22
          refine A_lload_n dX10_offOf_34 rfl ?_
          refine A_iload dX10_offOf_35 rfl ?_
          rw [q5 h5]
          refine A_lshl dX10_offOf_37 ?_
          rw [wb_shl b (by omega), ← q5 h5]
          refine A_lload dX10_offOf_38 rfl ?_
          refine A_land dX10_offOf_40 ?_
          rw [lN_mask60, show b * 2 ^ (i - 5) % 2 ^ 60 = shP b i by unfold shP; rw [if_neg (by omega)]]
          refine A_lstore (ls1 := [_, _, _, _, _, _, _, _, _, _, _]) dX10_offOf_41 (by decide) rfl rfl ?_
          refine A_lload_n dX10_offOf_43 rfl ?_
          refine A_lload dX10_offOf_44 rfl ?_
          refine A_lxor dX10_offOf_46 ?_
          rw [lN_xor]
          refine A_callS1 dX10_offOf_47 mlX10_198 (by decide) (Nat.le_of_ble_eq_true rfl) (m_ones hx ?_)
          refine Kn.s ?_
          refine A_iload dX10_offOf_50 rfl ?_
          refine A_if_ge (tgt := 62) dX10_offOf_52 (by decide) (fun b52 => ?_) (fun b52 => absurd b52 (fun q => q b22))
          refine A_iload dX10_offOf_62 rfl ?_
          rw [← j3 h5] at tail
          exact A_weak tail (by repeat first | exact fw_0 | refine fw_s ?_ | refine fw_n ?_)
        · have h5 : i < 5 := by
            rcases Nat.lt_or_ge i 5 with z | z
            · exact z
            · exact absurd (q2.mpr z) b22
          refine A_lload_n dX10_offOf_25 rfl ?_
          refine A_iconst (v := nI 0) dX10_offOf_26 (by decide +kernel) ?_
          refine A_iload dX10_offOf_27 rfl ?_
          refine A_isub dX10_offOf_29 ?_
          rw [j1 h5]
          refine A_lshr dX10_offOf_30 ?_
          rw [sar_N (by omega) (by omega), show b / 2 ^ (5 - i) = shP b i by unfold shP; rw [if_pos (by omega)]]
          refine A_goto (tgt := 41) dX10_offOf_31 (by decide) ?_
          refine A_lstore (ls1 := [_, _, _, _, _, _, _, _, _, _, _]) dX10_offOf_41 (by decide) rfl rfl ?_
          refine A_lload_n dX10_offOf_43 rfl ?_
          refine A_lload dX10_offOf_44 rfl ?_
          refine A_lxor dX10_offOf_46 ?_
          rw [lN_xor]
          refine A_callS1 dX10_offOf_47 mlX10_198 (by decide) (Nat.le_of_ble_eq_true rfl) (m_ones hx ?_)
          refine Kn.s ?_
          refine A_iload dX10_offOf_50 rfl ?_
          refine A_if_ge (tgt := 62) dX10_offOf_52 (by decide) (fun b52 => absurd b52 b22) (fun b52 => ?_)
          refine A_iconst (v := nI 0) dX10_offOf_55 (by decide +kernel) ?_
          refine A_iload dX10_offOf_56 rfl ?_
          refine A_isub dX10_offOf_58 ?_
          refine A_goto (tgt := 64) dX10_offOf_59 (by decide) ?_
          rw [j2 h5]
          exact A_weak tail (by repeat first | exact fw_0 | refine fw_s ?_ | refine fw_n ?_)
  refine A_ldc2 dX10_offOf_0 kcX10_196 ?_
  refine A_lstore (ls1 := [_, _, _, _, _, _, _, _, _, _, _]) dX10_offOf_3 (by decide) rfl rfl ?_
  refine A_sipush (v := nI 1000) dX10_offOf_5 (by decide +kernel) ?_
  refine A_istore (ls1 := [_, _, _, _, _, _, _, _, _, _, _]) dX10_offOf_8 (by decide) rfl rfl ?_
  refine A_bipush (v := (-5)) dX10_offOf_10 (by decide +kernel) ?_
  refine A_istore (ls1 := [_, _, _, _, _, _, _, _, _, _, _]) dX10_offOf_12 (by decide) rfl rfl ?_
  have h9 := loop 12 0 (by omega) (by omega)
  exact h9
theorem m_loneRow {s r v e : Nat} (hs : 0 < s) (hs1 : s ≤ 100) (hr : r ≤ 20) (hv : v ≤ 8) (he : 0 < e) (he1 : e ≤ 8) {μ : MI} {ν : ML} {P : Po} (hP : P (some (.long (lN (lnR s r v e)))) μ ν) : Ct mX10_loneRow 0 [.int (nI s), .int (nI r), .int (nI v), .int (nI e)] μ ν P := by
  refine Ct.of (ls0 := [_, _, _, _, _, _, _, _, _]) (by decide) rfl (Nat.le_of_ble_eq_true rfl) rfl ?_
  have loop : ∀ (n i : Nat) (x : Int32), 60 - i < n → i ≤ 60 → UD x i (lnS s r v e i).2 → AW mX10_loneRow (0, none) P 12 [some (.int (nI s)), some (.int (nI r)), some (.int (nI v)), some (.int (nI e)), some (.long (lN (bitsN (lnK s r v e) i))), none, some (.int (nI (lnS s r v e i).1)), some (.int x), some (.int (nI i))] [] μ ν := by
    intro n
    induction n with
    | zero => intro i x h; omega
    | succ n ih =>
      intro i x hn hi hU
      obtain ⟨hb1, hb2⟩ := lnS_b (s := s) (r := r) (v := v) (e := e) hs i
      have hge := hU.ge (by omega) (by omega)
      have tail : ∀ w : Nat, i < 60 → w ≤ 8 → (0 < (lnS s r v e i).2 → w = 0) → ((lnS s r v e i).2 = 0 → w = if i % e = 0 then v else 0) → AW mX10_loneRow (0, none) P 40 [some (.int (nI s)), some (.int (nI r)), some (.int (nI v)), some (.int (nI e)), some (.long (lN (bitsN (lnK s r v e) i))), none, some (.int (nI (lnS s r v e i).1)), some (.int x), some (.int (nI i))] [.int (nI w), .int (nI (lnS s r v e i).1)] μ ν := by
        intro w hi60 hw8 hw1 hw2
        have ih1 := fun y => ih (i + 1) y (by omega) (by omega)
        refine A_iaddN dX10_loneRow_40 ?_
        refine A_istore (ls1 := [_, _, _, _, _, _, _, _, _]) dX10_loneRow_41 (by decide) rfl rfl ?_
        refine A_iload dX10_loneRow_43 rfl ?_
        refine A_iload dX10_loneRow_45 rfl ?_
        refine A_icmp_ge (tgt := 74) dX10_loneRow_47 (by decide) (fun b47 => ?_) (fun b47 => ?_)
        · refine A_iincN (ls1 := [_, _, _, _, _, _, _, _, _]) dX10_loneRow_74 rfl (by decide) rfl rfl ?_
          refine A_goto (tgt := 12) dX10_loneRow_77 (by decide) ?_
          have hd := hge.mp b47
          obtain ⟨k1, k2⟩ := lnS_d hd
          have h9 := ih1 x (by rw [k1]; exact hU.dec (by omega) hd (by omega))
          rw [k1, bitsN_f k2] at h9
          rw [hw1 hd, Nat.add_zero]
          exact h9
        · have hd : (lnS s r v e i).2 = 0 := by
            rcases Nat.eq_zero_or_pos (lnS s r v e i).2 with q | q
            · exact q
            · exact absurd (hge.mpr q) b47
          have hw := hw2 hd
          refine A_iload dX10_loneRow_50 rfl ?_
          refine A_iload_n dX10_loneRow_52 rfl ?_
          refine A_icmp_ltN (tgt := 74) dX10_loneRow_53 (by decide) (by omega) (by omega) (fun b53 => ?_) (fun b53 => ?_)
          · refine A_iincN (ls1 := [_, _, _, _, _, _, _, _, _]) dX10_loneRow_74 rfl (by decide) rfl rfl ?_
            refine A_goto (tgt := 12) dX10_loneRow_77 (by decide) ?_
            obtain ⟨k1, k2⟩ := lnS_n (s := s) (r := r) (v := v) (e := e) hd (by rw [← hw]; omega)
            have h9 := ih1 x (by rw [k1]; rw [hd] at hU; exact hU.idle (by omega))
            rw [k1, bitsN_f k2, ← hw] at h9
            exact h9
          · refine A_lload dX10_loneRow_56 rfl ?_
            refine A_lconst (v := 1) dX10_loneRow_58 rfl ?_
            refine A_iload dX10_loneRow_59 rfl ?_
            refine A_lshl dX10_loneRow_61 ?_
            refine A_lor dX10_loneRow_62 ?_
            refine A_lstore (ls1 := [_, _, _, _, _, _, _, _, _]) dX10_loneRow_63 (by decide) rfl rfl ?_
            refine A_iconst (v := nI 0) dX10_loneRow_65 (by decide +kernel) ?_
            refine A_istore (ls1 := [_, _, _, _, _, _, _, _, _]) dX10_loneRow_66 (by decide) rfl rfl ?_
            refine A_iload dX10_loneRow_68 rfl ?_
            refine A_iload_n dX10_loneRow_70 rfl ?_
            refine A_iaddN dX10_loneRow_71 ?_
            refine A_istore (ls1 := [_, _, _, _, _, _, _, _, _]) dX10_loneRow_72 (by decide) rfl rfl ?_
            refine A_iincN (ls1 := [_, _, _, _, _, _, _, _, _]) dX10_loneRow_74 rfl (by decide) rfl rfl ?_
            refine A_goto (tgt := 12) dX10_loneRow_77 (by decide) ?_
            obtain ⟨k1, k2⟩ := lnS_k (s := s) (r := r) (v := v) (e := e) hd (by rw [← hw]; omega)
            have h9 := ih1 (nI (i + r)) (by rw [k1]; exact UD.rest i r (by omega) hr)
            rw [k1, bitsN_t k2] at h9
            have e9 := lN_or_bit (q := 1) hi60 (bitsN_lt (lnK s r v e) i) (Nat.le_refl 1)
            rw [Nat.one_mul] at e9
            rw [show (1 : Int64) = lN 1 from rfl, e9]
            exact h9
      refine A_iload dX10_loneRow_12 rfl ?_
      refine A_bipush (v := nI 60) dX10_loneRow_14 (by decide +kernel) ?_
      refine A_icmp_geN (tgt := 80) dX10_loneRow_16 (by decide) (by omega) (by omega) (fun b16 => ?_) (fun b16 => ?_)
      · refine A_lload dX10_loneRow_80 rfl ?_
        refine A_lret dX10_loneRow_82 rfl ?_
        rw [show i = 60 by omega]
        exact hP
      · refine A_iload dX10_loneRow_19 rfl ?_
        refine A_iload dX10_loneRow_21 rfl ?_
        refine A_iload_n dX10_loneRow_23 rfl ?_
        refine A_iremN dX10_loneRow_24 (by omega) (by omega) (by omega) ?_
        refine A_if_ne (tgt := 39) dX10_loneRow_25 (by decide) (fun b25 => ?_) (fun b25 => ?_)
        · refine A_iconst (v := nI 0) dX10_loneRow_39 (by decide +kernel) ?_
          exact tail 0 b16 (by omega) (fun _ => rfl) (fun _ => by rw [if_neg (fun q => b25 (by rw [q]; rfl))])
        · refine A_iload dX10_loneRow_28 rfl ?_
          refine A_iload dX10_loneRow_30 rfl ?_
          refine A_icmp_ge (tgt := 39) dX10_loneRow_32 (by decide) (fun b32 => ?_) (fun b32 => ?_)
          · refine A_iconst (v := nI 0) dX10_loneRow_39 (by decide +kernel) ?_
            exact tail 0 b16 (by omega) (fun _ => rfl) (fun q => by have := hge.mp b32; omega)
          · refine A_iload_n dX10_loneRow_35 rfl ?_
            refine A_goto (tgt := 40) dX10_loneRow_36 (by decide) ?_
            exact tail v b16 hv (fun q => absurd (hge.mpr q) b32) (fun _ => by rw [if_pos ((nI_eq (b := 0) (by have := Nat.mod_lt i he; omega) (by omega)).mp b25)])
  refine A_lconst (v := 0) dX10_loneRow_0 rfl ?_
  refine A_lstore (ls1 := [_, _, _, _, _, _, _, _, _]) dX10_loneRow_1 (by decide) rfl rfl ?_
  refine A_iconst (v := nI 0) dX10_loneRow_3 (by decide +kernel) ?_
  refine A_istore (ls1 := [_, _, _, _, _, _, _, _, _]) dX10_loneRow_4 (by decide) rfl rfl ?_
  refine A_iconst (v := (-1)) dX10_loneRow_6 (by decide +kernel) ?_
  refine A_istore (ls1 := [_, _, _, _, _, _, _, _, _]) dX10_loneRow_7 (by decide) rfl rfl ?_
  refine A_iconst (v := nI 0) dX10_loneRow_9 (by decide +kernel) ?_
  refine A_istore (ls1 := [_, _, _, _, _, _, _, _, _]) dX10_loneRow_10 (by decide) rfl rfl ?_
  exact loop 61 0 (-1) (by omega) (by omega) ⟨fun _ => by decide +kernel, fun q => absurd q (Nat.lt_irrefl 0)⟩
theorem offF_m (a b m k : Nat) : ∀ i, offF a b (Nat.min m k) i = Nat.min m (offF a b k i)
  | 0 => rfl
  | i + 1 => by rw [offF, offF_m a b m k i, offF]; exact Nat.min_assoc _ _ _
theorem offF_1 (a b m : Nat) : ∀ i n, i < n → offF a b m n ≤ popN (a ^^^ shP b i) 60 + dI5 i
  | i, 0, h => by omega
  | i, n + 1, h => by
    rw [offF]
    by_cases e : i = n
    · subst e
      exact Nat.min_le_right _ _
    · exact Nat.le_trans (Nat.min_le_left _ _) (offF_1 a b m i n (by omega))
theorem offF_60 (a b : Nat) : offF a b 1000 11 = offF a b 60 11 := by
  have h1 := offF_1 a b 1000 5 11 (by omega)
  have h2 := popN_le (a ^^^ shP b 5) 60
  have h3 : dI5 5 = 0 := rfl
  have e := offF_m a b 60 1000 11
  rw [show Nat.min 60 1000 = 60 from rfl] at e
  rw [e]
  exact (Nat.min_eq_right (by omega)).symm
theorem drF_m (a s r : Nat) {m : Nat} (hm : 60 < m) : ∀ k, drF a s r m (k + 1) = drF a s r 61 (k + 1)
  | 0 => by
    have h := offF_le a (lnR s r (0 / 8 + 1) (0 % 8 + 1)) 60 11
    have u : ∀ m', drF a s r m' (0 + 1) = if offF a (lnR s r (0 / 8 + 1) (0 % 8 + 1)) 60 11 < m' then (0 / 8 + 1, 0 % 8 + 1, offF a (lnR s r (0 / 8 + 1) (0 % 8 + 1)) 60 11) else (0, 0, m') := fun _ => rfl
    rw [u, u, if_pos (show offF a (lnR s r (0 / 8 + 1) (0 % 8 + 1)) 60 11 < m by omega), if_pos (show offF a (lnR s r (0 / 8 + 1) (0 % 8 + 1)) 60 11 < 61 by omega)]
  | k + 1 => by rw [drF, drF_m a s r hm k]; rfl
theorem m_drip (r : Int64) (x y what : Int32) {μ : MI} {ν : ML} {P : Po} (ho : ¬ okDr r x y what → P (some (.int (-1002))) μ ν) (ha : ∀ s q j, uL r < 2 ^ 60 → x = nI s → 1 ≤ s → s ≤ 100 → y = nI q → q ≤ 20 → what = nI j → j < 3 → P (some (.int (nI (drR (drF (uL r) s q 61 64) j)))) μ ν) : Ct mX10_drip 2 [.ref 75, .long r, .int x, .int y, .int what] μ ν P := by
  refine Ct.of (ls0 := [_, _, _, _, _, _, _, _, _, _, _, _]) (by decide) rfl (Nat.le_of_ble_eq_true rfl) rfl ?_
  have main : ∀ s q j, uL r < 2 ^ 60 → x = nI s → 1 ≤ s → s ≤ 100 → y = nI q → q ≤ 20 → what = nI j → j < 3 → AW mX10_drip (2, none) P 49 [some (.ref 75), some (.long r), none, some (.int x), some (.int y), some (.int what), none, none, none, none, none, none] [] μ ν := by
    intro s q j hr hx hs1 hs hy hq hw hj
    have h9 := ha s q j hr hx hs1 hs hy hq hw hj
    have e64 : drF (uL r) s q 10000 64 = drF (uL r) s q 61 64 := drF_m (uL r) s q (m := 10000) (by omega) 63
    rw [← e64] at h9
    subst hx
    subst hy
    subst hw
    rw [show r = lN (uL r) from (lN_uL r).symm]
    generalize uL r = a at *
    have inner : ∀ (i : Nat), i < 8 → (∀ w0 : Option Value, AW mX10_drip (2, none) P 63 [some (.ref 75), some (.long (lN a)), none, some (.int (nI s)), some (.int (nI q)), some (.int (nI j)), some (.int (nI (drF a s q 10000 (8 * (i + 1))).2.2)), some (.int (nI (drF a s q 10000 (8 * (i + 1))).1)), some (.int (nI (drF a s q 10000 (8 * (i + 1))).2.1)), some (.int (nI (i + 1 + 1))), none, none] [] μ ν) → ∀ (n k : Nat), 8 - k < n → k ≤ 8 → AW mX10_drip (2, none) P 73 [some (.ref 75), some (.long (lN a)), none, some (.int (nI s)), some (.int (nI q)), some (.int (nI j)), some (.int (nI (drF a s q 10000 (8 * i + k)).2.2)), some (.int (nI (drF a s q 10000 (8 * i + k)).1)), some (.int (nI (drF a s q 10000 (8 * i + k)).2.1)), some (.int (nI (i + 1))), some (.int (nI (k + 1))), none] [] μ ν := by
      intro i hi hex n
      induction n with
      | zero => intro k h; omega
      | succ n ih =>
        intro k hn hk
        have hb := drF_b a s q 10000 (8 * i + k) (by omega)
        have ho := offF_le a (lnR s q (i + 1) (k + 1)) 60 11
        have ih1 : k < 8 → _ := fun h => ih (k + 1) (by omega) (by omega)
        refine A_iload dX10_drip_73 rfl ?_
        refine A_bipush (v := nI 9) dX10_drip_75 (by decide +kernel) ?_
        refine A_icmp_geN (tgt := 121) dX10_drip_77 (by decide) (by omega) (by omega) (fun b77 => ?_) (fun b77 => ?_)
        · refine A_iincN (ls1 := [_, _, _, _, _, _, _, _, _, _, _, _]) dX10_drip_121 rfl (by decide) rfl rfl ?_
          refine A_goto (tgt := 63) dX10_drip_124 (by decide) ?_
          have h8 := hex none
          rw [show 8 * (i + 1) = 8 * i + k by omega] at h8
          exact A_weak h8 (by repeat first | exact fw_0 | refine fw_s ?_ | refine fw_n ?_)
        · refine A_lload_n dX10_drip_80 rfl ?_
          refine A_iload_n dX10_drip_81 rfl ?_
          refine A_iload dX10_drip_82 rfl ?_
          refine A_iload dX10_drip_84 rfl ?_
          refine A_iload dX10_drip_86 rfl ?_
          refine A_callS4 dX10_drip_88 mlX10_208 (by decide) (Nat.le_of_ble_eq_true rfl) (m_loneRow hs1 hs hq (by omega) (by omega) (by omega) ?_)
          refine Kn.s ?_
          refine A_callS2 dX10_drip_91 mlX10_212 (by decide) (Nat.le_of_ble_eq_true rfl) (m_offOf hr (lnR_lt _ _ _ _) ?_)
          refine Kn.s ?_
          rw [offF_60]
          refine A_istore (ls1 := [_, _, _, _, _, _, _, _, _, _, _, _]) dX10_drip_94 (by decide) rfl rfl ?_
          refine A_iload dX10_drip_96 rfl ?_
          refine A_iload dX10_drip_98 rfl ?_
          refine A_icmp_geN (tgt := 115) dX10_drip_100 (by decide) (by omega) (by omega) (fun b100 => ?_) (fun b100 => ?_)
          · refine A_iincN (ls1 := [_, _, _, _, _, _, _, _, _, _, _, _]) dX10_drip_115 rfl (by decide) rfl rfl ?_
            refine A_goto (tgt := 73) dX10_drip_118 (by decide) ?_
            have h8 := ih1 (by omega)
            rw [← Nat.add_assoc, drF_f (v := i + 1) (e := k + 1) (by omega) (by omega) (by omega)] at h8
            exact A_weak h8 (by repeat first | exact fw_0 | refine fw_s ?_ | refine fw_n ?_)
          · refine A_iload dX10_drip_103 rfl ?_
            refine A_istore (ls1 := [_, _, _, _, _, _, _, _, _, _, _, _]) dX10_drip_105 (by decide) rfl rfl ?_
            refine A_iload dX10_drip_107 rfl ?_
            refine A_istore (ls1 := [_, _, _, _, _, _, _, _, _, _, _, _]) dX10_drip_109 (by decide) rfl rfl ?_
            refine A_iload dX10_drip_111 rfl ?_
            refine A_istore (ls1 := [_, _, _, _, _, _, _, _, _, _, _, _]) dX10_drip_113 (by decide) rfl rfl ?_
            refine A_iincN (ls1 := [_, _, _, _, _, _, _, _, _, _, _, _]) dX10_drip_115 rfl (by decide) rfl rfl ?_
            refine A_goto (tgt := 73) dX10_drip_118 (by decide) ?_
            have h8 := ih1 (by omega)
            rw [← Nat.add_assoc, drF_t (v := i + 1) (e := k + 1) (by omega) (by omega) (by omega)] at h8
            exact A_weak h8 (by repeat first | exact fw_0 | refine fw_s ?_ | refine fw_n ?_)
    have loop : ∀ (n i : Nat), 8 - i < n → i ≤ 8 → AW mX10_drip (2, none) P 63 [some (.ref 75), some (.long (lN a)), none, some (.int (nI s)), some (.int (nI q)), some (.int (nI j)), some (.int (nI (drF a s q 10000 (8 * i)).2.2)), some (.int (nI (drF a s q 10000 (8 * i)).1)), some (.int (nI (drF a s q 10000 (8 * i)).2.1)), some (.int (nI (i + 1))), none, none] [] μ ν := by
      intro n
      induction n with
      | zero => intro i h; omega
      | succ n ih =>
        intro i hn hi
        refine A_iload dX10_drip_63 rfl ?_
        refine A_bipush (v := nI 9) dX10_drip_65 (by decide +kernel) ?_
        refine A_icmp_geN (tgt := 127) dX10_drip_67 (by decide) (by omega) (by omega) (fun b67 => ?_) (fun b67 => ?_)
        · rw [show 8 * i = 64 by omega]
          refine A_iload dX10_drip_127 rfl ?_
          refine A_if_ne (tgt := 137) dX10_drip_129 (by decide) (fun b129 => ?_) (fun b129 => ?_)
          · refine A_iload dX10_drip_137 rfl ?_
            refine A_iconst (v := nI 1) dX10_drip_139 (by decide +kernel) ?_
            refine A_icmp_neN (tgt := 148) dX10_drip_140 (by decide) (by omega) (by omega) (fun b140 => ?_) (fun b140 => ?_)
            · refine A_iload dX10_drip_148 rfl ?_
              refine A_iret dX10_drip_150 rfl rfl ?_
              have ej : j = 2 := by
                have h1 : ¬ j = 0 := fun q => b129 (by rw [q]; rfl)
                omega
              subst ej
              exact h9
            · refine A_iload dX10_drip_143 rfl ?_
              refine A_goto (tgt := 150) dX10_drip_145 (by decide) ?_
              refine A_iret dX10_drip_150 rfl rfl ?_
              have ej : j = 1 := by omega
              subst ej
              exact h9
          · refine A_iload dX10_drip_132 rfl ?_
            refine A_goto (tgt := 150) dX10_drip_134 (by decide) ?_
            refine A_iret dX10_drip_150 rfl rfl ?_
            have ej : j = 0 := (nI_inj (by omega) (by omega)).mp b129
            subst ej
            exact h9
        · refine A_iconst (v := nI 1) dX10_drip_70 (by decide +kernel) ?_
          refine A_istore (ls1 := [_, _, _, _, _, _, _, _, _, _, _, _]) dX10_drip_71 (by decide) rfl rfl ?_
          exact A_weak (inner i (by omega) (fun _ => ih (i + 1) (by omega) (by omega)) 9 0 (by omega) (by omega)) (by repeat first | exact fw_0 | refine fw_s ?_ | refine fw_n ?_)
    refine A_sipush (v := nI 10000) dX10_drip_49 (by decide +kernel) ?_
    refine A_istore (ls1 := [_, _, _, _, _, _, _, _, _, _, _, _]) dX10_drip_52 (by decide) rfl rfl ?_
    refine A_iconst (v := nI 0) dX10_drip_54 (by decide +kernel) ?_
    refine A_istore (ls1 := [_, _, _, _, _, _, _, _, _, _, _, _]) dX10_drip_55 (by decide) rfl rfl ?_
    refine A_iconst (v := nI 0) dX10_drip_57 (by decide +kernel) ?_
    refine A_istore (ls1 := [_, _, _, _, _, _, _, _, _, _, _, _]) dX10_drip_58 (by decide) rfl rfl ?_
    refine A_iconst (v := nI 1) dX10_drip_60 (by decide +kernel) ?_
    refine A_istore (ls1 := [_, _, _, _, _, _, _, _, _, _, _, _]) dX10_drip_61 (by decide) rfl rfl ?_
    exact loop 9 0 (by omega) (by omega)
  refine A_lload_n dX10_drip_0 rfl ?_
  refine A_callS1 dX10_drip_1 mlX10_202 (by decide) (Nat.le_of_ble_eq_true rfl) (m_isRow _ (fun g0 => ?_) (fun g0 => ?_))
  · refine Kn.s ?_
    refine A_if_eq (tgt := 45) dX10_drip_4 (by decide) (fun h => absurd h (by decide +kernel)) (fun _ => ?_)
    refine A_iload_n dX10_drip_7 rfl ?_
    refine A_i2l dX10_drip_8 ?_
    refine A_lconst (v := 1) dX10_drip_9 rfl ?_
    refine A_ldc2 dX10_drip_10 kcX10_102 ?_
    refine A_callS3 dX10_drip_13 mlX10_95 (by decide) (Nat.le_of_ble_eq_true rfl) (m_in x (nI 1) (nI 100) rfl (by decide +kernel) (by decide +kernel) (fun g1 g2 => ?_) (fun g3 => ?_))
    · refine Kn.s ?_
      refine A_if_eq (tgt := 45) dX10_drip_16 (by decide) (fun h => absurd h (by decide +kernel)) (fun _ => ?_)
      refine A_iload dX10_drip_19 rfl ?_
      refine A_i2l dX10_drip_21 ?_
      refine A_lconst (v := 0) dX10_drip_22 rfl ?_
      refine A_ldc2 dX10_drip_23 kcX10_104 ?_
      refine A_callS3 dX10_drip_26 mlX10_95 (by decide) (Nat.le_of_ble_eq_true rfl) (m_in y (nI 0) (nI 20) rfl (by decide +kernel) (by decide +kernel) (fun g4 g5 => ?_) (fun g6 => ?_))
      · refine Kn.s ?_
        refine A_if_eq (tgt := 45) dX10_drip_29 (by decide) (fun h => absurd h (by decide +kernel)) (fun _ => ?_)
        refine A_iload dX10_drip_32 rfl ?_
        refine A_i2l dX10_drip_34 ?_
        refine A_lconst (v := 0) dX10_drip_35 rfl ?_
        refine A_ldc2 dX10_drip_36 kcX10_206 ?_
        refine A_callS3 dX10_drip_39 mlX10_95 (by decide) (Nat.le_of_ble_eq_true rfl) (m_in what (nI 0) (nI 2) rfl (by decide +kernel) (by decide +kernel) (fun g7 g8 => ?_) (fun g9 => ?_))
        · refine Kn.s ?_
          refine A_if_ne (tgt := 49) dX10_drip_42 (by decide) (fun _ => ?_) (fun h => absurd h (by decide +kernel))
          obtain ⟨s, hs, es⟩ := nI_of2 (M := nI 100) (n := 100) rfl (i_le_n (Int32.le_trans (show (0 : Int32) ≤ nI 1 by decide +kernel) g1)) g2
          obtain ⟨q, hq, eq⟩ := nI_of2 (M := nI 20) (n := 20) rfl (i_le_n g4) g5
          obtain ⟨j, hj, ej⟩ := nI_of2 (M := nI 2) (n := 2) rfl (i_le_n g7) g8
          exact main s q j g0 es (by rw [es] at g1; exact (nI_leI (by omega) (by omega)).mp g1) hs eq hq ej (by omega)
        · refine Kn.s ?_
          refine A_if_ne (tgt := 49) dX10_drip_42 (by decide) (fun h => absurd h (by decide +kernel)) (fun _ => ?_)
          refine A_sipush (v := (-1002)) dX10_drip_45 (by decide +kernel) ?_
          refine A_iret dX10_drip_48 rfl rfl ?_
          exact ho (fun z => g9 z.2.2.2)
      · refine Kn.s ?_
        refine A_if_eq (tgt := 45) dX10_drip_29 (by decide) (fun _ => ?_) (fun h => absurd h (by decide +kernel))
        refine A_sipush (v := (-1002)) dX10_drip_45 (by decide +kernel) ?_
        refine A_iret dX10_drip_48 rfl rfl ?_
        exact ho (fun z => g6 z.2.2.1)
    · refine Kn.s ?_
      refine A_if_eq (tgt := 45) dX10_drip_16 (by decide) (fun _ => ?_) (fun h => absurd h (by decide +kernel))
      refine A_sipush (v := (-1002)) dX10_drip_45 (by decide +kernel) ?_
      refine A_iret dX10_drip_48 rfl rfl ?_
      exact ho (fun z => g3 z.2.1)
  · refine Kn.s ?_
    refine A_if_eq (tgt := 45) dX10_drip_4 (by decide) (fun _ => ?_) (fun h => absurd h (by decide +kernel))
    refine A_sipush (v := (-1002)) dX10_drip_45 (by decide +kernel) ?_
    refine A_iret dX10_drip_48 rfl rfl ?_
    exact ho (fun z => g0 z.1)
