/-! Long.bitCount, the lone bucket's row, how far a row is off, the drip (the class) -/
theorem and_le_m (a : Nat) {m : Nat} : a &&& m ≤ m := Nat.and_le_right
theorem popN_60 {n : Nat} (h : n < 2 ^ 60) : popN n 64 = popN n 60 := by
  have e := popN_add n 60 4
  have e0 : n / 2 ^ 60 = 0 := Nat.div_eq_of_lt h
  rw [e0, popN_0, Nat.add_zero] at e
  exact e
theorem c_lbc {n : Nat} (hn : n < 2 ^ 60) {μ : MI} {ν : ML} {P : Po} (hP : P (some (.int (nI (popN n 60)))) μ ν) : Ct mJ13_bitCount_95d88 0 [.long (lN n)] μ ν P := by
  obtain ⟨k1, k2, k3⟩ := msk_8
  have hn4 : n < 2 ^ 64 := Nat.lt_trans hn (by decide)
  have b1 : bc1 8 n ≤ n := Nat.sub_le _ _
  have x1 : n - (n / 2 &&& 6148914691236517205) = bc1 8 n := by unfold bc1; rw [k1]
  have l1 : (n / 2 &&& 6148914691236517205) ≤ n := Nat.le_trans Nat.and_le_left (Nat.div_le_self _ _)
  have x2 : (bc1 8 n &&& 3689348814741910323) + (bc1 8 n / 4 &&& 3689348814741910323) = bc2 8 (bc1 8 n) := by unfold bc2; rw [k2]
  have b2 : bc2 8 (bc1 8 n) ≤ 7378697629483820646 := by
    rw [← x2]
    have q1 := and_le_m (bc1 8 n) (m := 3689348814741910323)
    have q2 := and_le_m (bc1 8 n / 4) (m := 3689348814741910323)
    omega
  have x3 : (bc2 8 (bc1 8 n) + bc2 8 (bc1 8 n) / 16) &&& 1085102592571150095 = bcY 8 n := by
    rw [← bc_all 8 n (by rw [show 256 ^ 8 = 2 ^ 64 by decide]; exact hn4)]
    unfold bc3
    rw [k3]
  have b3 : bcY 8 n ≤ 1085102592571150095 := by rw [← x3]; exact and_le_m _
  have x4 : (bcY 8 n + bcY 8 n / 256 + (bcY 8 n + bcY 8 n / 256) / 65536 + (bcY 8 n + bcY 8 n / 256 + (bcY 8 n + bcY 8 n / 256) / 65536) / 4294967296) &&& 127 = popN n 60 := by
    rw [show (127 : Nat) = 2 ^ 7 - 1 by decide, Nat.and_two_pow_sub_one_eq_mod]
    exact (bc_pop (by rw [show 256 ^ 8 = 2 ^ 64 by decide]; exact hn4)).trans (popN_60 hn)
  have sh : ∀ (m k D : Nat), m < 2 ^ 64 → k < 64 → 2 ^ k = D → ((lN m).toUInt64 >>> ((nI k).toInt64.toUInt64 &&& Int64.toUInt64 63)).toInt64 = lN (m / D) := fun m k D hm hk hD => by rw [wb_shr hm hk, hD]
  have c1 : (6148914691236517205 : Int64) = lN 6148914691236517205 := by decide +kernel
  have c2 : (3689348814741910323 : Int64) = lN 3689348814741910323 := by decide +kernel
  have c3 : (1085102592571150095 : Int64) = lN 1085102592571150095 := by decide +kernel
  refine Ct.of (ls0 := [_, _]) (by decide) rfl (Nat.le_of_ble_eq_true rfl) rfl ?_
  refine A_lload_n dJ13_bitCount_95d88_0 rfl ?_
  refine A_lload_n dJ13_bitCount_95d88_1 rfl ?_
  refine A_iconst (v := nI 1) dJ13_bitCount_95d88_2 (by decide +kernel) ?_
  refine A_lushr dJ13_bitCount_95d88_3 ?_
  rw [sh n 1 2 hn4 (by decide) (by decide)]
  refine A_ldc2 dJ13_bitCount_95d88_4 kcJ13_314 ?_
  rw [c1]
  refine A_land dJ13_bitCount_95d88_7 ?_
  rw [wb_and (by omega) (by decide)]
  refine A_lsub dJ13_bitCount_95d88_8 ?_
  rw [lN_sub l1, x1]
  refine A_lstore_n (ls1 := [_, _]) dJ13_bitCount_95d88_9 (by decide) rfl rfl ?_
  refine A_lload_n dJ13_bitCount_95d88_10 rfl ?_
  refine A_ldc2 dJ13_bitCount_95d88_11 kcJ13_316 ?_
  rw [c2]
  refine A_land dJ13_bitCount_95d88_14 ?_
  rw [wb_and (by omega) (by decide)]
  refine A_lload_n dJ13_bitCount_95d88_15 rfl ?_
  refine A_iconst (v := nI 2) dJ13_bitCount_95d88_16 (by decide +kernel) ?_
  refine A_lushr dJ13_bitCount_95d88_17 ?_
  rw [sh _ 2 4 (by omega) (by decide) (by decide)]
  refine A_ldc2 dJ13_bitCount_95d88_18 kcJ13_316 ?_
  rw [c2]
  refine A_land dJ13_bitCount_95d88_21 ?_
  rw [wb_and (by omega) (by decide)]
  refine A_ladd dJ13_bitCount_95d88_22 ?_
  rw [lN_add, x2]
  refine A_lstore_n (ls1 := [_, _]) dJ13_bitCount_95d88_23 (by decide) rfl rfl ?_
  refine A_lload_n dJ13_bitCount_95d88_24 rfl ?_
  refine A_lload_n dJ13_bitCount_95d88_25 rfl ?_
  refine A_iconst (v := nI 4) dJ13_bitCount_95d88_26 (by decide +kernel) ?_
  refine A_lushr dJ13_bitCount_95d88_27 ?_
  rw [sh _ 4 16 (by omega) (by decide) (by decide)]
  refine A_ladd dJ13_bitCount_95d88_28 ?_
  rw [lN_add]
  refine A_ldc2 dJ13_bitCount_95d88_29 kcJ13_318 ?_
  rw [c3]
  refine A_land dJ13_bitCount_95d88_32 ?_
  rw [wb_and (by omega) (by decide), x3]
  refine A_lstore_n (ls1 := [_, _]) dJ13_bitCount_95d88_33 (by decide) rfl rfl ?_
  refine A_lload_n dJ13_bitCount_95d88_34 rfl ?_
  refine A_lload_n dJ13_bitCount_95d88_35 rfl ?_
  refine A_bipush (v := nI 8) dJ13_bitCount_95d88_36 (by decide +kernel) ?_
  refine A_lushr dJ13_bitCount_95d88_38 ?_
  rw [sh _ 8 256 (by omega) (by decide) (by decide)]
  refine A_ladd dJ13_bitCount_95d88_39 ?_
  rw [lN_add]
  refine A_lstore_n (ls1 := [_, _]) dJ13_bitCount_95d88_40 (by decide) rfl rfl ?_
  refine A_lload_n dJ13_bitCount_95d88_41 rfl ?_
  refine A_lload_n dJ13_bitCount_95d88_42 rfl ?_
  refine A_bipush (v := nI 16) dJ13_bitCount_95d88_43 (by decide +kernel) ?_
  refine A_lushr dJ13_bitCount_95d88_45 ?_
  rw [sh _ 16 65536 (by omega) (by decide) (by decide)]
  refine A_ladd dJ13_bitCount_95d88_46 ?_
  rw [lN_add]
  refine A_lstore_n (ls1 := [_, _]) dJ13_bitCount_95d88_47 (by decide) rfl rfl ?_
  refine A_lload_n dJ13_bitCount_95d88_48 rfl ?_
  refine A_lload_n dJ13_bitCount_95d88_49 rfl ?_
  refine A_bipush (v := nI 32) dJ13_bitCount_95d88_50 (by decide +kernel) ?_
  refine A_lushr dJ13_bitCount_95d88_52 ?_
  rw [sh _ 32 4294967296 (by omega) (by decide) (by decide)]
  refine A_ladd dJ13_bitCount_95d88_53 ?_
  rw [lN_add]
  refine A_lstore_n (ls1 := [_, _]) dJ13_bitCount_95d88_54 (by decide) rfl rfl ?_
  refine A_lload_n dJ13_bitCount_95d88_55 rfl ?_
  refine A_l2i dJ13_bitCount_95d88_56 ?_
  rw [lN_i]
  refine A_bipush (v := nI 127) dJ13_bitCount_95d88_57 (by decide +kernel) ?_
  refine A_iand dJ13_bitCount_95d88_59 ?_
  rw [nx_and, x4]
  refine A_iret dJ13_bitCount_95d88_60 rfl rfl ?_
  exact hP
/-- the lone bucket ahead of a tick: what it holds, how long it is down -/
def lnS (s r v e : Nat) : Nat → Nat × Nat
  | 0 => (0, 0)
  | t + 1 => if 0 < (lnS s r v e t).2 then ((lnS s r v e t).1, (lnS s r v e t).2 - 1) else if s ≤ (lnS s r v e t).1 + (if t % e = 0 then v else 0) then (0, r) else ((lnS s r v e t).1 + (if t % e = 0 then v else 0), 0)
def lnK (s r v e t : Nat) : Bool := decide ((lnS s r v e t).2 = 0) && decide (s ≤ (lnS s r v e t).1 + (if t % e = 0 then v else 0))
theorem lnS_d {s r v e t : Nat} (h : 0 < (lnS s r v e t).2) : lnS s r v e (t + 1) = ((lnS s r v e t).1, (lnS s r v e t).2 - 1) ∧ lnK s r v e t = false := by
  refine ⟨by rw [lnS, if_pos h], ?_⟩
  unfold lnK
  simp [show ¬ (lnS s r v e t).2 = 0 by omega]
theorem lnS_k {s r v e t : Nat} (h : (lnS s r v e t).2 = 0) (hw : s ≤ (lnS s r v e t).1 + (if t % e = 0 then v else 0)) : lnS s r v e (t + 1) = (0, r) ∧ lnK s r v e t = true := by
  refine ⟨by rw [lnS, if_neg (by omega), if_pos hw], ?_⟩
  unfold lnK
  rw [decide_eq_true h, decide_eq_true hw]
  rfl
theorem lnS_n {s r v e t : Nat} (h : (lnS s r v e t).2 = 0) (hw : ¬ s ≤ (lnS s r v e t).1 + (if t % e = 0 then v else 0)) : lnS s r v e (t + 1) = ((lnS s r v e t).1 + (if t % e = 0 then v else 0), 0) ∧ lnK s r v e t = false := by
  refine ⟨by rw [lnS, if_neg (by omega), if_neg hw], ?_⟩
  unfold lnK
  rw [decide_eq_true h, decide_eq_false hw]
  rfl
theorem lnS_b {s r v e : Nat} (hs : 0 < s) : ∀ t, (lnS s r v e t).1 < s ∧ (lnS s r v e t).2 ≤ r
  | 0 => ⟨hs, Nat.zero_le _⟩
  | t + 1 => by
    have ih := lnS_b (s := s) (r := r) (v := v) (e := e) hs t
    rcases Nat.eq_zero_or_pos (lnS s r v e t).2 with q | q
    · by_cases hw : s ≤ (lnS s r v e t).1 + (if t % e = 0 then v else 0)
      · rw [(lnS_k q hw).1]
        exact ⟨hs, Nat.le_refl _⟩
      · rw [(lnS_n q hw).1]
        exact ⟨Nat.not_le.mp hw, Nat.zero_le _⟩
    · rw [(lnS_d q).1]
      exact ⟨ih.1, Nat.le_trans (Nat.sub_le _ _) ih.2⟩
theorem bitsN_t {K : Nat → Bool} {n : Nat} (h : K n = true) : bitsN K (n + 1) = bitsN K n + 2 ^ n := by rw [bitsN, if_pos h]
theorem bitsN_f {K : Nat → Bool} {n : Nat} (h : K n = false) : bitsN K (n + 1) = bitsN K n := by rw [bitsN, h, if_neg (by decide), Nat.add_zero]
def lnR (s r v e : Nat) : Nat := bitsN (lnK s r v e) 60
theorem lnR_lt (s r v e : Nat) : lnR s r v e < 2 ^ 60 := bitsN_lt _ _
theorem c_loneRow {s r v e : Nat} (hs : 0 < s) (hs1 : s ≤ 100) (hr : r ≤ 20) (hv : v ≤ 8) (he : 0 < e) (he1 : e ≤ 8) {μ : MI} {ν : ML} {P : Po} (hP : P (some (.long (lN (lnR s r v e)))) μ ν) : Ct mX9_loneRow 1 [.int (nI s), .int (nI r), .int (nI v), .int (nI e)] μ ν P := by
  refine Ct.of (ls0 := [_, _, _, _, _, _, _, _, _]) (by decide) rfl (Nat.le_of_ble_eq_true rfl) rfl ?_
  have loop : ∀ (n i : Nat), 60 - i < n → i ≤ 60 → AW mX9_loneRow (1, none) P 12 [some (.int (nI s)), some (.int (nI r)), some (.int (nI v)), some (.int (nI e)), some (.long (lN (bitsN (lnK s r v e) i))), none, some (.int (nI (lnS s r v e i).1)), some (.int (nI (lnS s r v e i).2)), some (.int (nI i))] [] μ ν := by
    intro n
    induction n with
    | zero => intro i h; omega
    | succ n ih =>
      intro i hn hi
      obtain ⟨hb1, hb2⟩ := lnS_b (s := s) (r := r) (v := v) (e := e) hs i
      have ih1 : i < 60 → _ := fun h => ih (i + 1) (by omega) (by omega)
      refine A_iload dX9_loneRow_12 rfl ?_
      refine A_bipush (v := nI 60) dX9_loneRow_14 (by decide +kernel) ?_
      refine A_icmp_geN (tgt := 72) dX9_loneRow_16 (by decide) (by omega) (by omega) (fun b16 => ?_) (fun b16 => ?_)
      · refine A_lload dX9_loneRow_72 rfl ?_
        refine A_lret dX9_loneRow_74 rfl ?_
        rw [show i = 60 by omega]; exact hP
      · have ih1 := ih1 b16
        refine A_iload dX9_loneRow_19 rfl ?_
        refine A_if_le (tgt := 30) dX9_loneRow_21 (by decide) (fun b21 => ?_) (fun b21 => ?_)
        · have hd : (lnS s r v e i).2 = 0 := by
            rcases Nat.eq_zero_or_pos (lnS s r v e i).2 with q | q
            · exact q
            · exact absurd b21 (nI_nle q (by omega))
          refine A_iload_n dX9_loneRow_30 rfl ?_
          refine A_iload dX9_loneRow_31 rfl ?_
          refine A_callS2 dX9_loneRow_33 mlX9_249 (by decide) (Nat.le_of_ble_eq_true rfl) (c_goesInto (by omega) (by omega) (fun g1 g2 => ?_) (fun g0 => ?_))
          · refine Kn.s ?_
            refine A_if_eq (tgt := 45) dX9_loneRow_36 (by decide) (fun h => absurd h (by decide +kernel)) (fun _ => ?_)
            refine A_iload dX9_loneRow_39 rfl ?_
            refine A_iload_n dX9_loneRow_41 rfl ?_
            refine A_iaddN dX9_loneRow_42 ?_
            refine A_istore (ls1 := [_, _, _, _, _, _, _, _, _]) dX9_loneRow_43 (by decide) rfl rfl ?_
            refine A_iload dX9_loneRow_45 rfl ?_
            refine A_iload_n dX9_loneRow_47 rfl ?_
            refine A_icmp_ltN (tgt := 66) dX9_loneRow_48 (by decide) (by omega) (by omega) (fun b48 => ?_) (fun b48 => ?_)
            · refine A_iincN (ls1 := [_, _, _, _, _, _, _, _, _]) dX9_loneRow_66 rfl (by decide) rfl rfl ?_
              refine A_goto (tgt := 12) dX9_loneRow_69 (by decide) ?_
              have ew : (if i % e = 0 then v else 0) = v := if_pos g2
              obtain ⟨k1, k2⟩ := lnS_n (s := s) (r := r) (v := v) (e := e) hd (by rw [ew]; omega)
              rw [k1, bitsN_f k2, ew] at ih1
              rw [hd]
              exact ih1
            · refine A_lload dX9_loneRow_51 rfl ?_
              refine A_lconst (v := 1) dX9_loneRow_53 rfl ?_
              refine A_iload dX9_loneRow_54 rfl ?_
              refine A_lshl dX9_loneRow_56 ?_
              refine A_lor dX9_loneRow_57 ?_
              refine A_lstore (ls1 := [_, _, _, _, _, _, _, _, _]) dX9_loneRow_58 (by decide) rfl rfl ?_
              refine A_iconst (v := nI 0) dX9_loneRow_60 (by decide +kernel) ?_
              refine A_istore (ls1 := [_, _, _, _, _, _, _, _, _]) dX9_loneRow_61 (by decide) rfl rfl ?_
              refine A_iload_n dX9_loneRow_63 rfl ?_
              refine A_istore (ls1 := [_, _, _, _, _, _, _, _, _]) dX9_loneRow_64 (by decide) rfl rfl ?_
              refine A_iincN (ls1 := [_, _, _, _, _, _, _, _, _]) dX9_loneRow_66 rfl (by decide) rfl rfl ?_
              refine A_goto (tgt := 12) dX9_loneRow_69 (by decide) ?_
              have ew : (if i % e = 0 then v else 0) = v := if_pos g2
              obtain ⟨k1, k2⟩ := lnS_k (s := s) (r := r) (v := v) (e := e) hd (by rw [ew]; omega)
              rw [k1, bitsN_t k2] at ih1
              have e9 := lN_or_bit (q := 1) b16 (bitsN_lt (lnK s r v e) i) (Nat.le_refl 1)
              rw [Nat.one_mul] at e9
              rw [show (1 : Int64) = lN 1 from rfl, e9]
              exact ih1
          · refine Kn.s ?_
            refine A_if_eq (tgt := 45) dX9_loneRow_36 (by decide) (fun _ => ?_) (fun h => absurd h (by decide +kernel))
            refine A_iload dX9_loneRow_45 rfl ?_
            refine A_iload_n dX9_loneRow_47 rfl ?_
            refine A_icmp_ltN (tgt := 66) dX9_loneRow_48 (by decide) (by omega) (by omega) (fun b48 => ?_) (fun b48 => ?_)
            · refine A_iincN (ls1 := [_, _, _, _, _, _, _, _, _]) dX9_loneRow_66 rfl (by decide) rfl rfl ?_
              refine A_goto (tgt := 12) dX9_loneRow_69 (by decide) ?_
              have ew : (if i % e = 0 then v else 0) = 0 := if_neg (fun q => g0 ⟨he, q⟩)
              obtain ⟨k1, k2⟩ := lnS_n (s := s) (r := r) (v := v) (e := e) hd (by rw [ew]; omega)
              rw [k1, bitsN_f k2, ew] at ih1
              rw [hd]
              exact ih1
            · refine A_lload dX9_loneRow_51 rfl ?_
              refine A_lconst (v := 1) dX9_loneRow_53 rfl ?_
              refine A_iload dX9_loneRow_54 rfl ?_
              refine A_lshl dX9_loneRow_56 ?_
              refine A_lor dX9_loneRow_57 ?_
              refine A_lstore (ls1 := [_, _, _, _, _, _, _, _, _]) dX9_loneRow_58 (by decide) rfl rfl ?_
              refine A_iconst (v := nI 0) dX9_loneRow_60 (by decide +kernel) ?_
              refine A_istore (ls1 := [_, _, _, _, _, _, _, _, _]) dX9_loneRow_61 (by decide) rfl rfl ?_
              refine A_iload_n dX9_loneRow_63 rfl ?_
              refine A_istore (ls1 := [_, _, _, _, _, _, _, _, _]) dX9_loneRow_64 (by decide) rfl rfl ?_
              refine A_iincN (ls1 := [_, _, _, _, _, _, _, _, _]) dX9_loneRow_66 rfl (by decide) rfl rfl ?_
              refine A_goto (tgt := 12) dX9_loneRow_69 (by decide) ?_
              have ew : (if i % e = 0 then v else 0) = 0 := if_neg (fun q => g0 ⟨he, q⟩)
              obtain ⟨k1, k2⟩ := lnS_k (s := s) (r := r) (v := v) (e := e) hd (by rw [ew]; omega)
              rw [k1, bitsN_t k2] at ih1
              have e9 := lN_or_bit (q := 1) b16 (bitsN_lt (lnK s r v e) i) (Nat.le_refl 1)
              rw [Nat.one_mul] at e9
              rw [show (1 : Int64) = lN 1 from rfl, e9]
              exact ih1
        · refine A_iinc (ls1 := [_, _, _, _, _, _, _, _, _]) dX9_loneRow_24 rfl rfl (by decide) rfl rfl ?_
          refine A_goto (tgt := 66) dX9_loneRow_27 (by decide) ?_
          refine A_iincN (ls1 := [_, _, _, _, _, _, _, _, _]) dX9_loneRow_66 rfl (by decide) rfl rfl ?_
          refine A_goto (tgt := 12) dX9_loneRow_69 (by decide) ?_
          have hd : 0 < (lnS s r v e i).2 := Nat.pos_of_ne_zero (fun q => b21 (by rw [q]; decide +kernel))
          obtain ⟨k1, k2⟩ := lnS_d hd
          rw [k1, bitsN_f k2] at ih1
          have e9 : nI (lnS s r v e i).2 + Int32.ofInt (-1) = nI ((lnS s r v e i).2 - 1) := by
            have := pk_m1 ((lnS s r v e i).2 - 1)
            rw [show (lnS s r v e i).2 - 1 + 1 = (lnS s r v e i).2 by omega] at this
            exact this
          rw [e9]
          exact ih1
  refine A_lconst (v := 0) dX9_loneRow_0 rfl ?_
  refine A_lstore (ls1 := [_, _, _, _, _, _, _, _, _]) dX9_loneRow_1 (by decide) rfl rfl ?_
  refine A_iconst (v := nI 0) dX9_loneRow_3 (by decide +kernel) ?_
  refine A_istore (ls1 := [_, _, _, _, _, _, _, _, _]) dX9_loneRow_4 (by decide) rfl rfl ?_
  refine A_iconst (v := nI 0) dX9_loneRow_6 (by decide +kernel) ?_
  refine A_istore (ls1 := [_, _, _, _, _, _, _, _, _]) dX9_loneRow_7 (by decide) rfl rfl ?_
  refine A_iconst (v := nI 0) dX9_loneRow_9 (by decide +kernel) ?_
  refine A_istore (ls1 := [_, _, _, _, _, _, _, _, _]) dX9_loneRow_10 (by decide) rfl rfl ?_
  exact loop 61 0 (by omega) (by omega)
/-- a row moved by i - 5 ticks -/
def shP (b i : Nat) : Nat := if i < 5 then b / 2 ^ (5 - i) else b * 2 ^ (i - 5) % 2 ^ 60
theorem shP_lt {b : Nat} (hb : b < 2 ^ 60) (i : Nat) : shP b i < 2 ^ 60 := by
  unfold shP
  split
  · exact Nat.lt_of_le_of_lt (Nat.div_le_self _ _) hb
  · exact Nat.mod_lt _ (by decide)
def dI5 (i : Nat) : Nat := if i < 5 then 5 - i else i - 5
def offF (a b m : Nat) : Nat → Nat
  | 0 => m
  | i + 1 => Nat.min (offF a b m i) (popN (a ^^^ shP b i) 60 + dI5 i)
def hI (i : Nat) : Int32 := nI i - nI 5
theorem hI_ok : ∀ i, i < 12 → (nI 5 < hI i ↔ 11 ≤ i) ∧ (0 ≤ hI i ↔ 5 ≤ i) ∧ hI i + Int32.ofInt 1 = hI (i + 1) ∧ (i < 5 → -(hI i) = nI (5 - i)) ∧ (5 ≤ i → hI i = nI (i - 5)) ∧ (if 0 ≤ hI i then hI i else 0 - hI i) = nI (dI5 i) := by decide +kernel
theorem lN_mask60 (m : Nat) : lN m &&& 1152921504606846975 = lN (m % 2 ^ 60) := by
  rw [wb_mod m, show (1152921504606846975 : Int64) = lN (2 ^ 60 - 1) by decide +kernel, wb_mask (Nat.mod_lt _ (by decide)) (by decide), Nat.mod_mod_of_dvd _ (by decide)]
theorem nI_min {a b : Nat} (ha : a < 2 ^ 31) (hb : b < 2 ^ 31) : (if nI b < nI a then nI b else nI a) = nI (Nat.min a b) := by
  by_cases h : b < a
  · rw [if_pos ((nI_ltI hb ha).mpr h), show Nat.min a b = b from Nat.min_eq_right (by omega)]
  · rw [if_neg (fun q => h ((nI_ltI hb ha).mp q)), show Nat.min a b = a from Nat.min_eq_left (by omega)]
theorem offF_le (a b m : Nat) : ∀ i, offF a b m i ≤ m
  | 0 => Nat.le_refl _
  | i + 1 => Nat.le_trans (Nat.min_le_left _ _) (offF_le a b m i)
theorem c_offOf {a b : Nat} (ha : a < 2 ^ 60) (hb : b < 2 ^ 60) {μ : MI} {ν : ML} {P : Po} (hP : P (some (.int (nI (offF a b 60 11)))) μ ν) : Ct mX9_offOf 1 [.long (lN a), .long (lN b)] μ ν P := by
  refine Ct.of (ls0 := [_, _, _, _, _, _, _, _]) (by decide) rfl (Nat.le_of_ble_eq_true rfl) rfl ?_
  have loop : ∀ (n i : Nat), 11 - i < n → i ≤ 11 → AW mX9_offOf (1, none) P 8 [some (.long (lN a)), none, some (.long (lN b)), none, some (.int (nI (offF a b 60 i))), some (.int (hI i)), none, none] [] μ ν := by
    intro n
    induction n with
    | zero => intro i h; omega
    | succ n ih =>
      intro i hn hi
      obtain ⟨q1, q2, q3, q4, q5, q6⟩ := hI_ok i (by omega)
      have hx : a ^^^ shP b i < 2 ^ 60 := Nat.xor_lt_two_pow ha (shP_lt hb i)
      have ho := offF_le a b 60 i
      have hp := popN_le (a ^^^ shP b i) 60
      have hd : dI5 i ≤ 11 := by unfold dI5; split <;> omega
      have ih1 := ih (i + 1)
      rw [offF] at ih1
      refine A_iload dX9_offOf_8 rfl ?_
      refine A_iconst (v := nI 5) dX9_offOf_10 (by decide +kernel) ?_
      refine A_icmp_gt (tgt := 63) dX9_offOf_11 (by decide) (fun b11 => ?_) (fun b11 => ?_)
      · refine A_iload dX9_offOf_63 rfl ?_
        refine A_iret dX9_offOf_65 rfl rfl ?_
        rw [show i = 11 by have := q1.mp b11; omega]; exact hP
      · have h11 : i < 11 := by
          rcases Nat.lt_or_ge i 11 with z | z
          · exact z
          · exact absurd (q1.mpr z) b11
        refine A_iload dX9_offOf_14 rfl ?_
        refine A_if_ge (tgt := 27) dX9_offOf_16 (by decide) (fun b16 => ?_) (fun b16 => ?_)
        · have h5 : 5 ≤ i := q2.mp b16
          refine A_lload_n dX9_offOf_27 rfl ?_
          refine A_iload dX9_offOf_28 rfl ?_
          rw [q5 h5]
          refine A_lshl dX9_offOf_30 ?_
          rw [wb_shl b (by omega)]
          refine A_ldc2 dX9_offOf_31 kcX9_253 ?_
          refine A_land dX9_offOf_34 ?_
          rw [lN_mask60, show b * 2 ^ (i - 5) % 2 ^ 60 = shP b i by unfold shP; rw [if_neg (by omega)]]
          refine A_lstore (ls1 := [_, _, _, _, _, _, _, _]) dX9_offOf_35 (by decide) rfl rfl ?_
          try rw [← q5 (by omega)]
          refine A_iload dX9_offOf_37 rfl ?_
          refine A_lload_n dX9_offOf_39 rfl ?_
          refine A_lload dX9_offOf_40 rfl ?_
          refine A_lxor dX9_offOf_42 ?_
          rw [lN_xor]
          refine A_callS1 dX9_offOf_43 mlX9_255 (by decide) (Nat.le_of_ble_eq_true rfl) (c_lbc hx ?_)
          refine Kn.s ?_
          refine A_iload dX9_offOf_46 rfl ?_
          refine A_abs dX9_offOf_48 mlX9_260 (by decide) (Nat.le_of_ble_eq_true rfl) ?_
          rw [q6]
          refine A_iaddN dX9_offOf_51 ?_
          refine A_min dX9_offOf_52 mlX9_265 (by decide) (Nat.le_of_ble_eq_true rfl) ?_
          rw [nI_min (by omega) (by omega)]
          refine A_istore (ls1 := [_, _, _, _, _, _, _, _]) dX9_offOf_55 (by decide) rfl rfl ?_
          refine A_iinc (ls1 := [_, _, _, _, _, _, _, _]) dX9_offOf_57 rfl rfl (by decide) rfl rfl ?_
          refine A_goto (tgt := 8) dX9_offOf_60 (by decide) ?_
          rw [q3]
          exact A_weak (ih1 (by omega) (by omega)) (by repeat first | exact fw_0 | refine fw_s ?_ | refine fw_n ?_)
        · have h5 : i < 5 := by
            rcases Nat.lt_or_ge i 5 with z | z
            · exact z
            · exact absurd (q2.mpr z) b16
          refine A_lload_n dX9_offOf_19 rfl ?_
          refine A_iload dX9_offOf_20 rfl ?_
          refine A_ineg dX9_offOf_22 ?_
          rw [q4 (by omega)]
          refine A_lushr dX9_offOf_23 ?_
          rw [wb_shr (by omega) (by omega), show b / 2 ^ (5 - i) = shP b i by unfold shP; rw [if_pos (by omega)]]
          refine A_goto (tgt := 35) dX9_offOf_24 (by decide) ?_
          refine A_lstore (ls1 := [_, _, _, _, _, _, _, _]) dX9_offOf_35 (by decide) rfl rfl ?_
          try rw [← q5 (by omega)]
          refine A_iload dX9_offOf_37 rfl ?_
          refine A_lload_n dX9_offOf_39 rfl ?_
          refine A_lload dX9_offOf_40 rfl ?_
          refine A_lxor dX9_offOf_42 ?_
          rw [lN_xor]
          refine A_callS1 dX9_offOf_43 mlX9_255 (by decide) (Nat.le_of_ble_eq_true rfl) (c_lbc hx ?_)
          refine Kn.s ?_
          refine A_iload dX9_offOf_46 rfl ?_
          refine A_abs dX9_offOf_48 mlX9_260 (by decide) (Nat.le_of_ble_eq_true rfl) ?_
          rw [q6]
          refine A_iaddN dX9_offOf_51 ?_
          refine A_min dX9_offOf_52 mlX9_265 (by decide) (Nat.le_of_ble_eq_true rfl) ?_
          rw [nI_min (by omega) (by omega)]
          refine A_istore (ls1 := [_, _, _, _, _, _, _, _]) dX9_offOf_55 (by decide) rfl rfl ?_
          refine A_iinc (ls1 := [_, _, _, _, _, _, _, _]) dX9_offOf_57 rfl rfl (by decide) rfl rfl ?_
          refine A_goto (tgt := 8) dX9_offOf_60 (by decide) ?_
          rw [q3]
          exact A_weak (ih1 (by omega) (by omega)) (by repeat first | exact fw_0 | refine fw_s ?_ | refine fw_n ?_)
  refine A_bipush (v := nI 60) dX9_offOf_0 (by decide +kernel) ?_
  refine A_istore (ls1 := [_, _, _, _, _, _, _, _]) dX9_offOf_2 (by decide) rfl rfl ?_
  refine A_bipush (v := (-5)) dX9_offOf_4 (by decide +kernel) ?_
  refine A_istore (ls1 := [_, _, _, _, _, _, _, _]) dX9_offOf_6 (by decide) rfl rfl ?_
  have h9 := loop 12 0 (by omega) (by omega)
  exact h9
