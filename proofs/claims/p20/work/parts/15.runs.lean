/-! the class's face, on: ticks, rows, meetings, what is heard -/
def advP (c tw : MI) (t : Nat) (S : St) : Nat → St
  | 0 => S
  | n + 1 => stepP c tw (t + n) (advP c tw t S n)
def cntP (c tw : MI) (t : Nat) (S : St) : Nat → Nat
  | 0 => 0
  | n + 1 => cntP c tw t S n + cntB (setP c tw (t + n) (advP c tw t S n)) (N (c 2 0))
theorem GC_adv {c tw : MI} (hC : WC c) {t : Nat} {S : St} (h : GC (N (c 2 0)) S) : ∀ n, GC (N (c 2 0)) (advP c tw t S n)
  | 0 => h
  | n + 1 => GC_step hC (GC_adv hC h n)
abbrev zeP : MI := tw0 (nI 0)
theorem c_tick (n : Int32) {t : Nat} (ht : t ≤ 2000) {S : St} {μ : MI} {ν : ML} {P : Po} (hC : WC μ) (hT : TW 19 zeP μ) (hR : RX 33 t S μ) (hG : GC (N (μ 2 0)) S) (ho : ¬ (nI 0 ≤ n ∧ n ≤ nI 200) → P (some (.int (-1002))) μ ν) (hn : ∀ k, n = nI k → k ≤ 200 → 2000 < t + k → P (some (.int (-1003))) μ ν) (ha : ∀ k μ', n = nI k → k ≤ 200 → t + k ≤ 2000 → RX 33 (t + k) (advP μ zeP t S k) μ' → Fr 33 14 μ μ' → P (some (.int (nI (cntP μ zeP t S k)))) μ' ν) : Ct mX9_tick 4 [.ref 0, .int n] μ ν P := by
  refine Ct.of (ls0 := [_, _, _, _]) (by decide) rfl (Nat.le_of_ble_eq_true rfl) rfl ?_
  have hnb8 := hC.1.1.2
  have loop : ∀ (k : Nat), n = nI k → k ≤ 200 → t + k ≤ 2000 → ∀ (q i : Nat) (μ1 : MI), k - i < q → i ≤ k → Fr 33 14 μ μ1 → RX 33 (t + i) (advP μ zeP t S i) μ1 → AW mX9_tick (4, none) P 38 [some (.ref 0), some (.int (nI k)), some (.int (nI (cntP μ zeP t S i))), some (.int (nI i))] [] μ1 ν := by
    intro k hk hk2 htk q
    induction q with
    | zero => intro i μ1 h; omega
    | succ q ih =>
      intro i μ1 hq hi hF1 hR1
      have hc1 : CX μ μ1 := (CX.rf μ).fr (by omega) hF1
      have hl : bitsN (setP μ zeP (t + i) (advP μ zeP t S i)) (N (μ 2 0)) < 256 := Nat.lt_of_lt_of_le (bitsN_lt _ _) (Nat.pow_le_pow_right (by omega) hnb8)
      refine A_iload_n dX9_tick_38 rfl ?_
      refine A_iload_n dX9_tick_39 rfl ?_
      refine A_icmp_geN (tgt := 62) dX9_tick_40 (by decide) (by omega) (by omega) (fun b40 => ?_) (fun b40 => ?_)
      · refine A_iload_n dX9_tick_62 rfl ?_
        refine A_iret dX9_tick_63 rfl rfl ?_
        rw [show i = k by omega] at hR1 ⊢
        exact ha k μ1 hk hk2 htk hR1 hF1
      · refine A_iload_n dX9_tick_43 rfl ?_
        refine A_aload_n dX9_tick_44 rfl ?_
        refine A_getR dX9_tick_45 flX9_24 rfl rfl ?_
        refine A_callV0 dX9_tick_48 mlX9_163 (by decide) rfl rfl (Nat.le_of_ble_eq_true rfl) (c_stepC flow_33 (by omega) hC hc1 (hT.fr (by omega) hF1) hR1 (GC_adv hC hG i) (fun μ2 hR2 hF2 => ?_))
        refine Kn.s ?_
        refine A_callS1 dX9_tick_51 mlX9_166 (by decide) (Nat.le_of_ble_eq_true rfl) (c_ibc hl ?_)
        refine Kn.s ?_
        refine A_iaddN dX9_tick_54 ?_
        refine A_istore_n (ls1 := [_, _, _, _]) dX9_tick_55 (by decide) rfl rfl ?_
        refine A_iincN (ls1 := [_, _, _, _]) dX9_tick_56 rfl (by decide) rfl rfl ?_
        refine A_goto (tgt := 38) dX9_tick_59 (by decide) ?_
        have h9 := ih (i + 1) μ2 (by omega) (by omega) (hF1.tr hF2) hR2
        rw [cntP, ← popN_8 _ hnb8] at h9
        exact h9
  refine A_iload_n dX9_tick_0 rfl ?_
  refine A_iconst (v := nI 0) dX9_tick_1 (by decide +kernel) ?_
  refine A_sipush (v := nI 200) dX9_tick_2 (by decide +kernel) ?_
  refine A_callS3 dX9_tick_5 mlX9_52 (by decide) (Nat.le_of_ble_eq_true rfl) (c_within _ _ _ (fun g1 g2 => ?_) (fun g3 => ?_))
  · refine Kn.s ?_
    refine A_if_ne (tgt := 15) dX9_tick_8 (by decide) (fun _ => ?_) (fun h => absurd h (by decide +kernel))
    obtain ⟨k, hk, rfl⟩ := nI_of2 (M := nI 200) (n := 200) rfl (i_le_n g1) g2
    refine A_aload_n dX9_tick_15 rfl ?_
    refine A_getR dX9_tick_16 flX9_24 rfl rfl ?_
    refine A_getI dX9_tick_19 flX9_140 rfl rfl ?_
    rw [hR.1.1]
    refine A_iload_n dX9_tick_22 rfl ?_
    refine A_iadd dX9_tick_23 ?_
    rw [nI_add]
    refine A_sipush (v := nI 2000) dX9_tick_24 (by decide +kernel) ?_
    refine A_icmp_leN (tgt := 34) dX9_tick_27 (by decide) (by omega) (by omega) (fun b27 => ?_) (fun b27 => ?_)
    · refine A_iconst (v := nI 0) dX9_tick_34 (by decide +kernel) ?_
      refine A_istore_n (ls1 := [_, _, _, _]) dX9_tick_35 (by decide) rfl rfl ?_
      refine A_iconst (v := nI 0) dX9_tick_36 (by decide +kernel) ?_
      refine A_istore_n (ls1 := [_, _, _, _]) dX9_tick_37 (by decide) rfl rfl ?_
      exact loop k rfl hk (by omega) (k + 1) 0 μ (by omega) (by omega) Fr.rf hR
    · refine A_sipush (v := (-1003)) dX9_tick_30 (by decide +kernel) ?_
      refine A_iret dX9_tick_33 rfl rfl ?_
      exact hn k rfl hk b27
  · refine Kn.s ?_
    refine A_if_ne (tgt := 15) dX9_tick_8 (by decide) (fun h => absurd h (by decide +kernel)) (fun _ => ?_)
    refine A_sipush (v := (-1002)) dX9_tick_11 (by decide +kernel) ?_
    refine A_iret dX9_tick_14 rfl rfl ?_
    exact ho g3
theorem c_again {t : Nat} {S : St} {μ : MI} {ν : ML} {P : Po} (hR : RX 33 t S μ) (ha : ∀ μ', RX 33 0 S0 μ' → Fr 33 14 μ μ' → P (some (.int (nI t))) μ' ν) : Ct mX9_again 2 [.ref 0] μ ν P := by
  refine Ct.of (ls0 := [_, _]) (by decide) rfl (Nat.le_of_ble_eq_true rfl) rfl ?_
  refine A_aload_n dX9_again_0 rfl ?_
  refine A_getR dX9_again_1 flX9_24 rfl rfl ?_
  refine A_getI dX9_again_4 flX9_140 rfl rfl ?_
  rw [hR.1.1]
  refine A_istore_n (ls1 := [_, _]) dX9_again_7 (by decide) rfl rfl ?_
  refine A_aload_n dX9_again_8 rfl ?_
  refine A_getR dX9_again_9 flX9_24 rfl rfl ?_
  refine A_callV0 dX9_again_12 mlX9_172 (by decide) rfl rfl (Nat.le_of_ble_eq_true rfl) (c_begin flow_33 (fun μ' h1 h2 => ?_))
  refine Kn.v ?_
  refine A_iload_n dX9_again_15 rfl ?_
  refine A_iret dX9_again_16 rfl rfl ?_
  exact ha μ' h1 h2
/-- whether a bucket knocks at a run's tick -/
def kb (c tw : MI) (b t : Nat) : Bool := setP c tw t (runP c tw t) b
theorem lN_or_bit {a q t : Nat} (ht : t < 60) (ha : a < 2 ^ t) (hq : q ≤ 1) : lN a ||| (lN q <<< ((nI t).toInt64 &&& 63)) = lN (a + q * 2 ^ t) := by
  have h60 : 2 ^ t < 2 ^ 64 := wb_lt2 (by omega)
  have h2 : 2 ^ t + 2 ^ t ≤ 2 ^ 64 := by
    have := Nat.pow_le_pow_right (n := 2) (by omega) (show t + 1 ≤ 64 by omega)
    rw [Nat.pow_succ] at this
    omega
  rw [wb_shl q (by omega)]
  rcases (show q = 0 ∨ q = 1 by omega) with rfl | rfl
  · rw [Nat.zero_mul, wb_or (by omega) (by omega), Nat.or_zero, Nat.add_zero]
  · exact g_or' (p := 2 ^ t) rfl ha (by omega)
theorem c_row (b p : Int32) {m : Nat} {c μ : MI} {ν : ML} {P : Po} (hp : p = nI 0 ∨ p = nI 1) (hC : WC c) (hc : CX c μ) (hm : c 2 0 = nI m) (hm8 : m ≤ 8) (hu : ¬ inR b m → P (some (.long (-1001))) μ ν) (ha : ∀ k μ', b = nI k → k < m → Sc μ μ' → P (some (.long (lN (bitsN (fun t => kb c (tw0 p) k t) 60)))) μ' ν) : Ct mX9_row 4 [.ref 0, .int b, .int p] μ ν P := by
  refine Ct.of (ls0 := [_, _, _, _, _, _, _, _]) (by decide) rfl (Nat.le_of_ble_eq_true rfl) rfl ?_
  have hN : N (c 2 0) = m := by rw [hm]; exact N_nI (by omega)
  have hm2 : μ 2 0 = nI m := (hc 2 (by omega) (by omega) 0).trans hm
  have loop : ∀ (k : Nat), b = nI k → k < m → ∀ (q i : Nat) (μ1 : MI), 60 - i < q → i ≤ 60 → Sc μ μ1 → TW 24 (tw0 p) μ1 → RX 47 i (runP c (tw0 p) i) μ1 → AW mX9_row (4, none) P 38 [some (.ref 0), some (.int (nI k)), some (.int p), some (.long (lN (bitsN (fun t => kb c (tw0 p) k t) i))), none, some (.int (nI i)), none, none] [] μ1 ν := by
    intro k hk hk2 q
    induction q with
    | zero => intro i μ1 h; omega
    | succ q ih =>
      intro i μ1 hq hi hF1 hT1 hR1
      refine A_iload dX9_row_38 rfl ?_
      refine A_bipush (v := nI 60) dX9_row_40 (by decide +kernel) ?_
      refine A_icmp_geN (tgt := 73) dX9_row_42 (by decide) (by omega) (by omega) (fun b42 => ?_) (fun b42 => ?_)
      · refine A_lload_n dX9_row_73 rfl ?_
        refine A_lret dX9_row_74 rfl ?_
        rw [show i = 60 by omega]
        exact ha k μ1 hk hk2 hF1
      · refine A_aload_n dX9_row_45 rfl ?_
        refine A_getR dX9_row_46 flX9_32 rfl rfl ?_
        refine A_callV0 dX9_row_49 mlX9_163 (by decide) rfl rfl (Nat.le_of_ble_eq_true rfl) (c_stepC flow_47 (by omega) hC (hF1.cx hc) hT1 hR1 (GC_run hC i) (fun μ2 hR2 hF2 => ?_))
        refine Kn.s ?_
        refine A_iload_n dX9_row_52 rfl ?_
        refine A_iushr dX9_row_53 ?_
        refine A_iconst (v := nI 1) dX9_row_54 (by decide +kernel) ?_
        refine A_iand dX9_row_55 ?_
        rw [hN, ushr_bit _ hm8 (by omega)]
        refine A_i2l dX9_row_56 ?_
        refine A_lstore (ls1 := [_, _, _, _, _, _, _, _]) dX9_row_57 (by decide) rfl rfl ?_
        refine A_lload_n dX9_row_59 rfl ?_
        refine A_lload dX9_row_60 rfl ?_
        refine A_iload dX9_row_62 rfl ?_
        refine A_lshl dX9_row_64 ?_
        refine A_lor dX9_row_65 ?_
        refine A_lstore_n (ls1 := [_, _, _, _, _, _, _, _]) dX9_row_66 (by decide) rfl rfl ?_
        have h01 : (if k < m ∧ setP c (tw0 p) i (runP c (tw0 p) i) k = true then 1 else 0) ≤ 1 := by split <;> omega
        rw [nI_l (by omega), lN_or_bit b42 (bitsN_lt _ _) h01]
        refine A_iincN (ls1 := [_, _, _, _, _, _, _, _]) dX9_row_67 rfl (by decide) rfl rfl ?_
        refine A_goto (tgt := 38) dX9_row_70 (by decide) ?_
        have h9 := ih (i + 1) μ2 (by omega) (by omega) (hF1.tr (Sc.fr hF2 (Or.inr (by omega)))) (hT1.fr (by omega) hF2) hR2
        have e : bitsN (fun t => kb c (tw0 p) k t) (i + 1) = bitsN (fun t => kb c (tw0 p) k t) i + (if k < m ∧ setP c (tw0 p) i (runP c (tw0 p) i) k = true then 1 else 0) * 2 ^ i := by
          rw [bitsN]
          congr 1
          unfold kb
          by_cases h : setP c (tw0 p) i (runP c (tw0 p) i) k = true
          · rw [if_pos h, if_pos ⟨hk2, h⟩, Nat.one_mul]
          · rw [if_neg h, if_neg (fun z => h z.2), Nat.zero_mul]
        rw [e] at h9
        exact A_weak h9 (by repeat first | exact fw_0 | refine fw_s ?_ | refine fw_n ?_)
  refine A_aload_n dX9_row_0 rfl ?_
  refine A_getR dX9_row_1 flX9_12 rfl rfl ?_
  refine A_getR dX9_row_4 flX9_56 rfl rfl ?_
  refine A_iload_n dX9_row_7 rfl ?_
  refine A_callV1 dX9_row_8 mlX9_66 (by decide) rfl rfl (Nat.le_of_ble_eq_true rfl) (c_has _ hm2 hm8 (fun g1 => ?_) (fun g1 => ?_))
  · refine Kn.s ?_
    refine A_if_ne (tgt := 18) dX9_row_11 (by decide) (fun _ => ?_) (fun h => absurd h (by decide +kernel))
    refine A_aload_n dX9_row_18 rfl ?_
    refine A_getR dX9_row_19 flX9_28 rfl rfl ?_
    refine A_iload_n dX9_row_22 rfl ?_
    refine A_callV1 dX9_row_23 mlX9_177 (by decide) rfl rfl (Nat.le_of_ble_eq_true rfl) (c_reset _ hp (fun μ1 hT1 hF1 => ?_))
    refine Kn.v ?_
    refine A_aload_n dX9_row_26 rfl ?_
    refine A_getR dX9_row_27 flX9_32 rfl rfl ?_
    refine A_callV0 dX9_row_30 mlX9_172 (by decide) rfl rfl (Nat.le_of_ble_eq_true rfl) (c_begin flow_47 (fun μ2 hR2 hF2 => ?_))
    refine Kn.v ?_
    refine A_lconst (v := 0) dX9_row_33 rfl ?_
    refine A_lstore_n (ls1 := [_, _, _, _, _, _, _, _]) dX9_row_34 (by decide) rfl rfl ?_
    refine A_iconst (v := nI 0) dX9_row_35 (by decide +kernel) ?_
    refine A_istore (ls1 := [_, _, _, _, _, _, _, _]) dX9_row_36 (by decide) rfl rfl ?_
    obtain ⟨k, hk, hk2⟩ := g1
    have h9 := loop k hk hk2 61 0 μ2 (by omega) (by omega) ((Sc.fr hF1 (Or.inl (by omega))).tr (Sc.fr hF2 (Or.inr (by omega)))) (hT1.fr (by omega) hF2) hR2
    rw [← hk] at h9
    exact A_weak h9 (by repeat first | exact fw_0 | refine fw_s ?_ | refine fw_n ?_)
  · refine Kn.s ?_
    refine A_if_ne (tgt := 18) dX9_row_11 (by decide) (fun h => absurd h (by decide +kernel)) (fun _ => ?_)
    refine A_ldc2 dX9_row_14 kcX9_175 ?_
    refine A_lret dX9_row_17 rfl ?_
    exact hu g1
theorem both_ok (K : Nat → Bool) {n b d : Nat} (hn : n ≤ 8) (hb : b < 8) (hd : d < 8) : (nI (bitsN K n) &&& ((nI 1 <<< (nI b &&& 31)) ||| (nI 1 <<< (nI d &&& 31))) = (nI 1 <<< (nI b &&& 31)) ||| (nI 1 <<< (nI d &&& 31))) ↔ (b < n ∧ K b = true) ∧ (d < n ∧ K d = true) := by
  have e : ∀ i, i < 8 → nI 1 <<< (nI i &&& 31) = nI (2 ^ i) := by decide +kernel
  have e2 : ∀ i, i < 8 → ∀ j, j < 8 → nI (2 ^ i) ||| nI (2 ^ j) = nI (2 ^ i ||| 2 ^ j) := by decide +kernel
  have hl : bitsN K n < 256 := Nat.lt_of_lt_of_le (bitsN_lt K n) (Nat.pow_le_pow_right (by omega) hn)
  have hp : ∀ i, i < 8 → 2 ^ i < 2 ^ 8 := fun i hi => wb_lt2 hi
  have hor : 2 ^ b ||| 2 ^ d < 2 ^ 8 := Nat.or_lt_two_pow (hp b hb) (hp d hd)
  have hand : bitsN K n &&& (2 ^ b ||| 2 ^ d) < 2 ^ 8 := Nat.and_lt_two_pow _ hor
  rw [e b hb, e d hd, e2 b hb d hd, nx_and, nI_eq (by omega) (by omega)]
  have tb : ∀ i, (bitsN K n).testBit i = true ↔ i < n ∧ K i = true := fun i => by rw [bitsN_bit]; simp
  rw [← tb b, ← tb d]
  constructor
  · intro h
    have h1 : ∀ i, (2 ^ b ||| 2 ^ d).testBit i = true → (bitsN K n).testBit i = true := fun i hi => by
      rw [← h, Nat.testBit_and, Bool.and_eq_true] at hi
      exact hi.1
    exact ⟨h1 b (by simp [Nat.testBit_or, Nat.testBit_two_pow_self]), h1 d (by simp [Nat.testBit_or, Nat.testBit_two_pow_self])⟩
  · rintro ⟨h1, h2⟩
    apply Nat.eq_of_testBit_eq
    intro i
    rw [Nat.testBit_and]
    by_cases hi : (2 ^ b ||| 2 ^ d).testBit i = true
    · rw [hi, Bool.and_true]
      rw [Nat.testBit_or, Nat.testBit_two_pow, Nat.testBit_two_pow] at hi
      simp only [Bool.or_eq_true, decide_eq_true_eq] at hi
      rcases hi with rfl | rfl
      · exact h1
      · exact h2
    · have hf : (2 ^ b ||| 2 ^ d).testBit i = false := Bool.eq_false_iff.mpr hi
      rw [hf, Bool.and_false]
theorem c_meeting (b d : Int32) {m : Nat} {c μ : MI} {ν : ML} {P : Po} (hC : WC c) (hc : CX c μ) (hm : c 2 0 = nI m) (hm8 : m ≤ 8) (hu : (¬ inR b m ∨ ¬ inR d m) → P (some (.int (-1001))) μ ν) (hn : inR b m → inR d m → b = d → P (some (.int (-1003))) μ ν) (h1 : ∀ i j t μ', b = nI i → i < m → d = nI j → j < m → ¬ b = d → t < 1000 → (kb c plP i t = true ∧ kb c plP j t = true) → (∀ u, u < t → ¬ (kb c plP i u = true ∧ kb c plP j u = true)) → Sc μ μ' → P (some (.int (nI t))) μ' ν) (h0 : ∀ i j μ', b = nI i → i < m → d = nI j → j < m → ¬ b = d → (∀ u, u < 1000 → ¬ (kb c plP i u = true ∧ kb c plP j u = true)) → Sc μ μ' → P (some (.int (-1))) μ' ν) : Ct mX9_meeting 4 [.ref 0, .int b, .int d] μ ν P := by
  refine Ct.of (ls0 := [_, _, _, _, _]) (by decide) rfl (Nat.le_of_ble_eq_true rfl) rfl ?_
  have hN : N (c 2 0) = m := by rw [hm]; exact N_nI (by omega)
  have hm2 : μ 2 0 = nI m := (hc 2 (by omega) (by omega) 0).trans hm
  have loop : ∀ (k j : Nat), b = nI k → k < m → d = nI j → j < m → ¬ b = d → ∀ (q i : Nat) (μ1 : MI), 1000 - i < q → i ≤ 1000 → Sc μ μ1 → TW 24 plP μ1 → RX 47 i (runP c plP i) μ1 → (∀ u, u < i → ¬ (kb c plP k u = true ∧ kb c plP j u = true)) → AW mX9_meeting (4, none) P 67 [some (.ref 0), some (.int b), some (.int d), some (.int ((nI 1 <<< (nI k &&& 31)) ||| (nI 1 <<< (nI j &&& 31)))), some (.int (nI i))] [] μ1 ν := by
    intro k j hk hk2 hj hj2 hne q
    induction q with
    | zero => intro i μ1 h; omega
    | succ q ih =>
      intro i μ1 hq hi hF1 hT1 hR1 hg
      refine A_iload dX9_meeting_67 rfl ?_
      refine A_sipush (v := nI 1000) dX9_meeting_69 (by decide +kernel) ?_
      refine A_icmp_geN (tgt := 97) dX9_meeting_72 (by decide) (by omega) (by omega) (fun b72 => ?_) (fun b72 => ?_)
      · refine A_iconst (v := (-1)) dX9_meeting_97 (by decide +kernel) ?_
        refine A_iret dX9_meeting_98 rfl rfl ?_
        rw [show i = 1000 by omega] at hg
        exact h0 k j μ1 hk hk2 hj hj2 hne hg hF1
      · refine A_aload_n dX9_meeting_75 rfl ?_
        refine A_getR dX9_meeting_76 flX9_32 rfl rfl ?_
        refine A_callV0 dX9_meeting_79 mlX9_163 (by decide) rfl rfl (Nat.le_of_ble_eq_true rfl) (c_stepC flow_47 (by omega) hC (hF1.cx hc) hT1 hR1 (GC_run hC i) (fun μ2 hR2 hF2 => ?_))
        refine Kn.s ?_
        refine A_iload_n dX9_meeting_82 rfl ?_
        refine A_iand dX9_meeting_83 ?_
        refine A_iload_n dX9_meeting_84 rfl ?_
        refine A_icmp_ne (tgt := 91) dX9_meeting_85 (by decide) (fun b85 => ?_) (fun b85 => ?_)
        · refine A_iincN (ls1 := [_, _, _, _, _]) dX9_meeting_91 rfl (by decide) rfl rfl ?_
          refine A_goto (tgt := 67) dX9_meeting_94 (by decide) ?_
          refine ih (i + 1) μ2 (by omega) (by omega) (hF1.tr (Sc.fr hF2 (Or.inr (by omega)))) (hT1.fr (by omega) hF2) hR2 (fun u hu => ?_)
          by_cases e : u = i
          · subst e
            rw [hN, both_ok _ hm8 (by omega) (by omega)] at b85
            exact fun z => b85 ⟨⟨hk2, z.1⟩, hj2, z.2⟩
          · exact hg u (by omega)
        · refine A_iload dX9_meeting_88 rfl ?_
          refine A_iret dX9_meeting_90 rfl rfl ?_
          rw [hN, both_ok _ hm8 (by omega) (by omega)] at b85
          exact h1 k j i μ2 hk hk2 hj hj2 hne b72 ⟨b85.1.2, b85.2.2⟩ hg (hF1.tr (Sc.fr hF2 (Or.inr (by omega))))
  refine A_aload_n dX9_meeting_0 rfl ?_
  refine A_getR dX9_meeting_1 flX9_12 rfl rfl ?_
  refine A_getR dX9_meeting_4 flX9_56 rfl rfl ?_
  refine A_iload_n dX9_meeting_7 rfl ?_
  refine A_callV1 dX9_meeting_8 mlX9_66 (by decide) rfl rfl (Nat.le_of_ble_eq_true rfl) (c_has _ hm2 hm8 (fun g1 => ?_) (fun g1 => ?_))
  · refine Kn.s ?_
    refine A_if_eq (tgt := 28) dX9_meeting_11 (by decide) (fun h => absurd h (by decide +kernel)) (fun _ => ?_)
    refine A_aload_n dX9_meeting_14 rfl ?_
    refine A_getR dX9_meeting_15 flX9_12 rfl rfl ?_
    refine A_getR dX9_meeting_18 flX9_56 rfl rfl ?_
    refine A_iload_n dX9_meeting_21 rfl ?_
    refine A_callV1 dX9_meeting_22 mlX9_66 (by decide) rfl rfl (Nat.le_of_ble_eq_true rfl) (c_has _ hm2 hm8 (fun g2 => ?_) (fun g2 => ?_))
    · refine Kn.s ?_
      refine A_if_ne (tgt := 32) dX9_meeting_25 (by decide) (fun _ => ?_) (fun h => absurd h (by decide +kernel))
      refine A_iload_n dX9_meeting_32 rfl ?_
      refine A_iload_n dX9_meeting_33 rfl ?_
      refine A_icmp_ne (tgt := 41) dX9_meeting_34 (by decide) (fun b34 => ?_) (fun b34 => ?_)
      · refine A_iconst (v := nI 1) dX9_meeting_41 (by decide +kernel) ?_
        refine A_iload_n dX9_meeting_42 rfl ?_
        refine A_ishl dX9_meeting_43 ?_
        refine A_iconst (v := nI 1) dX9_meeting_44 (by decide +kernel) ?_
        refine A_iload_n dX9_meeting_45 rfl ?_
        refine A_ishl dX9_meeting_46 ?_
        refine A_ior dX9_meeting_47 ?_
        refine A_istore_n (ls1 := [_, _, _, _, _]) dX9_meeting_48 (by decide) rfl rfl ?_
        refine A_aload_n dX9_meeting_49 rfl ?_
        refine A_getR dX9_meeting_50 flX9_28 rfl rfl ?_
        refine A_iconst (v := nI 1) dX9_meeting_53 (by decide +kernel) ?_
        refine A_callV1 dX9_meeting_54 mlX9_177 (by decide) rfl rfl (Nat.le_of_ble_eq_true rfl) (c_reset _ (Or.inr rfl) (fun μ1 hT1 hF1 => ?_))
        refine Kn.v ?_
        refine A_aload_n dX9_meeting_57 rfl ?_
        refine A_getR dX9_meeting_58 flX9_32 rfl rfl ?_
        refine A_callV0 dX9_meeting_61 mlX9_172 (by decide) rfl rfl (Nat.le_of_ble_eq_true rfl) (c_begin flow_47 (fun μ2 hR2 hF2 => ?_))
        refine Kn.v ?_
        refine A_iconst (v := nI 0) dX9_meeting_64 (by decide +kernel) ?_
        refine A_istore (ls1 := [_, _, _, _, _]) dX9_meeting_65 (by decide) rfl rfl ?_
        obtain ⟨k, hk, hk2⟩ := g1
        obtain ⟨j, hj, hj2⟩ := g2
        have h9 := loop k j hk hk2 hj hj2 b34 1001 0 μ2 (by omega) (by omega) ((Sc.fr hF1 (Or.inl (by omega))).tr (Sc.fr hF2 (Or.inr (by omega)))) (hT1.fr (by omega) hF2) hR2 (fun u hu => by omega)
        rw [← hk, ← hj] at h9
        exact h9
      · refine A_sipush (v := (-1003)) dX9_meeting_37 (by decide +kernel) ?_
        refine A_iret dX9_meeting_40 rfl rfl ?_
        exact hn g1 g2 b34
    · refine Kn.s ?_
      refine A_if_ne (tgt := 32) dX9_meeting_25 (by decide) (fun h => absurd h (by decide +kernel)) (fun _ => ?_)
      refine A_sipush (v := (-1001)) dX9_meeting_28 (by decide +kernel) ?_
      refine A_iret dX9_meeting_31 rfl rfl ?_
      exact hu (Or.inr g2)
  · refine Kn.s ?_
    refine A_if_eq (tgt := 28) dX9_meeting_11 (by decide) (fun _ => ?_) (fun h => absurd h (by decide +kernel))
    refine A_sipush (v := (-1001)) dX9_meeting_28 (by decide +kernel) ?_
    refine A_iret dX9_meeting_31 rfl rfl ?_
    exact hu (Or.inl g1)
