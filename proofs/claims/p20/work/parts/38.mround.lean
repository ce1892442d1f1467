/-! the reference's round -/
/-- what is kept of a state at tick t -/
def KP (t : Nat) (S : St) (μ : MI) : Prop := ∀ b, b < 8 → μ 96 (176 * t + b) = sH S b ∧ μ 96 (176 * t + 8 + b) = nI (sD S b) ∧ ∀ k, k < 20 → μ 96 (176 * t + 16 + 20 * b + k) = sC S b k
def Fk (t : Nat) (μ μ' : MI) : Prop := ∀ a j, ¬ (a = 96 ∧ 176 * t ≤ j ∧ j < 176 * t + 176) → μ' a j = μ a j
theorem Fk.rf {t : Nat} {μ : MI} : Fk t μ μ := fun _ _ _ => rfl
theorem Fk.tr {t : Nat} {μ μ' μ'' : MI} (h : Fk t μ μ') (h2 : Fk t μ' μ'') : Fk t μ μ'' := fun a j q => (h2 a j q).trans (h a j q)
theorem Fk.up {t j : Nat} {μ : MI} {v : Int32} (h1 : 176 * t ≤ j) (h2 : j < 176 * t + 176) : Fk t μ (up2 μ 96 j v) := fun a i q => up2_ne _ _ (by omega)
theorem RM.fk {g t u k : Nat} {S : St} {μ μ' : MI} (h : RM g t k S μ) (hF : Fk u μ μ') : RM g t k S μ' :=
  h.ext (fun a h1 h2 j => hF a j (by omega)) (fun j h1 h2 => hF 75 j (by omega))
theorem m_keep {t : Nat} {S : St} {μ : MI} {ν : ML} {P : Po} (ht : t ≤ 2000) (hR : RM 1 t 0 S μ) (hP : ∀ μ', KP t S μ' → Fk t μ μ' → P none μ' ν) : Ct mX10_keep 0 [.ref 75, .int (nI t)] μ ν P := by
  refine Ct.of (ls0 := [_, _, _, _, _]) (by decide) rfl (Nat.le_of_ble_eq_true rfl) rfl ?_
  have inner : ∀ (i : Nat), i < 8 → (∀ μ2, (∀ b, b < i + 1 → μ2 96 (176 * t + b) = sH S b ∧ μ2 96 (176 * t + 8 + b) = nI (sD S b) ∧ ∀ k, k < 20 → μ2 96 (176 * t + 16 + 20 * b + k) = sC S b k) → Fk t μ μ2 → AW mX10_keep (0, none) P 8 [some (.ref 75), some (.int (nI t)), some (.int (nI (176 * t))), some (.int (nI (i + 1))), none] [] μ2 ν) → ∀ (q j : Nat) (μ1 : MI), 20 - j < q → j ≤ 20 → Fk t μ μ1 → (∀ b, b < i → μ1 96 (176 * t + b) = sH S b ∧ μ1 96 (176 * t + 8 + b) = nI (sD S b) ∧ ∀ k, k < 20 → μ1 96 (176 * t + 16 + 20 * b + k) = sC S b k) → (μ1 96 (176 * t + i) = sH S i ∧ μ1 96 (176 * t + 8 + i) = nI (sD S i) ∧ ∀ k, k < j → μ1 96 (176 * t + 16 + 20 * i + k) = sC S i k) → AW mX10_keep (0, none) P 75 [some (.ref 75), some (.int (nI t)), some (.int (nI (176 * t))), some (.int (nI i)), some (.int (nI j))] [] μ1 ν := by
    intro i hi hex q
    induction q with
    | zero => intro j μ1 h; omega
    | succ q ih =>
      intro j μ1 hq hj hF h1 h2
      have hR1 := hR.fk hF
      refine A_iload dX10_keep_75 rfl ?_
      refine A_bipush (v := nI 20) dX10_keep_77 (by decide +kernel) ?_
      refine A_icmp_geN (tgt := 125) dX10_keep_79 (by decide) (by omega) (by omega) (fun b79 => ?_) (fun b79 => ?_)
      · refine A_iincN (ls1 := [_, _, _, _, _]) dX10_keep_125 rfl (by decide) rfl rfl ?_
        refine A_goto (tgt := 8) dX10_keep_128 (by decide) ?_
        refine A_weak (hex μ1 (fun b hb => ?_) hF) (by repeat first | exact fw_0 | refine fw_s ?_ | refine fw_n ?_)
        by_cases e : b = i
        · subst e
          exact ⟨h2.1, h2.2.1, fun k hk => h2.2.2 k (by omega)⟩
        · exact h1 b (by omega)
      · refine A_aload_n dX10_keep_82 rfl ?_
        refine A_getR dX10_keep_83 flX10_79 rfl rfl ?_
        refine A_iload_n dX10_keep_86 rfl ?_
        refine A_bipush (v := nI 16) dX10_keep_87 (by decide +kernel) ?_
        refine A_iaddN dX10_keep_89 ?_
        refine A_bipush (v := nI 20) dX10_keep_90 (by decide +kernel) ?_
        refine A_iload_n dX10_keep_92 rfl ?_
        refine A_imulN dX10_keep_93 ?_
        refine A_iaddN dX10_keep_94 ?_
        refine A_iload dX10_keep_95 rfl ?_
        refine A_iaddN dX10_keep_97 ?_
        have hco := hR1.1.2.2 i hi j (by omega)
        have hmod := Nat.mod_lt (t + j) (show 0 < 21 by omega)
        refine A_aload_n dX10_keep_98 rfl ?_
        refine A_getR dX10_keep_99 flX10_55 rfl rfl ?_
        refine A_bipush (v := nI 21) dX10_keep_102 (by decide +kernel) ?_
        refine A_bipush (v := nI 8) dX10_keep_104 (by decide +kernel) ?_
        refine A_iload_n dX10_keep_106 rfl ?_
        refine A_iaddN dX10_keep_107 ?_
        refine A_imulN dX10_keep_108 ?_
        refine A_iload_n dX10_keep_109 rfl ?_
        refine A_iload dX10_keep_110 rfl ?_
        refine A_iaddN dX10_keep_112 ?_
        refine A_bipush (v := nI 21) dX10_keep_113 (by decide +kernel) ?_
        refine A_iremN dX10_keep_115 (by omega) (by omega) (by omega) ?_
        refine A_iaddN dX10_keep_116 ?_
        refine A_ialdN (j := 21 * (8 + i) + (t + j) % 21) dX10_keep_117 rfl rfl (by omega) (by decide) ?_
        rw [show μ1 91 (21 * (8 + i) + (t + j) % 21) = sC S i j from hco]
        refine A_iastN (j := 176 * t + 16 + 20 * i + j) dX10_keep_118 rfl rfl (by omega) (by decide) ?_
        refine A_iincN (ls1 := [_, _, _, _, _]) dX10_keep_119 rfl (by decide) rfl rfl ?_
        refine A_goto (tgt := 75) dX10_keep_122 (by decide) ?_
        refine ih (j + 1) _ (by omega) (by omega) (hF.tr (Fk.up (by omega) (by omega))) (fun b hb => ?_) ⟨?_, ?_, fun k hk => ?_⟩
        · rw [up2_b _ _ (by omega), up2_b _ _ (by omega)]
          obtain ⟨k1, k2, k3⟩ := h1 b hb
          refine ⟨k1, k2, fun k hk => ?_⟩
          rw [up2_b _ _ (by omega)]
          exact k3 k hk
        · rw [up2_b _ _ (by omega)]
          exact h2.1
        · rw [up2_b _ _ (by omega)]
          exact h2.2.1
        · by_cases e : k = j
          · subst e
            exact up2_s _ _ _ _
          · rw [up2_b _ _ (by omega)]
            exact h2.2.2 k (by omega)
  have loop : ∀ (q i : Nat) (μ1 : MI), 8 - i < q → i ≤ 8 → Fk t μ μ1 → (∀ b, b < i → μ1 96 (176 * t + b) = sH S b ∧ μ1 96 (176 * t + 8 + b) = nI (sD S b) ∧ ∀ k, k < 20 → μ1 96 (176 * t + 16 + 20 * b + k) = sC S b k) → AW mX10_keep (0, none) P 8 [some (.ref 75), some (.int (nI t)), some (.int (nI (176 * t))), some (.int (nI i)), none] [] μ1 ν := by
    intro q
    induction q with
    | zero => intro i μ1 h; omega
    | succ q ih =>
      intro i μ1 hq hi hF h1
      have fin : ∀ x : Int32, i < 8 → x = nI (sD S i) → AW mX10_keep (0, none) P 71 [some (.ref 75), some (.int (nI t)), some (.int (nI (176 * t))), some (.int (nI i)), none] [.int x, .int (nI (176 * t + 8 + i)), .ref 96] (up2 μ1 96 (176 * t + i) (sH S i)) ν := by
        intro x hi8 hx
        subst hx
        refine A_iastN (j := 176 * t + 8 + i) dX10_keep_71 rfl rfl (by omega) (by decide) ?_
        refine A_iconst (v := nI 0) dX10_keep_72 (by decide +kernel) ?_
        refine A_istore (ls1 := [_, _, _, _, _]) dX10_keep_73 (by decide) rfl rfl ?_
        refine inner i hi8 (fun μ2 k1 k2 => ih (i + 1) μ2 (by omega) (by omega) k2 k1) 21 0 _ (by omega) (by omega) ((hF.tr (Fk.up (by omega) (by omega))).tr (Fk.up (by omega) (by omega))) (fun b hb => ?_) ⟨?_, up2_s _ _ _ _, fun k hk => by omega⟩
        · rw [up2_b _ _ (by omega), up2_b _ _ (by omega), up2_b _ _ (by omega), up2_b _ _ (by omega)]
          obtain ⟨k1, k2, k3⟩ := h1 b hb
          refine ⟨k1, k2, fun k hk => ?_⟩
          rw [up2_b _ _ (by omega), up2_b _ _ (by omega)]
          exact k3 k hk
        · rw [up2_b _ _ (by omega), up2_s]
      refine A_iload_n dX10_keep_8 rfl ?_
      refine A_bipush (v := nI 8) dX10_keep_9 (by decide +kernel) ?_
      refine A_icmp_geN (tgt := 131) dX10_keep_11 (by decide) (by omega) (by omega) (fun b11 => ?_) (fun b11 => ?_)
      · refine A_vret dX10_keep_131 rfl ?_
        exact hP μ1 (fun b hb => h1 b (by omega)) hF
      · have hR1 := hR.fk hF
        have hl : μ1 89 (8 + i) = sH S i := hR1.1.1 i b11
        have hu := hR1.1.2.1 i b11
        rw [if_neg (by omega)] at hu
        have hu1 : UD (μ1 90 (8 + i)) t (sD S i) := hu.1
        have hge := hu1.ge (by omega) hu.2
        refine A_aload_n dX10_keep_14 rfl ?_
        refine A_getR dX10_keep_15 flX10_79 rfl rfl ?_
        refine A_iload_n dX10_keep_18 rfl ?_
        refine A_iload_n dX10_keep_19 rfl ?_
        refine A_iaddN dX10_keep_20 ?_
        refine A_aload_n dX10_keep_21 rfl ?_
        refine A_getR dX10_keep_22 flX10_49 rfl rfl ?_
        refine A_bipush (v := nI 8) dX10_keep_25 (by decide +kernel) ?_
        refine A_iload_n dX10_keep_27 rfl ?_
        refine A_iaddN dX10_keep_28 ?_
        refine A_ialdN (j := 8 + i) dX10_keep_29 rfl rfl (by omega) (by decide) ?_
        rw [hl]
        refine A_iastN (j := 176 * t + i) dX10_keep_30 rfl rfl (by omega) (by decide) ?_
        refine A_aload_n dX10_keep_31 rfl ?_
        refine A_getR dX10_keep_32 flX10_79 rfl rfl ?_
        refine A_iload_n dX10_keep_35 rfl ?_
        refine A_bipush (v := nI 8) dX10_keep_36 (by decide +kernel) ?_
        refine A_iaddN dX10_keep_38 ?_
        refine A_iload_n dX10_keep_39 rfl ?_
        refine A_iaddN dX10_keep_40 ?_
        refine A_aload_n dX10_keep_41 rfl ?_
        refine A_getR dX10_keep_42 flX10_52 rfl rfl ?_
        refine A_bipush (v := nI 8) dX10_keep_45 (by decide +kernel) ?_
        refine A_iload_n dX10_keep_47 rfl ?_
        refine A_iaddN dX10_keep_48 ?_
        refine A_ialdN (j := 8 + i) dX10_keep_49 rfl rfl (by omega) (by decide) ?_
        simp (disch := omega) only [up2_a]
        refine A_iload_n dX10_keep_50 rfl ?_
        refine A_icmp_lt (tgt := 70) dX10_keep_51 (by decide) (fun b51 => ?_) (fun b51 => ?_)
        · refine A_iconst (v := nI 0) dX10_keep_70 (by decide +kernel) ?_
          refine fin 0 b11 ?_
          rcases Nat.eq_zero_or_pos (sD S i) with e | e
          · rw [e]
            rfl
          · exact absurd (hge.mpr e) (i_lt_n b51)
        · refine A_aload_n dX10_keep_54 rfl ?_
          refine A_getR dX10_keep_55 flX10_52 rfl rfl ?_
          refine A_bipush (v := nI 8) dX10_keep_58 (by decide +kernel) ?_
          refine A_iload_n dX10_keep_60 rfl ?_
          refine A_iaddN dX10_keep_61 ?_
          refine A_ialdN (j := 8 + i) dX10_keep_62 rfl rfl (by omega) (by decide) ?_
          simp (disch := omega) only [up2_a]
          refine A_iload_n dX10_keep_63 rfl ?_
          refine A_isub dX10_keep_64 ?_
          refine A_iconst (v := nI 1) dX10_keep_65 (by decide +kernel) ?_
          refine A_iadd dX10_keep_66 ?_
          refine A_goto (tgt := 71) dX10_keep_67 (by decide) ?_
          have hd := hge.mp (i_nlt b51)
          rw [hu1.2 hd, pk_sub (by omega), nI_add, show t + sD S i - 1 - t + 1 = sD S i by omega]
          exact fin _ b11 rfl
  refine A_sipush (v := nI 176) dX10_keep_0 (by decide +kernel) ?_
  refine A_iload_n dX10_keep_3 rfl ?_
  refine A_imulN dX10_keep_4 ?_
  refine A_istore_n (ls1 := [_, _, _, _, _]) dX10_keep_5 (by decide) rfl rfl ?_
  refine A_iconst (v := nI 0) dX10_keep_6 (by decide +kernel) ?_
  refine A_istore_n (ls1 := [_, _, _, _, _]) dX10_keep_7 (by decide) rfl rfl ?_
  exact loop 9 0 μ (by omega) (by omega) Fk.rf (fun b hb => by omega)
theorem m_isLike {a d : Nat} {S T : St} {μ : MI} {ν : ML} {P : Po} (ha : a ≤ 2000) (hd : d ≤ 2000) (hS : KP a S μ) (hT : KP d T μ) (h20 : ∀ b, b < 8 → sD S b ≤ 20 ∧ sD T b ≤ 20) (h1 : LK S T → P (some (.int (nI 1))) μ ν) (h0 : ¬ LK S T → P (some (.int (nI 0))) μ ν) : Ct mX10_isLike 0 [.ref 75, .int (nI a), .int (nI d)] μ ν P := by
  refine Ct.of (ls0 := [_, _, _, _]) (by decide) rfl (Nat.le_of_ble_eq_true rfl) rfl ?_
  have one : LK S T → ∀ k, k < 176 → μ 96 (176 * a + k) = μ 96 (176 * d + k) := by
    intro h k hk
    rcases Nat.lt_or_ge k 8 with q | q
    · rw [(hS k q).1, (hT k q).1, (h k q).1]
    · rcases Nat.lt_or_ge k 16 with q2 | q2
      · have e1 := (hS (k - 8) (by omega)).2.1
        have e2 := (hT (k - 8) (by omega)).2.1
        rw [show 176 * a + 8 + (k - 8) = 176 * a + k by omega] at e1
        rw [show 176 * d + 8 + (k - 8) = 176 * d + k by omega] at e2
        rw [e1, e2, (h (k - 8) (by omega)).2.1]
      · have hm := Nat.mod_lt (k - 16) (show 0 < 20 by omega)
        have e1 := (hS ((k - 16) / 20) (by omega)).2.2 ((k - 16) % 20) hm
        have e2 := (hT ((k - 16) / 20) (by omega)).2.2 ((k - 16) % 20) hm
        rw [show 176 * a + 16 + 20 * ((k - 16) / 20) + (k - 16) % 20 = 176 * a + k by omega] at e1
        rw [show 176 * d + 16 + 20 * ((k - 16) / 20) + (k - 16) % 20 = 176 * d + k by omega] at e2
        rw [e1, e2, (h ((k - 16) / 20) (by omega)).2.2 _ hm]
  have two : (∀ k, k < 176 → μ 96 (176 * a + k) = μ 96 (176 * d + k)) → LK S T := by
    intro h b hb
    obtain ⟨s1, s2, s3⟩ := hS b hb
    obtain ⟨t1, t2, t3⟩ := hT b hb
    refine ⟨by rw [← s1, ← t1]; exact h b (by omega), ?_, fun k hk => ?_⟩
    · have e := h (8 + b) (by omega)
      rw [← Nat.add_assoc, ← Nat.add_assoc, s2, t2] at e
      obtain ⟨k1, k2⟩ := h20 b hb
      exact (nI_eq (by omega) (by omega)).mp e
    · have e := h (16 + 20 * b + k) (by omega)
      rw [show 176 * a + (16 + 20 * b + k) = 176 * a + 16 + 20 * b + k by omega, show 176 * d + (16 + 20 * b + k) = 176 * d + 16 + 20 * b + k by omega, s3 k hk, t3 k hk] at e
      exact e
  have loop : ∀ (n i : Nat), 176 - i < n → i ≤ 176 → (∀ k, k < i → μ 96 (176 * a + k) = μ 96 (176 * d + k)) → AW mX10_isLike (0, none) P 2 [some (.ref 75), some (.int (nI a)), some (.int (nI d)), some (.int (nI i))] [] μ ν := by
    intro n
    induction n with
    | zero => intro i h; omega
    | succ n ih =>
      intro i hn hi hk
      refine A_iload_n dX10_isLike_2 rfl ?_
      refine A_sipush (v := nI 176) dX10_isLike_3 (by decide +kernel) ?_
      refine A_icmp_geN (tgt := 44) dX10_isLike_6 (by decide) (by omega) (by omega) (fun b6 => ?_) (fun b6 => ?_)
      · refine A_iconst (v := nI 1) dX10_isLike_44 (by decide +kernel) ?_
        refine A_iret dX10_isLike_45 rfl (by decide +kernel) ?_
        exact h1 (two (fun k hk2 => hk k (by omega)))
      · refine A_aload_n dX10_isLike_9 rfl ?_
        refine A_getR dX10_isLike_10 flX10_79 rfl rfl ?_
        refine A_sipush (v := nI 176) dX10_isLike_13 (by decide +kernel) ?_
        refine A_iload_n dX10_isLike_16 rfl ?_
        refine A_imulN dX10_isLike_17 ?_
        refine A_iload_n dX10_isLike_18 rfl ?_
        refine A_iaddN dX10_isLike_19 ?_
        refine A_ialdN (j := 176 * a + i) dX10_isLike_20 rfl rfl (by omega) (by decide) ?_
        refine A_aload_n dX10_isLike_21 rfl ?_
        refine A_getR dX10_isLike_22 flX10_79 rfl rfl ?_
        refine A_sipush (v := nI 176) dX10_isLike_25 (by decide +kernel) ?_
        refine A_iload_n dX10_isLike_28 rfl ?_
        refine A_imulN dX10_isLike_29 ?_
        refine A_iload_n dX10_isLike_30 rfl ?_
        refine A_iaddN dX10_isLike_31 ?_
        refine A_ialdN (j := 176 * d + i) dX10_isLike_32 rfl rfl (by omega) (by decide) ?_
        refine A_icmp_eq (tgt := 38) dX10_isLike_33 (by decide) (fun b33 => ?_) (fun b33 => ?_)
        · refine A_iincN (ls1 := [_, _, _, _]) dX10_isLike_38 rfl (by decide) rfl rfl ?_
          refine A_goto (tgt := 2) dX10_isLike_41 (by decide) ?_
          refine ih (i + 1) (by omega) (by omega) (fun k hk2 => ?_)
          by_cases e : k = i
          · subst e
            exact b33
          · exact hk k (by omega)
        · refine A_iconst (v := nI 0) dX10_isLike_36 (by decide +kernel) ?_
          refine A_iret dX10_isLike_37 rfl (by decide +kernel) ?_
          exact h0 (fun q => b33 (one q i b6))
  refine A_iconst (v := nI 0) dX10_isLike_0 (by decide +kernel) ?_
  refine A_istore_n (ls1 := [_, _, _, _]) dX10_isLike_1 (by decide) rfl rfl ?_
  exact loop 177 0 (by omega) (by omega) (fun k hk => by omega)
theorem m_goesInto {n : Nat} (hn : n < 10000) {c μ : MI} {ν : ML} {P : Po} (hC : WC c) (hc : CM c μ) (h1 : beatB c n = true → P (some (.int (nI 1))) μ ν) (h0 : beatB c n = false → P (some (.int (nI 0))) μ ν) : Ct mX10_goesInto 0 [.ref 75, .int (nI n)] μ ν P := by
  refine Ct.of (ls0 := [_, _, _, _]) (by decide) rfl (Nat.le_of_ble_eq_true rfl) rfl ?_
  have hns := hC.2.1.1
  have hdr := hC.2.2.2.2
  have hdr2 := hdr.2
  have hs0 : μ 75 5 = nI (N (c 7 0)) := hc.1.2.1.trans hns.1
  have hd0 : μ 75 17 = nI (N (c 1 4)) := hc.1.2.2.2.2.trans hdr.1
  have hns2 := hns.2
  have loop : ∀ (q i : Nat) (b : Bool), N (c 7 0) - i < q → i ≤ N (c 7 0) → (b = true ↔ (∀ s, s < i → n % N (c 10 s) = 0) ∧ (N (c 1 4) = 0 ∨ n % N (c 1 4) = 0)) → AW mX10_goesInto (0, none) P 24 [some (.ref 75), some (.int (nI n)), some (.int (nI (bN b))), some (.int (nI i))] [] μ ν := by
    intro q
    induction q with
    | zero => intro i b h; omega
    | succ q ih =>
      intro i b hq hi hb
      refine A_iload_n dX10_goesInto_24 rfl ?_
      refine A_aload_n dX10_goesInto_25 rfl ?_
      refine A_getI dX10_goesInto_26 flX10_99 rfl rfl ?_
      rw [hs0]
      refine A_icmp_geN (tgt := 59) dX10_goesInto_29 (by decide) (by omega) (by omega) (fun b29 => ?_) (fun b29 => ?_)
      · refine A_iload_n dX10_goesInto_59 rfl ?_
        refine A_iret dX10_goesInto_60 rfl (bN_nar _) ?_
        cases hh : b with
        | true =>
          exact h1 ((beatB_iff hC n).mpr (by rw [show N (c 7 0) = i by omega]; exact hb.mp hh))
        | false =>
          have h9 : beatB c n = false := by
            cases e : beatB c n with
            | false => rfl
            | true =>
              have := hb.mpr (by rw [show i = N (c 7 0) by omega]; exact (beatB_iff hC n).mp e)
              rw [hh] at this
              cases this
          exact h0 h9
      · obtain ⟨_, _, e3, _⟩ := hc.2.2.1 i b29
        have w3 := (hC.2.1.2 i b29).2.1
        have w32 := w3.1.2
        have w4 := w3.2
        rw [w3.1.1] at e3
        refine A_iload_n dX10_goesInto_32 rfl ?_
        refine A_if_eq (tgt := 51) dX10_goesInto_33 (by decide) (fun b33 => ?_) (fun b33 => ?_)
        · refine A_iconst (v := nI 0) dX10_goesInto_51 (by decide +kernel) ?_
          refine A_istore_n (ls1 := [_, _, _, _]) dX10_goesInto_52 (by decide) rfl rfl ?_
          refine A_iincN (ls1 := [_, _, _, _]) dX10_goesInto_53 rfl (by decide) rfl rfl ?_
          refine A_goto (tgt := 24) dX10_goesInto_56 (by decide) ?_
          exact ih (i + 1) false (by omega) (by omega) ⟨fun z => (by cases z), fun z => by
              have := hb.mpr ⟨fun s hs => z.1 s (by omega), z.2⟩
              rw [bN_eq b33] at this
              exact this⟩
        · refine A_iload_n dX10_goesInto_36 rfl ?_
          refine A_aload_n dX10_goesInto_37 rfl ?_
          refine A_getR dX10_goesInto_38 flX10_28 rfl rfl ?_
          refine A_iload_n dX10_goesInto_41 rfl ?_
          refine A_ialdN (j := i) dX10_goesInto_42 rfl rfl (by omega) (by decide) ?_
          rw [e3]
          refine A_iremN dX10_goesInto_43 (by omega) (by omega) (by omega) ?_
          refine A_if_ne (tgt := 51) dX10_goesInto_44 (by decide) (fun b44 => ?_) (fun b44 => ?_)
          · refine A_iconst (v := nI 0) dX10_goesInto_51 (by decide +kernel) ?_
            refine A_istore_n (ls1 := [_, _, _, _]) dX10_goesInto_52 (by decide) rfl rfl ?_
            refine A_iincN (ls1 := [_, _, _, _]) dX10_goesInto_53 rfl (by decide) rfl rfl ?_
            refine A_goto (tgt := 24) dX10_goesInto_56 (by decide) ?_
            exact ih (i + 1) false (by omega) (by omega) ⟨fun z => (by cases z), fun z => absurd (by rw [z.1 i (Nat.lt_succ_self i)]; rfl) b44⟩
          · refine A_iconst (v := nI 1) dX10_goesInto_47 (by decide +kernel) ?_
            refine A_goto (tgt := 52) dX10_goesInto_48 (by decide) ?_
            refine A_istore_n (ls1 := [_, _, _, _]) dX10_goesInto_52 (by decide) rfl rfl ?_
            refine A_iincN (ls1 := [_, _, _, _]) dX10_goesInto_53 rfl (by decide) rfl rfl ?_
            refine A_goto (tgt := 24) dX10_goesInto_56 (by decide) ?_
            have hm : n % N (c 10 i) = 0 := (nI_eq (b := 0) (by have := Nat.mod_lt n w4; omega) (by omega)).mp b44
            refine ih (i + 1) true (by omega) (by omega) ⟨fun _ => ?_, fun _ => rfl⟩
            obtain ⟨k1, k2⟩ := hb.mp (bN_ne b33)
            refine ⟨fun s hs => ?_, k2⟩
            by_cases e : s = i
            · subst e
              exact hm
            · exact k1 s (by omega)
  refine A_aload_n dX10_goesInto_0 rfl ?_
  refine A_getI dX10_goesInto_1 flX10_127 rfl rfl ?_
  rw [hd0]
  refine A_if_eq (tgt := 16) dX10_goesInto_4 (by decide) (fun b4 => ?_) (fun b4 => ?_)
  · refine A_iconst (v := nI 1) dX10_goesInto_16 (by decide +kernel) ?_
    refine A_goto (tgt := 21) dX10_goesInto_17 (by decide) ?_
    refine A_istore_n (ls1 := [_, _, _, _]) dX10_goesInto_21 (by decide) rfl rfl ?_
    refine A_iconst (v := nI 0) dX10_goesInto_22 (by decide +kernel) ?_
    refine A_istore_n (ls1 := [_, _, _, _]) dX10_goesInto_23 (by decide) rfl rfl ?_
    exact loop (N (c 7 0) + 1) 0 true (by omega) (by omega) ⟨fun _ => ⟨fun s hs => by omega, Or.inl ((nI_eq (b := 0) (by omega) (by omega)).mp b4)⟩, fun _ => rfl⟩
  · have hpos : 0 < N (c 1 4) := Nat.pos_of_ne_zero (fun e => b4 (by rw [e]; rfl))
    refine A_iload_n dX10_goesInto_7 rfl ?_
    refine A_aload_n dX10_goesInto_8 rfl ?_
    refine A_getI dX10_goesInto_9 flX10_127 rfl rfl ?_
    rw [hd0]
    refine A_iremN dX10_goesInto_12 (by omega) (by omega) (by omega) ?_
    refine A_if_ne (tgt := 20) dX10_goesInto_13 (by decide) (fun b13 => ?_) (fun b13 => ?_)
    · refine A_iconst (v := nI 0) dX10_goesInto_20 (by decide +kernel) ?_
      refine A_istore_n (ls1 := [_, _, _, _]) dX10_goesInto_21 (by decide) rfl rfl ?_
      refine A_iconst (v := nI 0) dX10_goesInto_22 (by decide +kernel) ?_
      refine A_istore_n (ls1 := [_, _, _, _]) dX10_goesInto_23 (by decide) rfl rfl ?_
      exact loop (N (c 7 0) + 1) 0 false (by omega) (by omega) ⟨fun z => (by cases z), fun z => by
          rcases z.2 with q | q
          · omega
          · exact absurd (by rw [q]; rfl) b13⟩
    · refine A_iconst (v := nI 1) dX10_goesInto_16 (by decide +kernel) ?_
      refine A_goto (tgt := 21) dX10_goesInto_17 (by decide) ?_
      refine A_istore_n (ls1 := [_, _, _, _]) dX10_goesInto_21 (by decide) rfl rfl ?_
      refine A_iconst (v := nI 0) dX10_goesInto_22 (by decide +kernel) ?_
      refine A_istore_n (ls1 := [_, _, _, _]) dX10_goesInto_23 (by decide) rfl rfl ?_
      exact loop (N (c 7 0) + 1) 0 true (by omega) (by omega) ⟨fun _ => ⟨fun s hs => by omega, Or.inr ((nI_eq (b := 0) (by have := Nat.mod_lt n hpos; omega) (by omega)).mp b13)⟩, fun _ => rfl⟩
/-- what a look for the round changes: the second garden, what is kept -/
def Mk (μ μ' : MI) : Prop := ∀ a j, ¬ ((a = 89 ∨ a = 90) ∧ 8 ≤ j ∧ j < 16) → ¬ (a = 91 ∧ 168 ≤ j ∧ j < 336) → ¬ (a = 96) → μ' a j = μ a j
theorem Mk.tr {μ μ' μ'' : MI} (h : Mk μ μ') (h2 : Mk μ' μ'') : Mk μ μ'' := fun a j q1 q2 q3 => (h2 a j q1 q2 q3).trans (h a j q1 q2 q3)
theorem Mk.mr {μ μ' : MI} (h : Mr 1 μ μ') : Mk μ μ' := fun a j q1 q2 q3 => h a j (by omega) (by omega) (by omega)
theorem Mk.fk {t : Nat} {μ μ' : MI} (h : Fk t μ μ') : Mk μ μ' := fun a j q1 q2 q3 => h a j (by omega)
theorem CM.mk {c μ μ' : MI} (hc : CM c μ) (h : Mk μ μ') : CM c μ' := by
  have f : ∀ a j, a ≠ 89 → a ≠ 90 → a ≠ 91 → a ≠ 96 → μ' a j = μ a j := fun a j h1 h2 h3 h4 => h a j (by omega) (by omega) h4
  refine ⟨⟨?_, ?_, ?_, ?_, ?_⟩, fun b hb => ?_, fun s hs => ?_, fun k hk => ?_, fun k hk => ?_⟩
  · rw [f _ _ (by omega) (by omega) (by omega) (by omega)]; exact hc.1.1
  · rw [f _ _ (by omega) (by omega) (by omega) (by omega)]; exact hc.1.2.1
  · rw [f _ _ (by omega) (by omega) (by omega) (by omega)]; exact hc.1.2.2.1
  · rw [f _ _ (by omega) (by omega) (by omega) (by omega)]; exact hc.1.2.2.2.1
  · rw [f _ _ (by omega) (by omega) (by omega) (by omega)]; exact hc.1.2.2.2.2
  · rw [f _ _ (by omega) (by omega) (by omega) (by omega), f _ _ (by omega) (by omega) (by omega) (by omega), f _ _ (by omega) (by omega) (by omega) (by omega), f _ _ (by omega) (by omega) (by omega) (by omega)]; exact hc.2.1 b hb
  · rw [f _ _ (by omega) (by omega) (by omega) (by omega), f _ _ (by omega) (by omega) (by omega) (by omega), f _ _ (by omega) (by omega) (by omega) (by omega), f _ _ (by omega) (by omega) (by omega) (by omega)]; exact hc.2.2.1 s hs
  · rw [f _ _ (by omega) (by omega) (by omega) (by omega), f _ _ (by omega) (by omega) (by omega) (by omega), f _ _ (by omega) (by omega) (by omega) (by omega)]; exact hc.2.2.2.1 k hk
  · rw [f _ _ (by omega) (by omega) (by omega) (by omega), f _ _ (by omega) (by omega) (by omega) (by omega)]; exact hc.2.2.2.2 k hk
theorem B0.mk {μ μ' : MI} (h : B0 μ) (hM : Mk μ μ') : B0 μ' := by
  refine ⟨fun s hs => ?_, ?_, ?_⟩
  · rw [hM _ _ (by omega) (by omega) (by omega)]; exact h.1 s hs
  · rw [hM _ _ (by omega) (by omega) (by omega)]; exact h.2.1
  · rw [hM _ _ (by omega) (by omega) (by omega)]; exact h.2.2
theorem run_D20 {c tw : MI} {t : Nat} {μ : MI} {g : Nat} (h : RM g t 0 (runP c tw t) μ) : ∀ b, b < 8 → sD (runP c tw t) b ≤ 20 := fun b hb => (h.1.2.1 b hb).2
theorem m_round (what : Int32) {c μ : MI} {ν : ML} {P : Po} (hC : WC c) (hc : CM c μ) (hB : B0 μ) (hx : ¬ (nI 0 ≤ what ∧ what ≤ nI 1) → P (some (.int (-1002))) μ ν) (h0 : ∀ μ', nI 0 ≤ what → what ≤ nI 1 → (∀ a n, 31 ≤ a → a ≤ 1000 → 1 ≤ n → n ≤ 1000 → beatB c n = true → ¬ EQ c a (a + n)) → Mk μ μ' → P (some (.int (-1))) μ' ν) (h1 : ∀ a n μ', nI 0 ≤ what → what ≤ nI 1 → RND c a n → Mk μ μ' → P (some (.int (if what = 0 then nI a else nI n))) μ' ν) : Ct mX10_round 4 [.ref 75, .int what] μ ν P := by
  refine Ct.of (ls0 := [_, _, _, _, _]) (by decide) rfl (Nat.le_of_ble_eq_true rfl) rfl ?_
  have main : nI 0 ≤ what → what ≤ nI 1 → AW mX10_round (4, none) P 14 [some (.ref 75), some (.int what), none, none, none] [] μ ν := by
    intro g1 g2
    have h0 := fun μ' => h0 μ' g1 g2
    have h1 := fun a n μ' => h1 a n μ' g1 g2
    have search : ∀ (μ1 : MI), Mk μ μ1 → (∀ t, t ≤ 2000 → KP t (runP c plP t) μ1 ∧ ∀ b, b < 8 → sD (runP c plP t) b ≤ 20) → ∀ l : Nat, 1 ≤ l → l ≤ 1001 → (∀ m, 1 ≤ m → m < l → beatB c m = false) → (l ≤ 1000 → beatB c l = true) → ∀ (q i : Nat), 1001 - i < q → 31 ≤ i → i ≤ 1001 → (∀ a n, 31 ≤ a → a < i → 1 ≤ n → n ≤ 1000 → beatB c n = true → ¬ EQ c a (a + n)) → AW mX10_round (4, none) P 73 [some (.ref 75), some (.int what), some (.int (nI l)), some (.int (nI i)), none] [] μ1 ν := by
      intro μ1 hM hSN l hl1 hl2 hmin hl3
      have inner : ∀ i, 31 ≤ i → i ≤ 1000 → (∀ a n, 31 ≤ a → a < i → 1 ≤ n → n ≤ 1000 → beatB c n = true → ¬ EQ c a (a + n)) → ((∀ n, 1 ≤ n → n ≤ 1000 → beatB c n = true → ¬ EQ c i (i + n)) → AW mX10_round (4, none) P 73 [some (.ref 75), some (.int what), some (.int (nI l)), some (.int (nI (i + 1))), none] [] μ1 ν) → ∀ (q k : Nat), 1001 - k < q → 1 ≤ k → (∀ n, 1 ≤ n → n < l * k → n ≤ 1000 → beatB c n = true → ¬ EQ c i (i + n)) → l * k ≤ 2001 → AW mX10_round (4, none) P 83 [some (.ref 75), some (.int what), some (.int (nI l)), some (.int (nI i)), some (.int (nI (l * k)))] [] μ1 ν := by
        intro i hi1 hi2 hprev hex q
        induction q with
        | zero =>
          intro k h hk1 hn hk
          have : 1 * k ≤ l * k := Nat.mul_le_mul_right _ hl1
          omega
        | succ q ih =>
          intro k hq hk1 hn hk
          have hlk : 1 * k ≤ l * k := Nat.mul_le_mul_right _ hl1
          have hkl : l * 1 ≤ l * k := Nat.mul_le_mul_left _ hk1
          have next : l * k ≤ 1000 → ¬ EQ c i (i + l * k) → _ := fun h h2 => ih (k + 1) (by omega) (by omega) (fun n hn1 hn2 hn3 hn4 => by
            obtain ⟨j, hj⟩ := beat_least hC hl1 (hl3 (by omega)) hmin hn4
            rcases Nat.lt_trichotomy j k with z | z | z
            · refine hn n hn1 ?_ hn3 hn4
              have : l * (j + 1) ≤ l * k := Nat.mul_le_mul_left _ z
              rw [Nat.mul_succ] at this
              omega
            · rw [hj, z]
              exact h2
            · have : l * (k + 1) ≤ l * j := Nat.mul_le_mul_left _ z
              omega) (by rw [Nat.mul_succ]; omega)
          refine A_iload dX10_round_83 rfl ?_
          refine A_sipush (v := nI 1000) dX10_round_85 (by decide +kernel) ?_
          refine A_icmp_gtN (tgt := 123) dX10_round_88 (by decide) (by omega) (by omega) (fun b88 => ?_) (fun b88 => ?_)
          · refine A_iincN (ls1 := [_, _, _, _, _]) dX10_round_123 rfl (by decide) rfl rfl ?_
            refine A_goto (tgt := 73) dX10_round_126 (by decide) ?_
            exact A_weak (hex (fun n hn1 hn2 hn3 => hn n hn1 (by omega) hn2 hn3)) (by repeat first | exact fw_0 | refine fw_s ?_ | refine fw_n ?_)
          · refine A_aload_n dX10_round_91 rfl ?_
            refine A_iload_n dX10_round_92 rfl ?_
            refine A_iload_n dX10_round_93 rfl ?_
            refine A_iload dX10_round_94 rfl ?_
            refine A_iaddN dX10_round_96 ?_
            refine A_callV2 dX10_round_97 mlX10_193 (by decide) rfl rfl (Nat.le_of_ble_eq_true rfl) (m_isLike (by omega) (by omega) (hSN i (by omega)).1 (hSN (i + l * k) (by omega)).1 (fun b hb => ⟨(hSN i (by omega)).2 b hb, (hSN (i + l * k) (by omega)).2 b hb⟩) (fun z => ?_) (fun z => ?_))
            · refine Kn.s ?_
              refine A_if_eq (tgt := 114) dX10_round_100 (by decide) (fun h => absurd h (by decide +kernel)) (fun _ => ?_)
              have hR : RND c i (l * k) := ⟨hi1, hi2, by omega, b88, beat_mul hC (hl3 (by omega)) k, (LK_iff hC _ _).mp z, fun a' n' y1 y2 y3 y4 y5 => hprev a' n' y1 y2 y3 y4 y5, fun n' y1 y2 y3 => hn n' y1 y2 (by omega) y3⟩
              have h9 := h1 _ _ μ1 hR hM
              refine A_iload_n dX10_round_103 rfl ?_
              refine A_if_ne (tgt := 111) dX10_round_104 (by decide) (fun b104 => ?_) (fun b104 => ?_)
              · refine A_iload dX10_round_111 rfl ?_
                refine A_iret dX10_round_113 rfl rfl ?_
                rw [if_neg b104] at h9
                exact h9
              · refine A_iload_n dX10_round_107 rfl ?_
                refine A_goto (tgt := 113) dX10_round_108 (by decide) ?_
                refine A_iret dX10_round_113 rfl rfl ?_
                rw [if_pos b104] at h9
                exact h9
            · refine Kn.s ?_
              refine A_if_eq (tgt := 114) dX10_round_100 (by decide) (fun _ => ?_) (fun h => absurd h (by decide +kernel))
              refine A_iload dX10_round_114 rfl ?_
              refine A_iload_n dX10_round_116 rfl ?_
              refine A_iaddN dX10_round_117 ?_
              refine A_istore (ls1 := [_, _, _, _, _]) dX10_round_118 (by decide) rfl rfl ?_
              refine A_goto (tgt := 83) dX10_round_120 (by decide) ?_
              have h9 := next b88 (fun y => z ((LK_iff hC _ _).mpr y))
              rw [Nat.mul_succ] at h9
              exact h9
      intro q
      induction q with
      | zero => intro i h; omega
      | succ q ih =>
        intro i hq hi1 hi2 hprev
        refine A_iload_n dX10_round_73 rfl ?_
        refine A_sipush (v := nI 1000) dX10_round_74 (by decide +kernel) ?_
        refine A_icmp_gtN (tgt := 129) dX10_round_77 (by decide) (by omega) (by omega) (fun b77 => ?_) (fun b77 => ?_)
        · refine A_iconst (v := (-1)) dX10_round_129 (by decide +kernel) ?_
          refine A_iret dX10_round_130 rfl rfl ?_
          exact h0 μ1 (fun a n y1 y2 y3 y4 y5 => hprev a n y1 (by omega) y3 y4 y5) hM
        · refine A_iload_n dX10_round_80 rfl ?_
          refine A_istore (ls1 := [_, _, _, _, _]) dX10_round_81 (by decide) rfl rfl ?_
          have h9 := inner i hi1 b77 hprev (fun z => ih (i + 1) (by omega) (by omega) (by omega) (fun a n y1 y2 y3 y4 y5 => by
            by_cases e : a = i
            · subst e
              exact z n y3 y4 y5
            · exact hprev a n y1 (by omega) y3 y4 y5)) 1001 1 (by omega) (by omega) (fun n y1 y2 y3 y4 => by
              rw [Nat.mul_one] at y2
              rw [hmin n y1 y2] at y4
              cases y4) (by omega)
          rw [Nat.mul_one] at h9
          exact h9
    have least : ∀ (μ1 : MI), Mk μ μ1 → (∀ t, t ≤ 2000 → KP t (runP c plP t) μ1 ∧ ∀ b, b < 8 → sD (runP c plP t) b ≤ 20) → ∀ (q l : Nat), 1001 - l < q → 1 ≤ l → l ≤ 1001 → (∀ m, 1 ≤ m → m < l → beatB c m = false) → AW mX10_round (4, none) P 49 [some (.ref 75), some (.int what), some (.int (nI l)), none, none] [] μ1 ν := by
      intro μ1 hM hSN q
      induction q with
      | zero => intro l h; omega
      | succ q ih =>
        intro l hq hl1 hl2 hmin
        have fin : (l ≤ 1000 → beatB c l = true) → AW mX10_round (4, none) P 70 [some (.ref 75), some (.int what), some (.int (nI l)), none, none] [] μ1 ν := by
          intro hl3
          refine A_bipush (v := nI 31) dX10_round_70 (by decide +kernel) ?_
          refine A_istore_n (ls1 := [_, _, _, _, _]) dX10_round_72 (by decide) rfl rfl ?_
          exact search μ1 hM hSN l hl1 hl2 hmin hl3 1001 31 (by omega) (by omega) (by omega) (fun a n y1 y2 => by omega)
        refine A_iload_n dX10_round_49 rfl ?_
        refine A_sipush (v := nI 1000) dX10_round_50 (by decide +kernel) ?_
        refine A_icmp_gtN (tgt := 70) dX10_round_53 (by decide) (by omega) (by omega) (fun b53 => ?_) (fun b53 => ?_)
        · exact fin (fun z => by omega)
        · refine A_aload_n dX10_round_56 rfl ?_
          refine A_iload_n dX10_round_57 rfl ?_
          refine A_callV1 dX10_round_58 mlX10_190 (by decide) rfl rfl (Nat.le_of_ble_eq_true rfl) (m_goesInto (by omega) hC (hc.mk hM) (fun z => ?_) (fun z => ?_))
          · refine Kn.s ?_
            refine A_if_ne (tgt := 70) dX10_round_61 (by decide) (fun _ => ?_) (fun h => absurd h (by decide +kernel))
            exact fin (fun _ => z)
          · refine Kn.s ?_
            refine A_if_ne (tgt := 70) dX10_round_61 (by decide) (fun h => absurd h (by decide +kernel)) (fun _ => ?_)
            refine A_iincN (ls1 := [_, _, _, _, _]) dX10_round_64 rfl (by decide) rfl rfl ?_
            refine A_goto (tgt := 49) dX10_round_67 (by decide) ?_
            refine ih (l + 1) (by omega) (by omega) (by omega) (fun m y1 y2 => ?_)
            by_cases e : m = l
            · subst e
              exact z
            · exact hmin m y1 (by omega)
    have fill : ∀ (q i : Nat) (μ1 : MI), 2001 - i < q → i ≤ 2001 → Mk μ μ1 → RM 1 i 0 (runP c plP i) μ1 → (∀ t, t < i → KP t (runP c plP t) μ1 ∧ ∀ b, b < 8 → sD (runP c plP t) b ≤ 20) → AW mX10_round (4, none) P 21 [some (.ref 75), some (.int what), some (.int (nI i)), none, none] [] μ1 ν := by
      intro q
      induction q with
      | zero => intro i μ1 h; omega
      | succ q ih =>
        intro i μ1 hq hi hM hR hSN
        refine A_iload_n dX10_round_21 rfl ?_
        refine A_sipush (v := nI 2000) dX10_round_22 (by decide +kernel) ?_
        refine A_icmp_gtN (tgt := 47) dX10_round_25 (by decide) (by omega) (by omega) (fun b25 => ?_) (fun b25 => ?_)
        · refine A_iconst (v := nI 1) dX10_round_47 (by decide +kernel) ?_
          refine A_istore_n (ls1 := [_, _, _, _, _]) dX10_round_48 (by decide) rfl rfl ?_
          exact least μ1 hM (fun t ht => hSN t (by omega)) 1001 1 (by omega) (by omega) (by omega) (fun m y1 y2 => by omega)
        · refine A_aload_n dX10_round_28 rfl ?_
          refine A_iload_n dX10_round_29 rfl ?_
          refine A_callV1 dX10_round_30 mlX10_187 (by decide) rfl rfl (Nat.le_of_ble_eq_true rfl) (m_keep b25 hR (fun μ2 k1 k2 => ?_))
          refine Kn.v ?_
          refine A_aload_n dX10_round_33 rfl ?_
          refine A_iconst (v := nI 1) dX10_round_34 (by decide +kernel) ?_
          refine A_iload_n dX10_round_35 rfl ?_
          refine A_iconst (v := nI 1) dX10_round_36 (by decide +kernel) ?_
          refine A_callV3 dX10_round_37 mlX10_173 (by decide) rfl rfl (Nat.le_of_ble_eq_true rfl) (m_step (g := 1) (nI 1) (Or.inr rfl) (by omega) hC ((hc.mk hM).mk (Mk.fk k2)) (((hB.mk hM).mk (Mk.fk k2)).tm (nI 1)) rfl (hR.fk k2) (GC_run hC i) (GD_run i) (fun μ3 k3 k4 => ?_))
          refine Kn.s ?_
          refine A_istore_n (ls1 := [_, _, _, _, _]) dX10_round_40 (by decide) rfl rfl ?_
          refine A_iincN (ls1 := [_, _, _, _, _]) dX10_round_41 rfl (by decide) rfl rfl ?_
          refine A_goto (tgt := 21) dX10_round_44 (by decide) ?_
          refine A_weak (ih (i + 1) μ3 (by omega) (by omega) ((hM.tr (Mk.fk k2)).tr (Mk.mr k4)) k3 (fun t ht => ?_)) (by repeat first | exact fw_0 | refine fw_s ?_ | refine fw_n ?_)
          by_cases e : t = i
          · subst e
            refine ⟨fun b hb => ?_, run_D20 hR⟩
            obtain ⟨s1, s2, s3⟩ := k1 b hb
            rw [k4.far (by omega), k4.far (by omega)]
            refine ⟨s1, s2, fun k hk => ?_⟩
            rw [k4.far (by omega)]
            exact s3 k hk
          · obtain ⟨h5, h6⟩ := hSN t (by omega)
            refine ⟨fun b hb => ?_, h6⟩
            obtain ⟨s1, s2, s3⟩ := h5 b hb
            rw [k4.far (by omega), k4.far (by omega), k2 _ _ (by omega), k2 _ _ (by omega)]
            refine ⟨s1, s2, fun k hk => ?_⟩
            rw [k4.far (by omega), k2 _ _ (by omega)]
            exact s3 k hk
    refine A_aload_n dX10_round_14 rfl ?_
    refine A_iconst (v := nI 1) dX10_round_15 (by decide +kernel) ?_
    refine A_callV1 dX10_round_16 mlX10_177 (by decide) rfl rfl (Nat.le_of_ble_eq_true rfl) (m_begin (g := 1) (Or.inr rfl) (fun μ1 q1 q2 => ?_))
    refine Kn.v ?_
    refine A_iconst (v := nI 0) dX10_round_19 (by decide +kernel) ?_
    refine A_istore_n (ls1 := [_, _, _, _, _]) dX10_round_20 (by decide) rfl rfl ?_
    exact fill 2002 0 μ1 (by omega) (by omega) (Mk.mr q2) (RM.one q1) (fun t ht => by omega)
  refine A_iload_n dX10_round_0 rfl ?_
  refine A_i2l dX10_round_1 ?_
  refine A_lconst (v := 0) dX10_round_2 rfl ?_
  refine A_lconst (v := 1) dX10_round_3 rfl ?_
  refine A_callS3 dX10_round_4 mlX10_95 (by decide) (Nat.le_of_ble_eq_true rfl) (m_in what (nI 0) (nI 1) rfl (by decide +kernel) (by decide +kernel) (fun g1 g2 => ?_) (fun g3 => ?_))
  · refine Kn.s ?_
    refine A_if_ne (tgt := 14) dX10_round_7 (by decide) (fun _ => ?_) (fun h => absurd h (by decide +kernel))
    exact main g1 g2
  · refine Kn.s ?_
    refine A_if_ne (tgt := 14) dX10_round_7 (by decide) (fun h => absurd h (by decide +kernel)) (fun _ => ?_)
    refine A_sipush (v := (-1002)) dX10_round_10 (by decide +kernel) ?_
    refine A_iret dX10_round_13 rfl rfl ?_
    exact hx g3
