/-! the reference's ticks -/
theorem pourP_K (b : Nat) (v : Int32) (S : St) : sK (pourP b v S) = sK S ∧ sL (pourP b v S) = sL S := by
  unfold pourP
  split <;> exact ⟨rfl, rfl⟩
theorem dripsP_K (c tw : MI) (t : Nat) (S : St) : ∀ k, sK (dripsP c tw t k S) = sK S ∧ sL (dripsP c tw t k S) = sL S
  | 0 => ⟨rfl, rfl⟩
  | k + 1 => by
    have ih := dripsP_K c tw t S k
    rw [dripsP, dripP]
    split
    · rw [(pourP_K _ _ _).1, (pourP_K _ _ _).2]
      exact ih
    · exact ih
theorem pipesP_K (S : St) : ∀ k, sK (pipesP k S) = sK S ∧ sL (pipesP k S) = sL S
  | 0 => ⟨rfl, rfl⟩
  | k + 1 => by
    have ih := pipesP_K S k
    rw [pipesP]
    show sK (pourP _ _ _) = _ ∧ sL (pourP _ _ _) = _
    rw [(pourP_K _ _ _).1, (pourP_K _ _ _).2]
    exact ih
theorem driesP_K (S : St) : ∀ k, sK (driesP k S) = sK S ∧ sL (driesP k S) = sL S
  | 0 => ⟨rfl, rfl⟩
  | k + 1 => by
    have ih := driesP_K S k
    rw [driesP, dryP]
    split <;> exact ih
theorem wateredP_K (c tw : MI) (t : Nat) (S : St) : sK (wateredP c tw t S) = sK S ∧ sL (wateredP c tw t S) = sL S := by
  unfold wateredP
  split
  · rw [(driesP_K _ _).1, (driesP_K _ _).2, (pipesP_K _ _).1, (pipesP_K _ _).2]
    exact dripsP_K c tw t S _
  · rw [(pipesP_K _ _).1, (pipesP_K _ _).2]
    exact dripsP_K c tw t S _
theorem fallP_K (c tw : MI) (b : Nat) (S : St) : sK (fallP c tw b S) = sK S ∧ sL (fallP c tw b S) = sL S := by
  unfold fallP
  split <;> exact ⟨rfl, rfl⟩
theorem turnP_K (c tw : MI) (t b : Nat) (S : St) (a : Nat) : sK (turnP c tw t b S) a = (if a = b ∧ knB c tw b S = true then sK S a + 1 else sK S a) ∧ sL (turnP c tw t b S) a = (if a = b ∧ knB c tw b S = true then nI t else sL S a) := by
  unfold turnP
  split
  · next h =>
    have : ¬ knB c tw b S = true := by
      unfold knB
      rw [decide_eq_false (by omega), Bool.false_and]
      decide
    rw [if_neg (fun q => this q.2), if_neg (fun q => this q.2)]
    exact ⟨rfl, rfl⟩
  · split
    · next h =>
      by_cases e : a = b
      · subst e
        rw [if_pos ⟨rfl, h⟩, if_pos ⟨rfl, h⟩]
        show un (sK (fallP c tw a S)) a (sK (fallP c tw a S) a + 1) a = _ ∧ un (sL (fallP c tw a S)) a (nI t) a = _
        rw [un_s, un_s, (fallP_K c tw a S).1]
        exact ⟨rfl, rfl⟩
      · rw [if_neg (fun q => e q.1), if_neg (fun q => e q.1)]
        show un (sK (fallP c tw b S)) b (sK (fallP c tw b S) b + 1) a = _ ∧ un (sL (fallP c tw b S)) b (nI t) a = _
        rw [un_n _ _ e, un_n _ _ e, (fallP_K c tw b S).1, (fallP_K c tw b S).2]
        exact ⟨rfl, rfl⟩
    · next h =>
      rw [if_neg (fun q => h q.2), if_neg (fun q => h q.2)]
      exact ⟨rfl, rfl⟩
theorem turnsP_K (c tw : MI) (t : Nat) (W : St) (a : Nat) : ∀ k, sK (turnsP c tw t k W) a = (if a < k ∧ knB c tw a (turnsP c tw t a W) = true then sK W a + 1 else sK W a) ∧ sL (turnsP c tw t k W) a = (if a < k ∧ knB c tw a (turnsP c tw t a W) = true then nI t else sL W a)
  | 0 => by
    rw [if_neg (fun q => by omega), if_neg (fun q => by omega)]
    exact ⟨rfl, rfl⟩
  | k + 1 => by
    obtain ⟨i1, i2⟩ := turnsP_K c tw t W a k
    obtain ⟨h1, h2⟩ := turnP_K c tw t k (turnsP c tw t k W) a
    rw [turnsP, h1, h2, i1, i2]
    by_cases e : a = k
    · subst e
      rw [if_neg (show ¬ (a < a ∧ _) from fun q => Nat.lt_irrefl a q.1), if_neg (show ¬ (a < a ∧ _) from fun q => Nat.lt_irrefl a q.1)]
      by_cases q : knB c tw a (turnsP c tw t a W) = true
      · have p1 : a = a ∧ knB c tw a (turnsP c tw t a W) = true := ⟨rfl, q⟩
        have p2 : a < a + 1 ∧ knB c tw a (turnsP c tw t a W) = true := ⟨Nat.lt_succ_self a, q⟩
        rw [if_pos p1, if_pos p1, if_pos p2, if_pos p2]
        exact ⟨rfl, rfl⟩
      · rw [if_neg (fun z => q z.2), if_neg (fun z => q z.2), if_neg (fun z => q z.2), if_neg (fun z => q z.2)]
        exact ⟨rfl, rfl⟩
    · rw [if_neg (show ¬ (a = k ∧ _) from fun q => e q.1), if_neg (show ¬ (a = k ∧ _) from fun q => e q.1)]
      by_cases q : a < k ∧ knB c tw a (turnsP c tw t a W) = true
      · rw [if_pos q, if_pos q, if_pos ⟨by omega, q.2⟩, if_pos ⟨by omega, q.2⟩]
        exact ⟨rfl, rfl⟩
      · rw [if_neg q, if_neg q, if_neg (fun z => q ⟨by omega, z.2⟩), if_neg (fun z => q ⟨by omega, z.2⟩)]
        exact ⟨rfl, rfl⟩
theorem stepP_K (c tw : MI) (t : Nat) (S : St) (a : Nat) : sK (stepP c tw t S) a = (if a < N (c 2 0) ∧ setP c tw t S a = true then sK S a + 1 else sK S a) ∧ sL (stepP c tw t S) a = (if a < N (c 2 0) ∧ setP c tw t S a = true then nI t else sL S a) := by
  have h := turnsP_K c tw t (wateredP c tw t S) a (N (c 2 0))
  rw [(wateredP_K c tw t S).1, (wateredP_K c tw t S).2] at h
  exact h
theorem sumI_bits (f : Nat → Int32) (K : Nat → Bool) (n : Nat) : ∀ m, sumI (fun b => if b < n ∧ K b = true then f b + 1 else f b) m = sumI f m + nI (cntB (fun b => decide (b < n) && K b) m)
  | 0 => by simp [sumI, cntB]; rfl
  | m + 1 => by
    rw [sumI, sumI_bits f K n m, sumI, cntB]
    by_cases q : m < n ∧ K m = true
    · rw [if_pos q, if_pos (by rw [decide_eq_true q.1, q.2]; rfl), ← nI_1]
      rw [Int32.add_assoc, Int32.add_assoc, ← Int32.add_assoc (nI _) (f m) 1, Int32.add_comm (nI _) (f m), Int32.add_assoc]
    · rw [if_neg q, if_neg (by simpa using q), Nat.add_zero]
      rw [Int32.add_assoc, Int32.add_comm (nI _) (f m), Int32.add_assoc]
theorem sumK_step {c tw : MI} (hC : WC c) (t : Nat) (S : St) : sumI (sK (stepP c tw t S)) 8 = sumI (sK S) 8 + nI (cntB (setP c tw t S) (N (c 2 0))) := by
  have hnb := hC.1.1.2
  have e : sK (stepP c tw t S) = fun b => if b < N (c 2 0) ∧ setP c tw t S b = true then sK S b + 1 else sK S b := funext (fun a => (stepP_K c tw t S a).1)
  have e2 := cntB_ext (setP c tw t S) (N (c 2 0)) (8 - N (c 2 0))
  rw [show N (c 2 0) + (8 - N (c 2 0)) = 8 by omega] at e2
  rw [e, sumI_bits, e2]
theorem sumK_adv {c tw : MI} (hC : WC c) (t : Nat) (S : St) : ∀ n, sumI (sK (advP c tw t S n)) 8 = sumI (sK S) 8 + nI (cntP c tw t S n)
  | 0 => by rw [advP, cntP]; show _ = _ + (0 : Int32); rw [i32_add0]
  | n + 1 => by rw [advP, sumK_step hC, sumK_adv hC t S n, cntP, Int32.add_assoc, nI_add]
theorem GD_adv {c tw : MI} {t : Nat} {S : St} (h : GD (N (c 2 0)) S) : ∀ n, GD (N (c 2 0)) (advP c tw t S n)
  | 0 => h
  | n + 1 => GD_step (GD_adv h n)
/-- what a tick changes besides the garden -/
def Mt (μ μ' : MI) : Prop := ∀ a j, ¬ (a = 92 ∨ a = 93) → ¬ (a = 75 ∧ (j = 21 ∨ j = 22)) → μ' a j = μ a j
theorem Mt.tr {μ μ' μ'' : MI} (h : Mt μ μ') (h2 : Mt μ' μ'') : Mt μ μ'' := fun a j q1 q2 => (h2 a j q1 q2).trans (h a j q1 q2)
/-- what goes on in the first garden -/
def Ml (μ μ' : MI) : Prop := ∀ a j, ¬ ((a = 89 ∨ a = 90) ∧ j < 8) → ¬ (a = 91 ∧ j < 168) → ¬ (a = 75 ∧ 21 ≤ j ∧ j ≤ 25) → ¬ (a = 92 ∨ a = 93) → μ' a j = μ a j
theorem Ml.rf {μ : MI} : Ml μ μ := fun _ _ _ _ _ _ => rfl
theorem Ml.tr {μ μ' μ'' : MI} (h : Ml μ μ') (h2 : Ml μ' μ'') : Ml μ μ'' := fun a j q1 q2 q3 q4 => (h2 a j q1 q2 q3 q4).trans (h a j q1 q2 q3 q4)
theorem Ml.mr {μ μ' : MI} (h : Mr 0 μ μ') : Ml μ μ' := fun a j q1 q2 q3 q4 => h a j (by omega) (by omega) (by omega)
theorem Ml.mt {μ μ' : MI} (h : Mt μ μ') : Ml μ μ' := fun a j q1 q2 q3 q4 => h a j q4 (by omega)
theorem CM.ml {c μ μ' : MI} (hc : CM c μ) (h : Ml μ μ') : CM c μ' := by
  have m : ∀ j, j < 21 → μ' 75 j = μ 75 j := fun j hj => h 75 j (by omega) (by omega) (by omega) (by omega)
  have f : ∀ a j, 76 ≤ a → a ≤ 88 → μ' a j = μ a j := fun a j h1 h2 => h a j (by omega) (by omega) (by omega) (by omega)
  refine ⟨⟨?_, ?_, ?_, ?_, ?_⟩, fun b hb => ?_, fun s hs => ?_, fun k hk => ?_, fun k hk => ?_⟩
  · rw [m _ (by omega)]; exact hc.1.1
  · rw [m _ (by omega)]; exact hc.1.2.1
  · rw [m _ (by omega)]; exact hc.1.2.2.1
  · rw [m _ (by omega)]; exact hc.1.2.2.2.1
  · rw [m _ (by omega)]; exact hc.1.2.2.2.2
  · rw [f _ _ (by omega) (by omega), f _ _ (by omega) (by omega), f _ _ (by omega) (by omega), f _ _ (by omega) (by omega)]; exact hc.2.1 b hb
  · rw [f _ _ (by omega) (by omega), f _ _ (by omega) (by omega), f _ _ (by omega) (by omega), f _ _ (by omega) (by omega)]; exact hc.2.2.1 s hs
  · rw [f _ _ (by omega) (by omega), f _ _ (by omega) (by omega), f _ _ (by omega) (by omega)]; exact hc.2.2.2.1 k hk
  · rw [f _ _ (by omega) (by omega), f _ _ (by omega) (by omega)]; exact hc.2.2.2.2 k hk
theorem RM.ext {g t k : Nat} {S : St} {μ μ' : MI} (h : RM g t k S μ) (e : ∀ a, 89 ≤ a → a ≤ 91 → ∀ j, μ' a j = μ a j) (e2 : ∀ j, 23 ≤ j → j ≤ 25 → μ' 75 j = μ 75 j) : RM g t k S μ' :=
  ⟨h.1.ext e, fun q => ⟨(e2 23 (by omega) (by omega)).trans (h.2 q).1, (e2 24 (by omega) (by omega)).trans (h.2 q).2.1, (e2 25 (by omega) (by omega)).trans (h.2 q).2.2⟩⟩
theorem RM.mt {g t k : Nat} {S : St} {μ μ' : MI} (h : RM g t k S μ) (e : Mt μ μ') : RM g t k S μ' :=
  h.ext (fun a h1 h2 j => e a j (by omega) (by omega)) (fun j h1 h2 => e 75 j (by omega) (by omega))
theorem bit_at (K : Nat → Bool) {n j : Nat} (hj : j < n) (hn : n ≤ 8) : ((nI (bitsN K n) >>> (nI j &&& 31)) &&& nI 1) = nI (bN (K j)) := by
  rw [sshr_bit _ hn (by omega)]
  unfold bN
  congr 1
  by_cases h : K j = true
  · rw [if_pos ⟨hj, h⟩, if_pos h]
  · rw [if_neg (fun z => h z.2), if_neg h]
/-- the reference's first garden at tick t holds S -/
def LV (t : Nat) (S : St) (μ : MI) : Prop := RM 0 t 0 S μ ∧ μ 75 21 = nI t ∧ ∀ b, b < 8 → μ 92 b = sK S b ∧ μ 93 b = sL S b
theorem m_tick (n : Int32) {t : Nat} (ht : t ≤ 2000) {S : St} {c μ : MI} {ν : ML} {P : Po} (hC : WC c) (hc : CM c μ) (hL : LV t S μ) (hG : GC (N (c 2 0)) S) (hD : GD (N (c 2 0)) S) (ho : ¬ (nI 0 ≤ n ∧ n ≤ nI 200) → P (some (.int (-1002))) μ ν) (hn : ∀ k, n = nI k → k ≤ 200 → 2000 < t + k → P (some (.int (-1003))) μ ν) (ha : ∀ k μ', n = nI k → k ≤ 200 → t + k ≤ 2000 → LV (t + k) (advP c zeP t S k) μ' → μ' 75 22 = μ 75 22 + nI (cntP c zeP t S k) → Ml μ μ' → P (some (.int (nI (cntP c zeP t S k)))) μ' ν) : Ct mX10_tick 4 [.ref 75, .int n] μ ν P := by
  refine Ct.of (ls0 := [_, _, _, _, _, _]) (by decide) rfl (Nat.le_of_ble_eq_true rfl) rfl ?_
  have hnb := hC.1.1
  have hnb2 := hnb.2
  have main : ∀ (k : Nat), n = nI k → k ≤ 200 → t + k ≤ 2000 → AW mX10_tick (4, none) P 37 [some (.ref 75), some (.int (nI k)), some (.int (μ 75 22)), none, none, none] [] μ ν := by
    intro k hk hk2 htk
    have ha := ha k
    have inner : ∀ (i : Nat) (S1 : St) (μ0 : MI), i < k → CM c μ0 → (∀ b, b < 8 → μ0 92 b = sK S1 b ∧ μ0 93 b = sL S1 b) → μ0 75 21 = nI (t + i) → (∀ μ1, Mt μ0 μ1 → (∀ b, b < 8 → μ1 92 b = sK (stepP c zeP (t + i) S1) b ∧ μ1 93 b = sL (stepP c zeP (t + i) S1) b) → μ1 75 21 = nI (t + i + 1) → μ1 75 22 = μ0 75 22 + nI (cntB (setP c zeP (t + i) S1) (N (c 2 0))) → AW mX10_tick (4, none) P 39 [some (.ref 75), some (.int (nI k)), some (.int (μ 75 22)), some (.int (nI (i + 1))), none, none] [] μ1 ν) → ∀ (q j : Nat) (μ1 : MI), N (c 2 0) - j < q → j ≤ N (c 2 0) → Mt μ0 μ1 → (∀ b, b < 8 → μ1 92 b = (if b < j ∧ setP c zeP (t + i) S1 b = true then sK S1 b + 1 else sK S1 b) ∧ μ1 93 b = (if b < j ∧ setP c zeP (t + i) S1 b = true then nI (t + i) else sL S1 b)) → μ1 75 21 = nI (t + i) → μ1 75 22 = μ0 75 22 + nI (cntB (setP c zeP (t + i) S1) j) → AW mX10_tick (4, none) P 59 [some (.ref 75), some (.int (nI k)), some (.int (μ 75 22)), some (.int (nI i)), some (.int (nI (bitsN (setP c zeP (t + i) S1) (N (c 2 0))))), some (.int (nI j))] [] μ1 ν := by
      intro i S1 μ0 hi hc0 hK0 h210 hex q
      induction q with
      | zero => intro j μ1 h; omega
      | succ q ih =>
        intro j μ1 hq hj hM h1 h21 h22
        have hb0 : μ1 75 0 = nI (N (c 2 0)) := (hM 75 0 (by omega) (by omega)).trans (hc0.1.1.trans hnb.1)
        refine A_iload dX10_tick_59 rfl ?_
        refine A_aload_n dX10_tick_61 rfl ?_
        refine A_getI dX10_tick_62 flX10_92 rfl rfl ?_
        rw [hb0]
        refine A_icmp_geN (tgt := 117) dX10_tick_65 (by decide) (by omega) (by omega) (fun b65 => ?_) (fun b65 => ?_)
        · rw [show j = N (c 2 0) by omega] at h1 h22
          refine A_aload_n dX10_tick_117 rfl ?_
          refine A_dup dX10_tick_118 rfl ?_
          refine A_getI dX10_tick_119 flX10_162 rfl rfl ?_
          rw [h21]
          refine A_iconst (v := nI 1) dX10_tick_122 (by decide +kernel) ?_
          refine A_iaddN dX10_tick_123 ?_
          refine A_put dX10_tick_124 fpX10_162 rfl rfl rfl rfl ?_
          refine A_iincN (ls1 := [_, _, _, _, _, _]) dX10_tick_127 rfl (by decide) rfl rfl ?_
          refine A_goto (tgt := 39) dX10_tick_130 (by decide) ?_
          refine A_weak (hex _ (hM.tr (fun a b q1 q2 => up2_ne _ _ (by omega))) (fun b hb => ?_) (up2_s _ _ _ _) ?_) (by repeat first | exact fw_0 | refine fw_s ?_ | refine fw_n ?_)
          · rw [up2_a _ _ (by omega), up2_a _ _ (by omega), (stepP_K c zeP (t + i) S1 b).1, (stepP_K c zeP (t + i) S1 b).2]
            exact h1 b hb
          · rw [up2_b _ _ (by omega)]
            exact h22
        · refine A_iload dX10_tick_68 rfl ?_
          refine A_iload dX10_tick_70 rfl ?_
          refine A_ishr dX10_tick_72 ?_
          refine A_iconst (v := nI 1) dX10_tick_73 (by decide +kernel) ?_
          refine A_iand dX10_tick_74 ?_
          rw [bit_at _ b65 hnb2]
          refine A_iconst (v := nI 1) dX10_tick_75 (by decide +kernel) ?_
          refine A_icmp_neN (tgt := 111) dX10_tick_76 (by decide) (Nat.lt_of_le_of_lt (bN_le _) (by decide)) (by decide) (fun b76 => ?_) (fun b76 => ?_)
          · refine A_iincN (ls1 := [_, _, _, _, _, _]) dX10_tick_111 rfl (by decide) rfl rfl ?_
            refine A_goto (tgt := 59) dX10_tick_114 (by decide) ?_
            have hf : setP c zeP (t + i) S1 j = false := by
              cases e : setP c zeP (t + i) S1 j with
              | false => rfl
              | true => exact absurd (by rw [e]; rfl) b76
            refine ih (j + 1) μ1 (by omega) (by omega) hM (fun b hb => ?_) h21 (by rw [h22, cntB, hf]; rfl)
            obtain ⟨k1, k2⟩ := h1 b hb
            rw [k1, k2]
            by_cases e : b = j
            · subst e
              have p1 : ¬ (b < b ∧ setP c zeP (t + i) S1 b = true) := fun z => Nat.lt_irrefl b z.1
              have p2 : ¬ (b < b + 1 ∧ setP c zeP (t + i) S1 b = true) := fun z => by rw [hf] at z; cases z.2
              rw [if_neg p1, if_neg p1, if_neg p2, if_neg p2]
              exact ⟨rfl, rfl⟩
            · by_cases z : b < j ∧ setP c zeP (t + i) S1 b = true
              · rw [if_pos z, if_pos z, if_pos ⟨by omega, z.2⟩, if_pos ⟨by omega, z.2⟩]
                exact ⟨rfl, rfl⟩
              · rw [if_neg z, if_neg z, if_neg (fun y => z ⟨by omega, y.2⟩), if_neg (fun y => z ⟨by omega, y.2⟩)]
                exact ⟨rfl, rfl⟩
          · refine A_aload_n dX10_tick_79 rfl ?_
            refine A_dup dX10_tick_80 rfl ?_
            refine A_getI dX10_tick_81 flX10_168 rfl rfl ?_
            refine A_iconst (v := nI 1) dX10_tick_84 (by decide +kernel) ?_
            refine A_iadd dX10_tick_85 ?_
            refine A_put dX10_tick_86 fpX10_168 rfl rfl rfl rfl ?_
            refine A_aload_n dX10_tick_89 rfl ?_
            refine A_getR dX10_tick_90 flX10_58 rfl rfl ?_
            refine A_iload dX10_tick_93 rfl ?_
            refine A_dup2 dX10_tick_95 rfl rfl ?_
            refine A_ialdN (j := j) dX10_tick_96 rfl rfl (by omega) (by decide) ?_
            simp (disch := omega) only [up2_a]
            refine A_iconst (v := nI 1) dX10_tick_97 (by decide +kernel) ?_
            refine A_iadd dX10_tick_98 ?_
            refine A_iastN (j := j) dX10_tick_99 rfl rfl (by omega) (by decide) ?_
            refine A_aload_n dX10_tick_100 rfl ?_
            refine A_getR dX10_tick_101 flX10_61 rfl rfl ?_
            refine A_iload dX10_tick_104 rfl ?_
            refine A_aload_n dX10_tick_106 rfl ?_
            refine A_getI dX10_tick_107 flX10_162 rfl rfl ?_
            simp (disch := omega) only [up2_a, up2_b, h21]
            refine A_iastN (j := j) dX10_tick_110 rfl rfl (by omega) (by decide) ?_
            refine A_iincN (ls1 := [_, _, _, _, _, _]) dX10_tick_111 rfl (by decide) rfl rfl ?_
            refine A_goto (tgt := 59) dX10_tick_114 (by decide) ?_
            have hf : setP c zeP (t + i) S1 j = true := bN_1 b76
            refine ih (j + 1) _ (by omega) (by omega) (((hM.tr (fun a b q1 q2 => up2_ne _ _ (by omega))).tr (fun a b q1 q2 => up2_ne _ _ (by omega))).tr (fun a b q1 q2 => up2_ne _ _ (by omega))) (fun b hb => ?_) ?_ ?_
            · obtain ⟨k1, k2⟩ := h1 b hb
              by_cases e : b = j
              · subst e
                simp (disch := omega) only [up2_a, up2_s]
                rw [k1, if_neg (fun z => by omega), if_pos ⟨Nat.lt_succ_self b, hf⟩, if_pos ⟨Nat.lt_succ_self b, hf⟩]
                exact ⟨rfl, rfl⟩
              · simp (disch := omega) only [up2_a, up2_b]
                rw [k1, k2]
                by_cases z : b < j ∧ setP c zeP (t + i) S1 b = true
                · rw [if_pos z, if_pos z, if_pos ⟨by omega, z.2⟩, if_pos ⟨by omega, z.2⟩]
                  exact ⟨rfl, rfl⟩
                · rw [if_neg z, if_neg z, if_neg (fun y => z ⟨by omega, y.2⟩), if_neg (fun y => z ⟨by omega, y.2⟩)]
                  exact ⟨rfl, rfl⟩
            · simp (disch := omega) only [up2_a, up2_b]
              exact h21
            · simp (disch := omega) only [up2_a, up2_s]
              rw [h22, cntB, hf, if_pos rfl, Int32.add_assoc, nI_add]
    have loop : ∀ (q i : Nat) (μ1 : MI), k - i < q → i ≤ k → LV (t + i) (advP c zeP t S i) μ1 → μ1 75 22 = μ 75 22 + nI (cntP c zeP t S i) → Ml μ μ1 → AW mX10_tick (4, none) P 39 [some (.ref 75), some (.int (nI k)), some (.int (μ 75 22)), some (.int (nI i)), none, none] [] μ1 ν := by
      intro q
      induction q with
      | zero => intro i μ1 h; omega
      | succ q ih =>
        intro i μ1 hq hi hL1 h22 hM
        refine A_iload_n dX10_tick_39 rfl ?_
        refine A_iload_n dX10_tick_40 rfl ?_
        refine A_icmp_geN (tgt := 133) dX10_tick_41 (by decide) (by omega) (by omega) (fun b41 => ?_) (fun b41 => ?_)
        · refine A_aload_n dX10_tick_133 rfl ?_
          refine A_getI dX10_tick_134 flX10_168 rfl rfl ?_
          refine A_iload_n dX10_tick_137 rfl ?_
          refine A_isub dX10_tick_138 ?_
          refine A_iret dX10_tick_139 rfl rfl ?_
          rw [show i = k by omega] at hL1 h22
          have h9 := ha μ1 hk hk2 htk hL1 h22 hM
          rw [h22, Int32.add_comm, show ∀ x y : Int32, x + y - y = x from fun x y => by simp]
          exact h9
        · refine A_aload_n dX10_tick_44 rfl ?_
          refine A_iconst (v := nI 0) dX10_tick_45 (by decide +kernel) ?_
          refine A_aload_n dX10_tick_46 rfl ?_
          refine A_getI dX10_tick_47 flX10_162 rfl rfl ?_
          rw [hL1.2.1]
          refine A_iconst (v := nI 0) dX10_tick_50 (by decide +kernel) ?_
          refine A_callV3 dX10_tick_51 mlX10_173 (by decide) rfl rfl (Nat.le_of_ble_eq_true rfl) (m_step (g := 0) (nI 0) (Or.inl rfl) (by omega) hC (hc.ml hM) (TM.g0 (nI 0) μ1) rfl hL1.1 (GC_adv hC hG i) (GD_adv hD i) (fun μ2 q1 q2 => ?_))
          refine Kn.s ?_
          refine A_istore (ls1 := [_, _, _, _, _, _]) dX10_tick_54 (by decide) rfl rfl ?_
          refine A_iconst (v := nI 0) dX10_tick_56 (by decide +kernel) ?_
          refine A_istore (ls1 := [_, _, _, _, _, _]) dX10_tick_57 (by decide) rfl rfl ?_
          have h212 : μ2 75 21 = nI (t + i) := (q2.m (by omega)).trans hL1.2.1
          have h222 : μ2 75 22 = μ 75 22 + nI (cntP c zeP t S i) := (q2.m (by omega)).trans h22
          refine inner i (advP c zeP t S i) μ2 b41 ((hc.ml hM).mr q2) (fun b hb => ?_) h212 (fun μ3 k1 k2 k3 k4 => ?_) (N (c 2 0) + 1) 0 μ2 (by omega) (by omega) (fun _ _ _ _ => rfl) (fun b hb => ?_) h212 ?_
          · rw [q2.far (by omega), q2.far (by omega)]
            exact hL1.2.2 b hb
          · refine ih (i + 1) μ3 (by omega) (by omega) ⟨q1.mt k1, k3, k2⟩ ?_ ((hM.tr (Ml.mr q2)).tr (Ml.mt k1))
            rw [k4, h222, cntP, Int32.add_assoc, nI_add]
          · rw [if_neg (fun z => by omega), if_neg (fun z => by omega), q2.far (by omega), q2.far (by omega)]
            exact hL1.2.2 b hb
          · rw [cntB]
            exact (i32_add0 _).symm
    refine A_iconst (v := nI 0) dX10_tick_37 (by decide +kernel) ?_
    refine A_istore_n (ls1 := [_, _, _, _, _, _]) dX10_tick_38 (by decide) rfl rfl ?_
    exact loop (k + 1) 0 μ (by omega) (by omega) hL (i32_add0 _).symm Ml.rf
  refine A_iload_n dX10_tick_0 rfl ?_
  refine A_i2l dX10_tick_1 ?_
  refine A_lconst (v := 0) dX10_tick_2 rfl ?_
  refine A_ldc2 dX10_tick_3 kcX10_171 ?_
  refine A_callS3 dX10_tick_6 mlX10_95 (by decide) (Nat.le_of_ble_eq_true rfl) (m_in n (nI 0) (nI 200) rfl (by decide +kernel) (by decide +kernel) (fun g1 g2 => ?_) (fun g3 => ?_))
  · refine Kn.s ?_
    refine A_if_ne (tgt := 16) dX10_tick_9 (by decide) (fun _ => ?_) (fun h => absurd h (by decide +kernel))
    obtain ⟨k, hk, rfl⟩ := nI_of2 (M := nI 200) (n := 200) rfl (i_le_n g1) g2
    refine A_aload_n dX10_tick_16 rfl ?_
    refine A_getI dX10_tick_17 flX10_162 rfl rfl ?_
    rw [hL.2.1]
    refine A_iload_n dX10_tick_20 rfl ?_
    refine A_iadd dX10_tick_21 ?_
    rw [nI_add]
    refine A_sipush (v := nI 2000) dX10_tick_22 (by decide +kernel) ?_
    refine A_icmp_leN (tgt := 32) dX10_tick_25 (by decide) (by omega) (by omega) (fun b25 => ?_) (fun b25 => ?_)
    · refine A_aload_n dX10_tick_32 rfl ?_
      refine A_getI dX10_tick_33 flX10_168 rfl rfl ?_
      refine A_istore_n (ls1 := [_, _, _, _, _, _]) dX10_tick_36 (by decide) rfl rfl ?_
      exact main k rfl hk (by omega)
    · refine A_sipush (v := (-1003)) dX10_tick_28 (by decide +kernel) ?_
      refine A_iret dX10_tick_31 rfl rfl ?_
      exact hn k rfl hk (by omega)
  · refine Kn.s ?_
    refine A_if_ne (tgt := 16) dX10_tick_9 (by decide) (fun h => absurd h (by decide +kernel)) (fun _ => ?_)
    refine A_sipush (v := (-1002)) dX10_tick_12 (by decide +kernel) ?_
    refine A_iret dX10_tick_15 rfl rfl ?_
    exact ho g3
theorem m_again {t : Nat} {μ : MI} {ν : ML} {P : Po} (hn : μ 75 21 = nI t) (ha : ∀ μ', LV 0 S0 μ' → μ' 75 22 = 0 → Ml μ μ' → P (some (.int (nI t))) μ' ν) : Ct mX10_again 2 [.ref 75] μ ν P := by
  refine Ct.of (ls0 := [_, _, _]) (by decide) rfl (Nat.le_of_ble_eq_true rfl) rfl ?_
  have loop : ∀ (q i : Nat) (μ1 : MI), 8 - i < q → i ≤ 8 → RM 0 0 0 S0 μ1 → μ1 75 21 = nI 0 → μ1 75 22 = 0 → (∀ b, b < i → μ1 92 b = 0 ∧ μ1 93 b = -1) → Ml μ μ1 → AW mX10_again (2, none) P 37 [some (.ref 75), some (.int (nI t)), some (.int (nI i))] [] μ1 ν := by
    intro q
    induction q with
    | zero => intro i μ1 h; omega
    | succ q ih =>
      intro i μ1 hq hi hR h21 h22 h1 hM
      refine A_iload_n dX10_again_37 rfl ?_
      refine A_bipush (v := nI 8) dX10_again_38 (by decide +kernel) ?_
      refine A_icmp_geN (tgt := 63) dX10_again_40 (by decide) (by omega) (by omega) (fun b40 => ?_) (fun b40 => ?_)
      · refine A_iload_n dX10_again_63 rfl ?_
        refine A_iret dX10_again_64 rfl rfl ?_
        exact ha μ1 ⟨hR, h21, fun b hb => h1 b (by omega)⟩ h22 hM
      · refine A_aload_n dX10_again_43 rfl ?_
        refine A_getR dX10_again_44 flX10_58 rfl rfl ?_
        refine A_iload_n dX10_again_47 rfl ?_
        refine A_iconst (v := nI 0) dX10_again_48 (by decide +kernel) ?_
        refine A_iastN (j := i) dX10_again_49 rfl rfl (by omega) (by decide) ?_
        refine A_aload_n dX10_again_50 rfl ?_
        refine A_getR dX10_again_51 flX10_61 rfl rfl ?_
        refine A_iload_n dX10_again_54 rfl ?_
        refine A_iconst (v := (-1)) dX10_again_55 (by decide +kernel) ?_
        refine A_iastN (j := i) dX10_again_56 rfl rfl (by omega) (by decide) ?_
        refine A_iincN (ls1 := [_, _, _]) dX10_again_57 rfl (by decide) rfl rfl ?_
        refine A_goto (tgt := 37) dX10_again_60 (by decide) ?_
        refine ih (i + 1) _ (by omega) (by omega) (hR.ext (fun a q1 q2 j => ?_) (fun j q1 q2 => ?_)) ?_ ?_ (fun b hb => ?_) ((hM.tr (fun a j q1 q2 q3 q4 => up2_ne _ _ (by omega))).tr (fun a j q1 q2 q3 q4 => up2_ne _ _ (by omega)))
        · rw [up2_a _ _ (by omega), up2_a _ _ (by omega)]
        · rw [up2_a _ _ (by omega), up2_a _ _ (by omega)]
        · rw [up2_a _ _ (by omega), up2_a _ _ (by omega)]
          exact h21
        · rw [up2_a _ _ (by omega), up2_a _ _ (by omega)]
          exact h22
        · by_cases e : b = i
          · subst e
            exact ⟨by rw [up2_a _ _ (by omega), up2_s]; rfl, up2_s _ _ _ _⟩
          · rw [up2_a _ _ (by omega), up2_b _ _ (by omega), up2_b _ _ (by omega), up2_a _ _ (by omega)]
            exact h1 b (by omega)
  refine A_aload_n dX10_again_0 rfl ?_
  refine A_getI dX10_again_1 flX10_162 rfl rfl ?_
  rw [hn]
  refine A_istore_n (ls1 := [_, _, _]) dX10_again_4 (by decide) rfl rfl ?_
  refine A_aload_n dX10_again_5 rfl ?_
  refine A_iconst (v := nI 0) dX10_again_6 (by decide +kernel) ?_
  refine A_callV1 dX10_again_7 mlX10_177 (by decide) rfl rfl (Nat.le_of_ble_eq_true rfl) (m_begin (g := 0) (Or.inl rfl) (fun μ1 q1 q2 => ?_))
  refine Kn.v ?_
  refine A_aload_n dX10_again_10 rfl ?_
  refine A_iconst (v := nI 0) dX10_again_11 (by decide +kernel) ?_
  refine A_put dX10_again_12 fpX10_162 rfl rfl rfl rfl ?_
  refine A_aload_n dX10_again_15 rfl ?_
  refine A_iconst (v := nI 0) dX10_again_16 (by decide +kernel) ?_
  refine A_put dX10_again_17 fpX10_168 rfl rfl rfl rfl ?_
  refine A_aload_n dX10_again_20 rfl ?_
  refine A_iconst (v := nI 0) dX10_again_21 (by decide +kernel) ?_
  refine A_put dX10_again_22 fpX10_148 rfl rfl rfl rfl ?_
  refine A_aload_n dX10_again_25 rfl ?_
  refine A_iconst (v := nI 0) dX10_again_26 (by decide +kernel) ?_
  refine A_put dX10_again_27 fpX10_141 rfl rfl rfl rfl ?_
  refine A_aload_n dX10_again_30 rfl ?_
  refine A_iconst (v := nI 0) dX10_again_31 (by decide +kernel) ?_
  refine A_put dX10_again_32 fpX10_155 rfl rfl rfl rfl ?_
  refine A_iconst (v := nI 0) dX10_again_35 (by decide +kernel) ?_
  refine A_istore_n (ls1 := [_, _, _]) dX10_again_36 (by decide) rfl rfl ?_
  refine loop 9 0 _ (by omega) (by omega) ⟨q1.ext (fun a h1 h2 j => ?_), fun _ => ⟨?_, ?_, ?_⟩⟩ ?_ ?_ (fun b hb => by omega) ((Ml.mr q2).tr (fun a j h1 h2 h3 h4 => ?_))
  · simp (disch := omega) only [up2_a]
  · simp (disch := omega) only [up2_b, up2_s]
    rfl
  · simp (disch := omega) only [up2_b, up2_s]
    rfl
  · simp (disch := omega) only [up2_b, up2_s]
    rfl
  · simp (disch := omega) only [up2_b, up2_s]
  · simp (disch := omega) only [up2_b, up2_s]
    rfl
  · rw [up2_ne _ _ (by omega), up2_ne _ _ (by omega), up2_ne _ _ (by omega), up2_ne _ _ (by omega), up2_ne _ _ (by omega)]
