/-! the ways that the reference tries -/
/-- a way of k spouts, among the ways of four -/
def wy (k x : Nat) : Nat := match k with
  | 0 => x * 625 + 312
  | 1 => x * 125 + 62
  | 2 => x * 25 + 12
  | 3 => x * 5 + 2
  | _ => x
theorem wy_lt {k x : Nat} (hk : k ≤ 4) (hx : x < 5 ^ k) : wy k x < 625 := by
  rcases (show k = 0 ∨ k = 1 ∨ k = 2 ∨ k = 3 ∨ k = 4 by omega) with rfl | rfl | rfl | rfl | rfl <;> simp only [wy] <;> omega
theorem wy_mono {k x y : Nat} (hk : k ≤ 4) : x < y ↔ wy k x < wy k y := by
  rcases (show k = 0 ∨ k = 1 ∨ k = 2 ∨ k = 3 ∨ k = 4 by omega) with rfl | rfl | rfl | rfl | rfl <;> simp only [wy] <;> omega
theorem wy_ch {k x s : Nat} (hk : k ≤ 4) (hx : x < 5 ^ k) (hs : s < k) : x / 5 ^ (k - (s + 1)) % 5 = chN (wy k x) s := by
  rcases (show k = 0 ∨ k = 1 ∨ k = 2 ∨ k = 3 ∨ k = 4 by omega) with rfl | rfl | rfl | rfl | rfl
  · omega
  · rcases (show s = 0 by omega) with rfl
    simp only [wy, chN]
    omega
  · rcases (show s = 0 ∨ s = 1 by omega) with rfl | rfl <;> simp only [wy, chN] <;> omega
  · rcases (show s = 0 ∨ s = 1 ∨ s = 2 by omega) with rfl | rfl | rfl <;> simp only [wy, chN] <;> omega
  · rcases (show s = 0 ∨ s = 1 ∨ s = 2 ∨ s = 3 by omega) with rfl | rfl | rfl | rfl <;> simp only [wy, chN] <;> omega
theorem wy_2 {k x s : Nat} (hk : k ≤ 4) (hx : x < 5 ^ k) (hs : k ≤ s) (hs4 : s < 4) : chN (wy k x) s = 2 := by
  rcases (show k = 0 ∨ k = 1 ∨ k = 2 ∨ k = 3 ∨ k = 4 by omega) with rfl | rfl | rfl | rfl | rfl
  · rcases (show s = 0 ∨ s = 1 ∨ s = 2 ∨ s = 3 by omega) with rfl | rfl | rfl | rfl <;> simp only [wy, chN] <;> omega
  · rcases (show s = 1 ∨ s = 2 ∨ s = 3 by omega) with rfl | rfl | rfl <;> simp only [wy, chN] <;> omega
  · rcases (show s = 2 ∨ s = 3 by omega) with rfl | rfl <;> simp only [wy, chN] <;> omega
  · rcases (show s = 3 by omega) with rfl
    simp only [wy, chN]
    omega
  · omega
theorem wy_onto {k y : Nat} (hk : k ≤ 4) (hy : y < 625) (h : ∀ s, k ≤ s → s < 4 → chN y s = 2) : ∃ x, x < 5 ^ k ∧ y = wy k x := by
  rcases (show k = 0 ∨ k = 1 ∨ k = 2 ∨ k = 3 ∨ k = 4 by omega) with rfl | rfl | rfl | rfl | rfl
  · have h0 := h 0 (by omega) (by omega)
    have h1 := h 1 (by omega) (by omega)
    have h2 := h 2 (by omega) (by omega)
    have h3 := h 3 (by omega) (by omega)
    simp only [chN] at h0 h1 h2 h3
    refine ⟨0, by omega, ?_⟩
    simp only [wy]
    omega
  · have h1 := h 1 (by omega) (by omega)
    have h2 := h 2 (by omega) (by omega)
    have h3 := h 3 (by omega) (by omega)
    simp only [chN] at h1 h2 h3
    refine ⟨y / 125, by omega, ?_⟩
    simp only [wy]
    omega
  · have h2 := h 2 (by omega) (by omega)
    have h3 := h 3 (by omega) (by omega)
    simp only [chN] at h2 h3
    refine ⟨y / 25, by omega, ?_⟩
    simp only [wy]
    omega
  · have h3 := h 3 (by omega) (by omega)
    simp only [chN] at h3
    refine ⟨y / 5, by omega, ?_⟩
    simp only [wy]
    omega
  · exact ⟨y, by omega, rfl⟩
theorem chF_0 {y s : Nat} : chF y s = 0 ↔ chN y s = 2 := by
  have h := chN_lt y s
  unfold chF
  generalize chN y s = z at h
  have e : ∀ z, z < 5 → (nI z - nI 2 = 0 ↔ z = 2) := by decide +kernel
  exact e z h
def szJ (y : Nat) : Nat → Nat
  | 0 => 0
  | j + 1 => szJ y j + ab2 (chN y j)
theorem szJ_k {k x : Nat} (hk : k ≤ 4) (hx : x < 5 ^ k) : szJ (wy k x) k = szW (wy k x) := by
  have h : ∀ s, k ≤ s → s < 4 → ab2 (chN (wy k x) s) = 0 := fun s h1 h2 => by rw [wy_2 hk hx h1 h2]; rfl
  unfold szW
  rcases (show k = 0 ∨ k = 1 ∨ k = 2 ∨ k = 3 ∨ k = 4 by omega) with rfl | rfl | rfl | rfl | rfl
  · have h0 := h 0 (by omega) (by omega)
    have h1 := h 1 (by omega) (by omega)
    have h2 := h 2 (by omega) (by omega)
    have h3 := h 3 (by omega) (by omega)
    simp only [szJ]
    omega
  · have h1 := h 1 (by omega) (by omega)
    have h2 := h 2 (by omega) (by omega)
    have h3 := h 3 (by omega) (by omega)
    simp only [szJ]
    omega
  · have h2 := h 2 (by omega) (by omega)
    have h3 := h 3 (by omega) (by omega)
    simp only [szJ]
    omega
  · have h3 := h 3 (by omega) (by omega)
    simp only [szJ]
    omega
  · simp only [szJ]
    omega
theorem im1 (i : Nat) : nI i + Int32.ofInt (-1) = nI i - nI 1 := by
  rw [show Int32.ofInt (-1) = (-1 : Int32) by decide +kernel, show nI 1 = (1 : Int32) from rfl, Int32.sub_eq_add_neg]
/-- what the look for a turn changes -/
def Mf (μ μ' : MI) : Prop := ∀ a j, ¬ ((a = 89 ∨ a = 90) ∧ 8 ≤ j ∧ j < 16) → ¬ (a = 91 ∧ 168 ≤ j ∧ j < 336) → a ≠ 94 → a ≠ 99 → μ' a j = μ a j
theorem Mf.rf {μ : MI} : Mf μ μ := fun _ _ _ _ _ _ => rfl
theorem Mf.tr {μ μ' μ'' : MI} (h : Mf μ μ') (h2 : Mf μ' μ'') : Mf μ μ'' := fun a j q1 q2 q3 q4 => (h2 a j q1 q2 q3 q4).trans (h a j q1 q2 q3 q4)
theorem Mf.mr {μ μ' : MI} (h : Mr 1 μ μ') : Mf μ μ' := fun a j q1 q2 q3 q4 => h a j (by omega) (by omega) (by omega)
theorem Mf.up {μ : MI} {a j : Nat} {v : Int32} (h : a = 94 ∨ a = 99) : Mf μ (up2 μ a j v) := fun b i q1 q2 q3 q4 => up2_ne _ _ (by omega)
theorem CM.mf {c μ μ' : MI} (hc : CM c μ) (h : Mf μ μ') : CM c μ' := by
  have f : ∀ a j, a < 89 → μ' a j = μ a j := fun a j h1 => h a j (by omega) (by omega) (by omega) (by omega)
  refine ⟨⟨?_, ?_, ?_, ?_, ?_⟩, fun b hb => ?_, fun s hs => ?_, fun k hk => ?_, fun k hk => ?_⟩
  · rw [f _ _ (by omega)]; exact hc.1.1
  · rw [f _ _ (by omega)]; exact hc.1.2.1
  · rw [f _ _ (by omega)]; exact hc.1.2.2.1
  · rw [f _ _ (by omega)]; exact hc.1.2.2.2.1
  · rw [f _ _ (by omega)]; exact hc.1.2.2.2.2
  · rw [f _ _ (by omega), f _ _ (by omega), f _ _ (by omega), f _ _ (by omega)]; exact hc.2.1 b hb
  · rw [f _ _ (by omega), f _ _ (by omega), f _ _ (by omega), f _ _ (by omega)]; exact hc.2.2.1 s hs
  · rw [f _ _ (by omega), f _ _ (by omega), f _ _ (by omega)]; exact hc.2.2.2.1 k hk
  · rw [f _ _ (by omega), f _ _ (by omega)]; exact hc.2.2.2.2 k hk
/-- no faults -/
def NF (μ : MI) : Prop := μ 75 28 = -1 ∧ μ 75 29 = -1
theorem NF.f {μ : MI} (h : NF μ) {f : Nat} (hf : f < 100) : fauB μ f = false := by
  unfold fauB
  rw [h.1, h.2, decide_eq_false (nI_ne1 hf)]
  rfl
theorem twC_tm {y : Nat} {μ : MI} (hF : NF μ) (h : ∀ s, s < 4 → μ 94 s = chF y s) : TM 1 (twC y) μ := by
  refine ⟨fun s hs => ⟨?_, ?_⟩, fun b hb => ⟨?_, ?_⟩⟩
  · rw [if_pos rfl, h s hs]
    exact if_pos ⟨rfl, hs⟩
  · rw [hF.f (by omega)]
    rfl
  · rw [hF.f (by omega)]
    rfl
  · rw [hF.f (by omega)]
    rfl
/-- the best way so far -/
def BST (c : MI) (b n T k i : Nat) (L : Int32) (μ : MI) : Prop := (L = -1 ∧ ∀ x, x < i → okWy c b n T (wy k x) = false) ∨ ∃ x0, x0 < i ∧ okWy c b n T (wy k x0) = true ∧ L = nI (szW (wy k x0)) ∧ (∀ s, s < 4 → μ 99 s = chF (wy k x0) s) ∧ ∀ x, x < i → okWy c b n T (wy k x) = true → szW (wy k x0) < szW (wy k x) ∨ (szW (wy k x0) = szW (wy k x) ∧ x0 ≤ x)
theorem BST.skip {c : MI} {b n T k i : Nat} {L : Int32} {μ μ' : MI} (h : BST c b n T k i L μ) (e : ∀ s, μ' 99 s = μ 99 s) (hn : okWy c b n T (wy k i) = true → ∃ x0, L = nI (szW (wy k x0)) ∧ szW (wy k x0) ≤ szW (wy k i)) : BST c b n T k (i + 1) L μ' := by
  rcases h with ⟨h1, h2⟩ | ⟨x0, h1, h2, h3, h4, h5⟩
  · refine Or.inl ⟨h1, fun x hx => ?_⟩
    by_cases q : x = i
    · subst q
      cases z : okWy c b n T (wy k x) with
      | false => rfl
      | true =>
        obtain ⟨x0, y1, y2⟩ := hn z
        exact absurd (y1.symm.trans h1) (nI_nm1 (by have := szW_le (wy k x0); omega))
    · exact h2 x (by omega)
  · refine Or.inr ⟨x0, by omega, h2, h3, fun s hs => (e s).trans (h4 s hs), fun x hx hx2 => ?_⟩
    by_cases q : x = i
    · subst q
      obtain ⟨x1, y1, y2⟩ := hn hx2
      have e2 := (nI_eq (by have := szW_le (wy k x0); omega) (by have := szW_le (wy k x1); omega)).mp (h3.symm.trans y1)
      rcases Nat.lt_or_ge (szW (wy k x0)) (szW (wy k x)) with z | z
      · exact Or.inl z
      · exact Or.inr ⟨by omega, by omega⟩
    · exact h5 x (by omega) hx2
theorem BST.take {c : MI} {b n T k i : Nat} {L : Int32} {μ μ' : MI} (h : BST c b n T k i L μ) (hok : okWy c b n T (wy k i) = true) (hl : L = -1 ∨ ∃ z, z < 100 ∧ L = nI z ∧ szW (wy k i) < z) (e : ∀ s, s < 4 → μ' 99 s = chF (wy k i) s) : BST c b n T k (i + 1) (nI (szW (wy k i))) μ' := by
  refine Or.inr ⟨i, by omega, hok, rfl, e, fun x hx hx2 => ?_⟩
  by_cases q : x = i
  · subst q
    exact Or.inr ⟨rfl, Nat.le_refl _⟩
  · rcases h with ⟨h1, h2⟩ | ⟨x0, h1, h2, h3, h4, h5⟩
    · rw [h2 x (by omega)] at hx2
      cases hx2
    · rcases hl with hl | ⟨z, hz, hl, hl2⟩
      · exact absurd (h3.symm.trans hl) (nI_nm1 (by have := szW_le (wy k x0); omega))
      · have e2 := (nI_eq (by have := szW_le (wy k x0); omega) (by omega)).mp (h3.symm.trans hl)
        have := h5 x (by omega) hx2
        exact Or.inl (by omega)
theorem BST.le {c : MI} {b n T k i : Nat} {L : Int32} {μ : MI} (h : BST c b n T k i L μ) : L = -1 ∨ ∃ z, z < 100 ∧ L = nI z := by
  rcases h with ⟨h1, _⟩ | ⟨x0, _, _, h3, _⟩
  · exact Or.inl h1
  · exact Or.inr ⟨_, by have := szW_le (wy k x0); omega, h3⟩
theorem BST.le2 {c : MI} {b n T k i z : Nat} {L : Int32} {μ : MI} (h : BST c b n T k i L μ) (e : L = nI z) (hz : z < 100) : ∃ x0, L = nI (szW (wy k x0)) ∧ szW (wy k x0) = z := by
  rcases h with ⟨h1, _⟩ | ⟨x0, _, _, h3, _⟩
  · exact absurd (e.symm.trans h1) (nI_nm1 (by omega))
  · exact ⟨x0, h3, (nI_eq (by have := szW_le (wy k x0); omega) (by omega)).mp (h3.symm.trans e)⟩
theorem okWy_k {c : MI} {b n T k y : Nat} (hk : N (c 7 0) = k) (hk4 : k ≤ 4) (hy : y < 625) (h : okWy c b n T y = true) : ∃ x, x < 5 ^ k ∧ y = wy k x := by
  unfold okWy at h
  rw [Bool.and_eq_true] at h
  refine wy_onto hk4 hy (fun s h1 h2 => ?_)
  have h3 := (allB_iff _ _).mp h.1 s h2
  unfold opS at h3
  rw [if_neg (by omega)] at h3
  exact chF_0.mp (of_decide_eq_true h3)
theorem opW_k {c : MI} {k x : Nat} (hk : N (c 7 0) = k) (hk4 : k ≤ 4) (hx : x < 5 ^ k) : opW c (wy k x) = true ↔ ∀ s, s < k → opS c (wy k x) s = true := by
  unfold opW
  rw [allB_iff]
  constructor
  · intro h s hs
    exact h s (by omega)
  · intro h s hs
    rcases Nat.lt_or_ge s k with q | q
    · exact h s q
    · unfold opS
      rw [if_neg (by omega)]
      exact decide_eq_true (chF_0.mpr (wy_2 hk4 hx q hs))
theorem m_findTurn {b n T k : Nat} (hn : n ≤ 200) (hT : T ≤ 200) {c μ : MI} {ν : ML} {P : Po} (hC : WC c) (hc : CM c μ) (hB : B0 μ) (hb : b < N (c 2 0)) (hk : N (c 7 0) = k) (h1 : ∀ y μ', LeastW c b n T y → (∀ s, s < 4 → μ' 99 s = chF y s) → Mf μ μ' → B0 μ' → P (some (.int (nI (szW y)))) μ' ν) (h0 : ∀ μ', (∀ y, y < 625 → okWy c b n T y = false) → (∀ s, s < 4 → μ' 99 s = 0) → Mf μ μ' → B0 μ' → P (some (.int (-1))) μ' ν) : Ct mX10_findTurn 5 [.ref 75, .int (nI b), .int (nI n), .int (nI T)] μ ν P := by
  refine Ct.of (ls0 := [_, _, _, _, _, _, _, _, _, _, _]) (by decide) rfl (Nat.le_of_ble_eq_true rfl) rfl ?_
  have hns := hC.2.1.1
  have hk4 : k ≤ 4 := by rw [← hk]; exact hns.2
  have hs00 : μ 75 5 = nI k := by rw [← hk]; exact hc.1.2.1.trans hns.1
  have h625 : 5 ^ k ≤ 625 := Nat.pow_le_pow_right (n := 5) (by omega) hk4
  have hNF : ∀ μ1, Mf μ μ1 → NF μ1 := fun μ1 hM => ⟨(hM _ _ (by omega) (by omega) (by omega) (by omega)).trans hB.2.1, (hM _ _ (by omega) (by omega) (by omega) (by omega)).trans hB.2.2⟩
  generalize hA : 5 ^ k = A at h625
  -- the end: the best is put right, the changes are taken back
  have last : ∀ (L : Int32) (μ0 : MI), (L = -1 ∧ (∀ y, y < 625 → okWy c b n T y = false)) ∨ (∃ y, LeastW c b n T y ∧ L = nI (szW y) ∧ ∀ s, s < 4 → μ0 99 s = chF y s) → ∀ (q i : Nat) (μ1 : MI), 4 - i < q → i ≤ 4 → Mf μ μ1 → (∀ s, s < i → μ1 94 s = 0 ∧ μ1 99 s = if L < 0 then 0 else μ0 99 s) → (∀ s, i ≤ s → s < 4 → μ1 99 s = μ0 99 s) → AW mX10_findTurn (5, none) P 229 [some (.ref 75), some (.int (nI b)), some (.int (nI n)), some (.int (nI T)), none, some (.int L), some (.int (nI i)), none, none, none, none] [] μ1 ν := by
    intro L μ0 hL q
    induction q with
    | zero => intro i μ1 h; omega
    | succ q ih =>
      intro i μ1 hq hi hM ha hb2
      refine A_iload dX10_findTurn_229 rfl ?_
      refine A_iconst (v := nI 4) dX10_findTurn_231 (by decide +kernel) ?_
      refine A_icmp_geN (tgt := 272) dX10_findTurn_232 (by decide) (by omega) (by omega) (fun b232 => ?_) (fun b232 => ?_)
      · refine A_iload dX10_findTurn_272 rfl ?_
        refine A_iret dX10_findTurn_274 rfl rfl ?_
        have hB0 : B0 μ1 := ⟨fun s hs => (ha s (by omega)).1, (hNF μ1 hM).1, (hNF μ1 hM).2⟩
        rcases hL with ⟨e1, e2⟩ | ⟨y, e1, e2, e3⟩
        · subst e1
          exact h0 μ1 e2 (fun s hs => by rw [(ha s (by omega)).2, if_pos (by decide +kernel)]) hM hB0
        · subst e2
          refine h1 y μ1 e1 (fun s hs => ?_) hM hB0
          rw [(ha s (by omega)).2, if_neg (nI_pos (by have := szW_le y; omega))]
          exact e3 s hs
      · refine A_aload_n dX10_findTurn_235 rfl ?_
        refine A_getR dX10_findTurn_236 flX10_89 rfl rfl ?_
        refine A_iload dX10_findTurn_239 rfl ?_
        refine A_iload dX10_findTurn_241 rfl ?_
        refine A_if_ge (tgt := 250) dX10_findTurn_243 (by decide) (fun b243 => ?_) (fun b243 => ?_)
        · refine A_aload_n dX10_findTurn_250 rfl ?_
          refine A_getR dX10_findTurn_251 flX10_89 rfl rfl ?_
          refine A_iload dX10_findTurn_254 rfl ?_
          refine A_ialdN (j := i) dX10_findTurn_256 rfl rfl (by omega) (by decide) ?_
          refine A_iastN (j := i) dX10_findTurn_257 rfl rfl (by omega) (by decide) ?_
          refine A_aload_n dX10_findTurn_258 rfl ?_
          refine A_getR dX10_findTurn_259 flX10_71 rfl rfl ?_
          refine A_iload dX10_findTurn_262 rfl ?_
          refine A_iconst (v := nI 0) dX10_findTurn_264 (by decide +kernel) ?_
          refine A_iastN (j := i) dX10_findTurn_265 rfl rfl (by omega) (by decide) ?_
          refine A_iincN (ls1 := [_, _, _, _, _, _, _, _, _, _, _]) dX10_findTurn_266 rfl (by decide) rfl rfl ?_
          refine A_goto (tgt := 229) dX10_findTurn_269 (by decide) ?_
          refine ih (i + 1) _ (by omega) (by omega) ((hM.tr (Mf.up (Or.inr rfl))).tr (Mf.up (Or.inl rfl))) (fun s hs => ?_) (fun s h5 h6 => ?_)
          · by_cases e : s = i
            · subst e
              refine ⟨up2_s _ _ _ _, ?_⟩
              rw [up2_a _ _ (by omega), up2_s]
              first
                | (rw [if_neg (i_le_n b243)]; exact hb2 s (Nat.le_refl s) (by omega))
                | (rw [if_pos (i_nle b243)]; rfl)
            · rw [up2_b _ _ e, up2_a _ _ (by omega), up2_a _ _ (by omega), up2_b _ _ e]
              exact ha s (by omega)
          · rw [up2_a _ _ (by omega), up2_b _ _ (by omega)]
            exact hb2 s (by omega) h6
        · refine A_iconst (v := nI 0) dX10_findTurn_246 (by decide +kernel) ?_
          refine A_goto (tgt := 257) dX10_findTurn_247 (by decide) ?_
          refine A_iastN (j := i) dX10_findTurn_257 rfl rfl (by omega) (by decide) ?_
          refine A_aload_n dX10_findTurn_258 rfl ?_
          refine A_getR dX10_findTurn_259 flX10_71 rfl rfl ?_
          refine A_iload dX10_findTurn_262 rfl ?_
          refine A_iconst (v := nI 0) dX10_findTurn_264 (by decide +kernel) ?_
          refine A_iastN (j := i) dX10_findTurn_265 rfl rfl (by omega) (by decide) ?_
          refine A_iincN (ls1 := [_, _, _, _, _, _, _, _, _, _, _]) dX10_findTurn_266 rfl (by decide) rfl rfl ?_
          refine A_goto (tgt := 229) dX10_findTurn_269 (by decide) ?_
          refine ih (i + 1) _ (by omega) (by omega) ((hM.tr (Mf.up (Or.inr rfl))).tr (Mf.up (Or.inl rfl))) (fun s hs => ?_) (fun s h5 h6 => ?_)
          · by_cases e : s = i
            · subst e
              refine ⟨up2_s _ _ _ _, ?_⟩
              rw [up2_a _ _ (by omega), up2_s]
              first
                | (rw [if_neg (i_le_n b243)]; exact hb2 s (Nat.le_refl s) (by omega))
                | (rw [if_pos (i_nle b243)]; rfl)
            · rw [up2_b _ _ e, up2_a _ _ (by omega), up2_a _ _ (by omega), up2_b _ _ e]
              exact ha s (by omega)
          · rw [up2_a _ _ (by omega), up2_b _ _ (by omega)]
            exact hb2 s (by omega) h6
  -- one way's digits
  have digits : ∀ (i : Nat) (L : Int32) (μ0 : MI), i < A → Mf μ μ0 → (∀ μ1 : MI, Mf μ μ1 → (∀ s, s < 4 → μ1 94 s = chF (wy k i) s) → (∀ s, μ1 99 s = μ0 99 s) → AW mX10_findTurn (5, none) P 160 [some (.ref 75), some (.int (nI b)), some (.int (nI n)), some (.int (nI T)), some (.int (nI A)), some (.int L), some (.int (nI i)), none, some (.int (nI (szW (wy k i)))), some (.int (nI (bN (opW c (wy k i))))), none] [] μ1 ν) → ∀ (j l kk : Nat) (g : Bool) (μ1 : MI), j ≤ k → l = i / 5 ^ (k - j) → kk + szJ (wy k i) j = szJ (wy k i) k → (g = true ↔ ∀ s, j ≤ s → s < k → opS c (wy k i) s = true) → Mf μ μ1 → (∀ s, j ≤ s → s < 4 → μ1 94 s = chF (wy k i) s) → (∀ s, μ1 99 s = μ0 99 s) → AW mX10_findTurn (5, none) P 58 [some (.ref 75), some (.int (nI b)), some (.int (nI n)), some (.int (nI T)), some (.int (nI A)), some (.int L), some (.int (nI i)), some (.int (nI l)), some (.int (nI kk)), some (.int (nI (bN g))), some (.int (nI j - nI 1))] [] μ1 ν := by
    intro i L μ0 hi hM0 hex j
    have hi5 : i < 5 ^ k := by rw [hA]; exact hi
    have hw := szJ_k hk4 hi5
    have hw8 := szW_le (wy k i)
    induction j with
    | zero =>
      intro l kk g μ1 hj hl hkk hg hM h94 h99
      have hlt : nI 0 - nI 1 < 0 := by decide +kernel
      refine A_iload dX10_findTurn_58 rfl ?_
      refine A_if_lt (tgt := 160) dX10_findTurn_60 (by decide) (fun b60 => ?_) (fun b60 => absurd b60 (fun q => q hlt))
      have eg : opW c (wy k i) = g := by
        cases z : g with
        | true => exact (opW_k hk hk4 hi5).mpr (fun s hs => hg.mp z s (Nat.zero_le s) hs)
        | false =>
          cases y : opW c (wy k i) with
          | false => rfl
          | true =>
            have := hg.mpr (fun s _ hs => (opW_k hk hk4 hi5).mp y s hs)
            rw [z] at this
            cases this
      have ek : szW (wy k i) = kk := by
        rw [← hw, ← hkk]
        exact Nat.add_zero kk
      have h9 := hex μ1 hM (fun s hs => h94 s (Nat.zero_le s) hs) h99
      rw [eg, ek] at h9
      exact A_weak h9 (by repeat first | exact fw_0 | refine fw_s ?_ | refine fw_n ?_)
    | succ s ih =>
      intro l kk g μ1 hj hl hkk hg hM h94 h99
      have hl2 : l ≤ i := by rw [hl]; exact Nat.div_le_self _ _
      have hd : l % 5 = chN (wy k i) s := by rw [hl]; exact wy_ch hk4 hi5 hj
      have hl3 : l / 5 = i / 5 ^ (k - s) := by
        rw [hl, Nat.div_div_eq_div_mul, ← Nat.pow_succ, show (k - (s + 1)).succ = k - s by omega]
      have hsz : szJ (wy k i) (s + 1) = szJ (wy k i) s + ab2 (chN (wy k i) s) := rfl
      have hab : ab2 (chN (wy k i) s) ≤ 2 := by
        have := chN_lt (wy k i) s
        unfold ab2
        split <;> omega
      obtain ⟨_, e81, _, _⟩ := (hc.mf hM).2.2.1 s (by omega)
      have next : ∀ g' : Bool, (g' = true ↔ ∀ u, s ≤ u → u < k → opS c (wy k i) u = true) → AW mX10_findTurn (5, none) P 58 [some (.ref 75), some (.int (nI b)), some (.int (nI n)), some (.int (nI T)), some (.int (nI A)), some (.int L), some (.int (nI i)), some (.int (nI (l / 5))), some (.int (nI (kk + ab2 (chN (wy k i) s)))), some (.int (nI (bN g'))), some (.int (nI s - nI 1))] [] (up2 μ1 94 s (chF (wy k i) s)) ν := by
        intro g' hg'
        refine ih (l / 5) _ g' _ (by omega) hl3 (by omega) hg' (hM.tr (Mf.up (Or.inl rfl))) (fun u h5 h6 => ?_) (fun u => by rw [up2_a _ _ (by omega)]; exact h99 u)
        by_cases e : u = s
        · subst e
          exact up2_s _ _ _ _
        · rw [up2_b _ _ e]
          exact h94 u (by omega) h6
      have e21 : (up2 μ1 94 s (chF (wy k i) s)) 81 s = c 9 s := (up2_a _ _ (by omega)).trans e81
      have e22 : (up2 μ1 94 s (chF (wy k i) s)) 94 s = chF (wy k i) s := up2_s _ _ _ _
      have tail : AW mX10_findTurn (5, none) P 113 [some (.ref 75), some (.int (nI b)), some (.int (nI n)), some (.int (nI T)), some (.int (nI A)), some (.int L), some (.int (nI i)), some (.int (nI (l / 5))), none, some (.int (nI (bN g))), some (.int (nI s))] [.int (nI (ab2 (chN (wy k i) s))), .int (nI kk)] (up2 μ1 94 s (chF (wy k i) s)) ν := by
        refine A_iaddN dX10_findTurn_113 ?_
        refine A_istore (ls1 := [_, _, _, _, _, _, _, _, _, _, _]) dX10_findTurn_114 (by decide) rfl rfl ?_
        refine A_iload dX10_findTurn_116 rfl ?_
        refine A_if_eq (tgt := 151) dX10_findTurn_118 (by decide) (fun b118 => ?_) (fun b118 => ?_)
        · refine A_iconst (v := nI 0) dX10_findTurn_151 (by decide +kernel) ?_
          refine A_istore (ls1 := [_, _, _, _, _, _, _, _, _, _, _]) dX10_findTurn_152 (by decide) rfl rfl ?_
          refine A_iinc (ls1 := [_, _, _, _, _, _, _, _, _, _, _]) dX10_findTurn_154 rfl rfl (by decide) rfl rfl ?_
          refine A_goto (tgt := 58) dX10_findTurn_157 (by decide) ?_
          rw [im1]
          exact next false ⟨fun z => (by cases z), fun z => by
            have := hg.mpr (fun u h5 h6 => z u (by omega) h6)
            rw [bN_eq b118] at this
            exact this⟩
        · refine A_aload_n dX10_findTurn_121 rfl ?_
          refine A_getR dX10_findTurn_122 flX10_25 rfl rfl ?_
          refine A_iload dX10_findTurn_125 rfl ?_
          refine A_ialdN (j := s) dX10_findTurn_127 rfl rfl (by omega) (by decide) ?_
          rw [e21]
          refine A_aload_n dX10_findTurn_128 rfl ?_
          refine A_getR dX10_findTurn_129 flX10_71 rfl rfl ?_
          refine A_iload dX10_findTurn_132 rfl ?_
          refine A_ialdN (j := s) dX10_findTurn_134 rfl rfl (by omega) (by decide) ?_
          rw [e22]
          refine A_iadd dX10_findTurn_135 ?_
          refine A_i2l dX10_findTurn_136 ?_
          refine A_lconst (v := 0) dX10_findTurn_137 rfl ?_
          refine A_ldc2 dX10_findTurn_138 kcX10_104 ?_
          refine A_callS3 dX10_findTurn_141 mlX10_95 (by decide) (Nat.le_of_ble_eq_true rfl) (m_in (c 9 s + chF (wy k i) s) (nI 0) (nI 20) rfl (by decide +kernel) (by decide +kernel) (fun g1 g2 => ?_) (fun g3 => ?_))
          · refine Kn.s ?_
            refine A_if_eq (tgt := 151) dX10_findTurn_144 (by decide) (fun h => absurd h (by decide +kernel)) (fun _ => ?_)
            refine A_iconst (v := nI 1) dX10_findTurn_147 (by decide +kernel) ?_
            refine A_goto (tgt := 152) dX10_findTurn_148 (by decide) ?_
            refine A_istore (ls1 := [_, _, _, _, _, _, _, _, _, _, _]) dX10_findTurn_152 (by decide) rfl rfl ?_
            refine A_iinc (ls1 := [_, _, _, _, _, _, _, _, _, _, _]) dX10_findTurn_154 rfl rfl (by decide) rfl rfl ?_
            refine A_goto (tgt := 58) dX10_findTurn_157 (by decide) ?_
            rw [im1]
            refine next true ⟨fun _ u h5 h6 => ?_, fun _ => rfl⟩
            by_cases e : u = s
            · subst e
              unfold opS
              rw [if_pos (by omega)]
              exact decide_eq_true ⟨g1, g2⟩
            · exact hg.mp (bN_ne b118) u (by omega) h6
          · refine Kn.s ?_
            refine A_if_eq (tgt := 151) dX10_findTurn_144 (by decide) (fun _ => ?_) (fun h => absurd h (by decide +kernel))
            refine A_iconst (v := nI 0) dX10_findTurn_151 (by decide +kernel) ?_
            refine A_istore (ls1 := [_, _, _, _, _, _, _, _, _, _, _]) dX10_findTurn_152 (by decide) rfl rfl ?_
            refine A_iinc (ls1 := [_, _, _, _, _, _, _, _, _, _, _]) dX10_findTurn_154 rfl rfl (by decide) rfl rfl ?_
            refine A_goto (tgt := 58) dX10_findTurn_157 (by decide) ?_
            rw [im1]
            exact next false ⟨fun z => (by cases z), fun z => by
              have h8 := z s (Nat.le_refl s) (by omega)
              unfold opS at h8
              rw [if_pos (by omega)] at h8
              exact absurd (of_decide_eq_true h8) g3⟩
      have hpos : ¬ nI (s + 1) - nI 1 < 0 := by rw [pk_sub (by omega)]; exact nI_pos (by omega)
      have ech : nI (chN (wy k i) s) - nI 2 = chF (wy k i) s := rfl
      have eab := chF_abs (wy k i) s
      refine A_iload dX10_findTurn_58 rfl ?_
      refine A_if_lt (tgt := 160) dX10_findTurn_60 (by decide) (fun b60 => absurd b60 hpos) (fun b60 => ?_)
      rw [pk_sub (by omega), Nat.add_sub_cancel]
      refine A_aload_n dX10_findTurn_63 rfl ?_
      refine A_getR dX10_findTurn_64 flX10_71 rfl rfl ?_
      refine A_iload dX10_findTurn_67 rfl ?_
      refine A_iload dX10_findTurn_69 rfl ?_
      refine A_iconst (v := nI 5) dX10_findTurn_71 (by decide +kernel) ?_
      refine A_iremN dX10_findTurn_72 (by omega) (by omega) (by omega) ?_
      rw [hd]
      refine A_iconst (v := nI 2) dX10_findTurn_73 (by decide +kernel) ?_
      refine A_isub dX10_findTurn_74 ?_
      rw [ech]
      refine A_iastN (j := s) dX10_findTurn_75 rfl rfl (by omega) (by decide) ?_
      refine A_iload dX10_findTurn_76 rfl ?_
      refine A_iconst (v := nI 5) dX10_findTurn_78 (by decide +kernel) ?_
      refine A_idiv dX10_findTurn_79 (by decide +kernel) ?_
      rw [pk_div (by omega) (by decide) (by decide)]
      refine A_istore (ls1 := [_, _, _, _, _, _, _, _, _, _, _]) dX10_findTurn_80 (by decide) rfl rfl ?_
      refine A_iload dX10_findTurn_82 rfl ?_
      refine A_aload_n dX10_findTurn_84 rfl ?_
      refine A_getR dX10_findTurn_85 flX10_71 rfl rfl ?_
      refine A_iload dX10_findTurn_88 rfl ?_
      refine A_ialdN (j := s) dX10_findTurn_90 rfl rfl (by omega) (by decide) ?_
      rw [e22]
      refine A_if_ge (tgt := 106) dX10_findTurn_91 (by decide) (fun b91 => ?_) (fun b91 => ?_)
      · refine A_aload_n dX10_findTurn_106 rfl ?_
        refine A_getR dX10_findTurn_107 flX10_71 rfl rfl ?_
        refine A_iload dX10_findTurn_110 rfl ?_
        refine A_ialdN (j := s) dX10_findTurn_112 rfl rfl (by omega) (by decide) ?_
        rw [e22]
        rw [if_pos b91] at eab
        have h9 := tail
        rw [← eab] at h9
        exact A_weak h9 (by repeat first | exact fw_0 | refine fw_s ?_ | refine fw_n ?_)
      · refine A_iconst (v := nI 0) dX10_findTurn_94 (by decide +kernel) ?_
        refine A_aload_n dX10_findTurn_95 rfl ?_
        refine A_getR dX10_findTurn_96 flX10_71 rfl rfl ?_
        refine A_iload dX10_findTurn_99 rfl ?_
        refine A_ialdN (j := s) dX10_findTurn_101 rfl rfl (by omega) (by decide) ?_
        rw [e22]
        refine A_isub dX10_findTurn_102 ?_
        refine A_goto (tgt := 113) dX10_findTurn_103 (by decide) ?_
        rw [if_neg b91] at eab
        have h9 := tail
        rw [← eab] at h9
        exact A_weak h9 (by repeat first | exact fw_0 | refine fw_s ?_ | refine fw_n ?_)
  have loop : ∀ (q i : Nat) (L : Int32) (μ1 : MI), A - i < q → i ≤ A → Mf μ μ1 → (∀ s, k ≤ s → s < 4 → μ1 94 s = 0) → BST c b n T k i L μ1 → AW mX10_findTurn (5, none) P 33 [some (.ref 75), some (.int (nI b)), some (.int (nI n)), some (.int (nI T)), some (.int (nI A)), some (.int L), some (.int (nI i)), none, none, none, none] [] μ1 ν := by
    intro q
    induction q with
    | zero => intro i L μ1 h; omega
    | succ q ih =>
      intro i L μ1 hq hi hM h94 hS
      have hs0 : μ1 75 5 = nI k := (hM _ _ (by omega) (by omega) (by omega) (by omega)).trans hs00
      have next : ∀ (L2 : Int32) (μ2 : MI), i < A → Mf μ μ2 → (∀ s, s < 4 → μ2 94 s = chF (wy k i) s) → BST c b n T k (i + 1) L2 μ2 → _ := fun L2 μ2 z1 z2 z3 z4 => ih (i + 1) L2 μ2 (by omega) (by omega) z2 (fun s h5 h6 => by rw [z3 s h6]; exact chF_0.mpr (wy_2 hk4 (by rw [hA]; exact z1) h5 h6)) z4
      have body : i < A → ∀ μ2 : MI, Mf μ μ2 → (∀ s, s < 4 → μ2 94 s = chF (wy k i) s) → (∀ s, μ2 99 s = μ1 99 s) → AW mX10_findTurn (5, none) P 160 [some (.ref 75), some (.int (nI b)), some (.int (nI n)), some (.int (nI T)), some (.int (nI A)), some (.int L), some (.int (nI i)), none, some (.int (nI (szW (wy k i)))), some (.int (nI (bN (opW c (wy k i))))), none] [] μ2 ν := by
        intro hiA μ2 hM2 h942 h992
        have hi5 : i < 5 ^ k := by rw [hA]; exact hiA
        have hy := wy_lt hk4 hi5
        have hw8 := szW_le (wy k i)
        have hcn : cnW c (wy k i) b T ≤ T := cntB_le _ _
        have hc2 := hc.mf hM2
        have try1 : (L = -1 ∨ ∃ z, z < 100 ∧ L = nI z ∧ szW (wy k i) < z) → opW c (wy k i) = true → AW mX10_findTurn (5, none) P 177 [some (.ref 75), some (.int (nI b)), some (.int (nI n)), some (.int (nI T)), some (.int (nI A)), some (.int L), some (.int (nI i)), none, some (.int (nI (szW (wy k i)))), none, none] [] μ2 ν := by
          intro hL hop
          refine A_aload_n dX10_findTurn_177 rfl ?_
          refine A_iload_n dX10_findTurn_178 rfl ?_
          refine A_iload_n dX10_findTurn_179 rfl ?_
          refine A_callV2 dX10_findTurn_180 mlX10_227 (by decide) rfl rfl (Nat.le_of_ble_eq_true rfl) (m_knocksOf (tw := twC (wy k i)) hT hC hc2 (twC_tm (hNF μ2 hM2) h942) rfl hb (fun μ3 z1 => ?_))
          refine Kn.s ?_
          refine A_iload_n dX10_findTurn_183 rfl ?_
          refine A_icmp_neN (tgt := 220) dX10_findTurn_184 (by decide) (show cnW c (wy k i) b T < 2 ^ 31 by omega) (by omega) (fun b184 => ?_) (fun b184 => ?_)
          · refine A_iincN (ls1 := [_, _, _, _, _, _, _, _, _, _, _]) dX10_findTurn_220 rfl (by decide) rfl rfl ?_
            refine A_goto (tgt := 33) dX10_findTurn_223 (by decide) ?_
            refine A_weak (next L μ3 hiA (hM2.tr (Mf.mr z1)) (fun s hs => (z1.far (by omega) s).trans (h942 s hs)) (hS.skip (fun s => (z1.far (by omega) s).trans (h992 s)) (fun z => ?_))) (by repeat first | exact fw_0 | refine fw_s ?_ | refine fw_n ?_)
            unfold okWy at z
            rw [Bool.and_eq_true] at z
            exact absurd (of_decide_eq_true z.2) b184
          · have f3 : ∀ s, s < 4 → μ3 94 s = chF (wy k i) s := fun s hs => (z1.far (by omega) s).trans (h942 s hs)
            have r0 := f3 0 (by omega)
            have r1 := f3 1 (by omega)
            have r2 := f3 2 (by omega)
            have r3 := f3 3 (by omega)
            refine A_iload dX10_findTurn_187 rfl ?_
            refine A_istore (ls1 := [_, _, _, _, _, _, _, _, _, _, _]) dX10_findTurn_189 (by decide) rfl rfl ?_
            refine A_iconst (v := nI 0) dX10_findTurn_191 (by decide +kernel) ?_
            refine A_istore (ls1 := [_, _, _, _, _, _, _, _, _, _, _]) dX10_findTurn_192 (by decide) rfl rfl ?_
            refine A_iload dX10_findTurn_194 rfl ?_
            refine A_iconst (v := nI 4) dX10_findTurn_196 (by decide +kernel) ?_
            refine A_icmp_ge (tgt := 220) dX10_findTurn_197 (by decide) (fun h => absurd h (by decide +kernel)) (fun _ => ?_)
            refine A_aload_n dX10_findTurn_200 rfl ?_
            refine A_getR dX10_findTurn_201 flX10_89 rfl rfl ?_
            refine A_iload dX10_findTurn_204 rfl ?_
            refine A_aload_n dX10_findTurn_206 rfl ?_
            refine A_getR dX10_findTurn_207 flX10_71 rfl rfl ?_
            refine A_iload dX10_findTurn_210 rfl ?_
            refine A_ialdN (j := 0) dX10_findTurn_212 rfl rfl (by decide) (by decide) ?_
            rw [r0]
            refine A_iastN (j := 0) dX10_findTurn_213 rfl rfl (by decide) (by decide) ?_
            refine A_iinc (y := nI 1) (ls1 := [_, _, _, _, _, _, _, _, _, _, _]) dX10_findTurn_214 rfl (by decide +kernel) (by decide) rfl rfl ?_
            refine A_goto (tgt := 194) dX10_findTurn_217 (by decide) ?_
            refine A_iload dX10_findTurn_194 rfl ?_
            refine A_iconst (v := nI 4) dX10_findTurn_196 (by decide +kernel) ?_
            refine A_icmp_ge (tgt := 220) dX10_findTurn_197 (by decide) (fun h => absurd h (by decide +kernel)) (fun _ => ?_)
            refine A_aload_n dX10_findTurn_200 rfl ?_
            refine A_getR dX10_findTurn_201 flX10_89 rfl rfl ?_
            refine A_iload dX10_findTurn_204 rfl ?_
            refine A_aload_n dX10_findTurn_206 rfl ?_
            refine A_getR dX10_findTurn_207 flX10_71 rfl rfl ?_
            refine A_iload dX10_findTurn_210 rfl ?_
            refine A_ialdN (j := 1) dX10_findTurn_212 rfl rfl (by decide) (by decide) ?_
            rw [up2_a _ _ (by omega), r1]
            refine A_iastN (j := 1) dX10_findTurn_213 rfl rfl (by decide) (by decide) ?_
            refine A_iinc (y := nI 2) (ls1 := [_, _, _, _, _, _, _, _, _, _, _]) dX10_findTurn_214 rfl (by decide +kernel) (by decide) rfl rfl ?_
            refine A_goto (tgt := 194) dX10_findTurn_217 (by decide) ?_
            refine A_iload dX10_findTurn_194 rfl ?_
            refine A_iconst (v := nI 4) dX10_findTurn_196 (by decide +kernel) ?_
            refine A_icmp_ge (tgt := 220) dX10_findTurn_197 (by decide) (fun h => absurd h (by decide +kernel)) (fun _ => ?_)
            refine A_aload_n dX10_findTurn_200 rfl ?_
            refine A_getR dX10_findTurn_201 flX10_89 rfl rfl ?_
            refine A_iload dX10_findTurn_204 rfl ?_
            refine A_aload_n dX10_findTurn_206 rfl ?_
            refine A_getR dX10_findTurn_207 flX10_71 rfl rfl ?_
            refine A_iload dX10_findTurn_210 rfl ?_
            refine A_ialdN (j := 2) dX10_findTurn_212 rfl rfl (by decide) (by decide) ?_
            rw [up2_a _ _ (by omega), up2_a _ _ (by omega), r2]
            refine A_iastN (j := 2) dX10_findTurn_213 rfl rfl (by decide) (by decide) ?_
            refine A_iinc (y := nI 3) (ls1 := [_, _, _, _, _, _, _, _, _, _, _]) dX10_findTurn_214 rfl (by decide +kernel) (by decide) rfl rfl ?_
            refine A_goto (tgt := 194) dX10_findTurn_217 (by decide) ?_
            refine A_iload dX10_findTurn_194 rfl ?_
            refine A_iconst (v := nI 4) dX10_findTurn_196 (by decide +kernel) ?_
            refine A_icmp_ge (tgt := 220) dX10_findTurn_197 (by decide) (fun h => absurd h (by decide +kernel)) (fun _ => ?_)
            refine A_aload_n dX10_findTurn_200 rfl ?_
            refine A_getR dX10_findTurn_201 flX10_89 rfl rfl ?_
            refine A_iload dX10_findTurn_204 rfl ?_
            refine A_aload_n dX10_findTurn_206 rfl ?_
            refine A_getR dX10_findTurn_207 flX10_71 rfl rfl ?_
            refine A_iload dX10_findTurn_210 rfl ?_
            refine A_ialdN (j := 3) dX10_findTurn_212 rfl rfl (by decide) (by decide) ?_
            rw [up2_a _ _ (by omega), up2_a _ _ (by omega), up2_a _ _ (by omega), r3]
            refine A_iastN (j := 3) dX10_findTurn_213 rfl rfl (by decide) (by decide) ?_
            refine A_iinc (y := nI 4) (ls1 := [_, _, _, _, _, _, _, _, _, _, _]) dX10_findTurn_214 rfl (by decide +kernel) (by decide) rfl rfl ?_
            refine A_goto (tgt := 194) dX10_findTurn_217 (by decide) ?_
            refine A_iload dX10_findTurn_194 rfl ?_
            refine A_iconst (v := nI 4) dX10_findTurn_196 (by decide +kernel) ?_
            refine A_icmp_ge (tgt := 220) dX10_findTurn_197 (by decide) (fun _ => ?_) (fun h => absurd h (by decide +kernel))
            refine A_iincN (ls1 := [_, _, _, _, _, _, _, _, _, _, _]) dX10_findTurn_220 rfl (by decide) rfl rfl ?_
            refine A_goto (tgt := 33) dX10_findTurn_223 (by decide) ?_
            refine A_weak (next _ _ hiA (((((hM2.tr (Mf.mr z1)).tr (Mf.up (Or.inr rfl))).tr (Mf.up (Or.inr rfl))).tr (Mf.up (Or.inr rfl))).tr (Mf.up (Or.inr rfl))) (fun s hs => ?_) (hS.take (by unfold okWy; rw [hop, decide_eq_true (show cnW c (wy k i) b T = n from b184)]; rfl) hL (fun s hs => ?_))) (by repeat first | exact fw_0 | refine fw_s ?_ | refine fw_n ?_)
            · rw [up2_a _ _ (by omega), up2_a _ _ (by omega), up2_a _ _ (by omega), up2_a _ _ (by omega)]
              exact f3 s hs
            · rcases (show s = 0 ∨ s = 1 ∨ s = 2 ∨ s = 3 by omega) with rfl | rfl | rfl | rfl <;> simp (disch := omega) only [up2_b, up2_s]
        have bad : ∀ (h : okWy c b n T (wy k i) = true → ∃ x0, L = nI (szW (wy k x0)) ∧ szW (wy k x0) ≤ szW (wy k i)), _ := fun h => next L μ2 hiA hM2 h942 (hS.skip h992 h)
        rcases hS.le with eL | ⟨z, hz, eL⟩
        · have hlt : L < 0 := by rw [eL]; decide +kernel
          refine A_iload dX10_findTurn_160 rfl ?_
          refine A_if_eq (tgt := 220) dX10_findTurn_162 (by decide) (fun b162 => ?_) (fun b162 => ?_)
          · refine A_iincN (ls1 := [_, _, _, _, _, _, _, _, _, _, _]) dX10_findTurn_220 rfl (by decide) rfl rfl ?_
            refine A_goto (tgt := 33) dX10_findTurn_223 (by decide) ?_
            refine A_weak (bad (fun y => ?_)) (by repeat first | exact fw_0 | refine fw_s ?_ | refine fw_n ?_)
            unfold okWy at y
            rw [bN_eq b162, Bool.false_and] at y
            cases y
          · refine A_iload dX10_findTurn_165 rfl ?_
            refine A_if_lt (tgt := 177) dX10_findTurn_167 (by decide) (fun b167 => ?_) (fun b167 => absurd b167 (fun q => q hlt))
            exact A_weak (try1 (Or.inl eL) (bN_ne b162)) (by repeat first | exact fw_0 | refine fw_s ?_ | refine fw_n ?_)
        · have hge : ¬ L < 0 := by rw [eL]; exact nI_pos (by omega)
          refine A_iload dX10_findTurn_160 rfl ?_
          refine A_if_eq (tgt := 220) dX10_findTurn_162 (by decide) (fun b162 => ?_) (fun b162 => ?_)
          · refine A_iincN (ls1 := [_, _, _, _, _, _, _, _, _, _, _]) dX10_findTurn_220 rfl (by decide) rfl rfl ?_
            refine A_goto (tgt := 33) dX10_findTurn_223 (by decide) ?_
            refine A_weak (bad (fun y => ?_)) (by repeat first | exact fw_0 | refine fw_s ?_ | refine fw_n ?_)
            unfold okWy at y
            rw [bN_eq b162, Bool.false_and] at y
            cases y
          · refine A_iload dX10_findTurn_165 rfl ?_
            refine A_if_lt (tgt := 177) dX10_findTurn_167 (by decide) (fun b167 => absurd b167 hge) (fun b167 => ?_)
            refine A_iload dX10_findTurn_170 rfl ?_
            refine A_iload dX10_findTurn_172 rfl ?_
            rw [eL]
            refine A_icmp_geN (tgt := 220) dX10_findTurn_174 (by decide) (by omega) (by omega) (fun b174 => ?_) (fun b174 => ?_)
            · refine A_iincN (ls1 := [_, _, _, _, _, _, _, _, _, _, _]) dX10_findTurn_220 rfl (by decide) rfl rfl ?_
              refine A_goto (tgt := 33) dX10_findTurn_223 (by decide) ?_
              rw [← eL]
              refine A_weak (bad (fun y => ?_)) (by repeat first | exact fw_0 | refine fw_s ?_ | refine fw_n ?_)
              obtain ⟨x0, k1, k2⟩ := hS.le2 eL hz
              exact ⟨x0, k1, by omega⟩
            · rw [← eL]
              exact A_weak (try1 (Or.inr ⟨z, hz, eL, b174⟩) (bN_ne b162)) (by repeat first | exact fw_0 | refine fw_s ?_ | refine fw_n ?_)
      refine A_iload dX10_findTurn_33 rfl ?_
      refine A_iload dX10_findTurn_35 rfl ?_
      refine A_icmp_geN (tgt := 226) dX10_findTurn_37 (by decide) (by omega) (by omega) (fun b37 => ?_) (fun b37 => ?_)
      · refine A_iconst (v := nI 0) dX10_findTurn_226 (by decide +kernel) ?_
        refine A_istore (ls1 := [_, _, _, _, _, _, _, _, _, _, _]) dX10_findTurn_227 (by decide) rfl rfl ?_
        have hfin : (L = -1 ∧ (∀ y, y < 625 → okWy c b n T y = false)) ∨ (∃ y, LeastW c b n T y ∧ L = nI (szW y) ∧ ∀ s, s < 4 → μ1 99 s = chF y s) := by
          rcases hS with ⟨e1, e2⟩ | ⟨x0, e1, e2, e3, e4, e5⟩
          · refine Or.inl ⟨e1, fun y hy => ?_⟩
            cases z : okWy c b n T y with
            | false => rfl
            | true =>
              obtain ⟨x, hx, rfl⟩ := okWy_k hk hk4 hy z
              rw [e2 x (by omega)] at z
              cases z
          · refine Or.inr ⟨wy k x0, ⟨wy_lt hk4 (by omega), e2, fun y hy hy2 => ?_⟩, e3, e4⟩
            obtain ⟨x, hx, rfl⟩ := okWy_k hk hk4 hy hy2
            rcases e5 x (by omega) hy2 with z | ⟨z1, z2⟩
            · exact Or.inl z
            · refine Or.inr ⟨z1, ?_⟩
              rcases Nat.lt_or_ge x0 x with q2 | q2
              · exact Nat.le_of_lt ((wy_mono hk4).mp q2)
              · rw [show x0 = x by omega]
                exact Nat.le_refl _
        exact A_weak (last L μ1 hfin 5 0 μ1 (by omega) (by omega) hM (fun s hs => by omega) (fun s _ _ => rfl)) (by repeat first | exact fw_0 | refine fw_s ?_ | refine fw_n ?_)
      · refine A_iload dX10_findTurn_40 rfl ?_
        refine A_istore (ls1 := [_, _, _, _, _, _, _, _, _, _, _]) dX10_findTurn_42 (by decide) rfl rfl ?_
        refine A_iconst (v := nI 0) dX10_findTurn_44 (by decide +kernel) ?_
        refine A_istore (ls1 := [_, _, _, _, _, _, _, _, _, _, _]) dX10_findTurn_45 (by decide) rfl rfl ?_
        refine A_iconst (v := nI 1) dX10_findTurn_47 (by decide +kernel) ?_
        refine A_istore (ls1 := [_, _, _, _, _, _, _, _, _, _, _]) dX10_findTurn_48 (by decide) rfl rfl ?_
        refine A_aload_n dX10_findTurn_50 rfl ?_
        refine A_getI dX10_findTurn_51 flX10_99 rfl rfl ?_
        rw [hs0]
        refine A_iconst (v := nI 1) dX10_findTurn_54 (by decide +kernel) ?_
        refine A_isub dX10_findTurn_55 ?_
        refine A_istore (ls1 := [_, _, _, _, _, _, _, _, _, _, _]) dX10_findTurn_56 (by decide) rfl rfl ?_
        refine A_weak (digits i L μ1 b37 hM (body b37) k i 0 true μ1 (Nat.le_refl k) (by rw [Nat.sub_self, Nat.pow_zero, Nat.div_one]) (Nat.zero_add _) ⟨fun _ s h5 h6 => by omega, fun _ => rfl⟩ hM (fun s h5 h6 => ?_) (fun s => rfl)) (by repeat first | exact fw_0 | refine fw_s ?_ | refine fw_n ?_)
        rw [h94 s h5 h6]
        exact (chF_0.mpr (wy_2 hk4 (by rw [hA]; exact b37) h5 h6)).symm
  have pw : ∀ (q i : Nat), k - i < q → i ≤ k → AW mX10_findTurn (5, none) P 6 [some (.ref 75), some (.int (nI b)), some (.int (nI n)), some (.int (nI T)), some (.int (nI (5 ^ i))), some (.int (nI i)), none, none, none, none, none] [] μ ν := by
    intro q
    induction q with
    | zero => intro i h; omega
    | succ q ih =>
      intro i hq hi
      have ih1 : i < k → _ := fun h => ih (i + 1) (by omega) (by omega)
      rw [Nat.pow_succ] at ih1
      refine A_iload dX10_findTurn_6 rfl ?_
      refine A_aload_n dX10_findTurn_8 rfl ?_
      refine A_getI dX10_findTurn_9 flX10_99 rfl rfl ?_
      rw [hs00]
      refine A_icmp_geN (tgt := 27) dX10_findTurn_12 (by decide) (by omega) (by omega) (fun b12 => ?_) (fun b12 => ?_)
      · refine A_iconst (v := (-1)) dX10_findTurn_27 (by decide +kernel) ?_
        refine A_istore (ls1 := [_, _, _, _, _, _, _, _, _, _, _]) dX10_findTurn_28 (by decide) rfl rfl ?_
        refine A_iconst (v := nI 0) dX10_findTurn_30 (by decide +kernel) ?_
        refine A_istore (ls1 := [_, _, _, _, _, _, _, _, _, _, _]) dX10_findTurn_31 (by decide) rfl rfl ?_
        rw [show i = k by omega, hA]
        exact A_weak (loop (A + 1) 0 (-1) μ (by omega) (by omega) Mf.rf (fun s h5 h6 => hB.1 s h6) (Or.inl ⟨rfl, fun x hx => by omega⟩)) (by repeat first | exact fw_0 | refine fw_s ?_ | refine fw_n ?_)
      · refine A_iload dX10_findTurn_15 rfl ?_
        refine A_iconst (v := nI 5) dX10_findTurn_17 (by decide +kernel) ?_
        refine A_imulN dX10_findTurn_18 ?_
        refine A_istore (ls1 := [_, _, _, _, _, _, _, _, _, _, _]) dX10_findTurn_19 (by decide) rfl rfl ?_
        refine A_iincN (ls1 := [_, _, _, _, _, _, _, _, _, _, _]) dX10_findTurn_21 rfl (by decide) rfl rfl ?_
        refine A_goto (tgt := 6) dX10_findTurn_24 (by decide) ?_
        exact ih1 b12
  refine A_iconst (v := nI 1) dX10_findTurn_0 (by decide +kernel) ?_
  refine A_istore (ls1 := [_, _, _, _, _, _, _, _, _, _, _]) dX10_findTurn_1 (by decide) rfl rfl ?_
  refine A_iconst (v := nI 0) dX10_findTurn_3 (by decide +kernel) ?_
  refine A_istore (ls1 := [_, _, _, _, _, _, _, _, _, _, _]) dX10_findTurn_4 (by decide) rfl rfl ?_
  exact pw (k + 1) 0 (by omega) (by omega)
theorem m_mended (b n T s : Int32) {m k : Nat} {c μ : MI} {ν : ML} {P : Po} (hC : WC c) (hc : CM c μ) (hB : B0 μ) (hm : c 2 0 = nI m) (hm8 : m ≤ 8) (hk : c 7 0 = nI k) (hk4 : k ≤ 4) (hu : ¬ (inR b m ∧ (s = -1 ∨ inR s k)) → P (some (.int (-1001))) μ ν) (ho : (inR b m ∧ (s = -1 ∨ inR s k)) → ¬ ((nI 0 ≤ n ∧ n ≤ nI 200) ∧ (nI 1 ≤ T ∧ T ≤ nI 200)) → P (some (.int (-1002))) μ ν)
    (h1 : ∀ b1 n1 T1 x μ', b = nI b1 → b1 < m → n = nI n1 → n1 ≤ 200 → T = nI T1 → 1 ≤ T1 → T1 ≤ 200 → (s = -1 ∨ inR s k) → LeastW c b1 n1 T1 x → Mf μ μ' → B0 μ' → P (some (.int (meR (some x) s))) μ' ν) (h0 : ∀ b1 n1 T1 μ', b = nI b1 → b1 < m → n = nI n1 → n1 ≤ 200 → T = nI T1 → 1 ≤ T1 → T1 ≤ 200 → (s = -1 ∨ inR s k) → (∀ y, y < 625 → okWy c b1 n1 T1 y = false) → Mf μ μ' → B0 μ' → P (some (.int (meR none s))) μ' ν) : Ct mX10_mended 6 [.ref 75, .int b, .int n, .int T, .int s] μ ν P := by
  refine Ct.of (ls0 := [_, _, _, _, _, _]) (by decide) rfl (Nat.le_of_ble_eq_true rfl) rfl ?_
  have hN : N (c 2 0) = m := by rw [hm]; exact N_nI (by omega)
  have hNk : N (c 7 0) = k := by rw [hk]; exact N_nI (by omega)
  have hm2 : μ 75 0 = nI m := hc.1.1.trans hm
  have hk2 : μ 75 5 = nI k := hc.1.2.1.trans hk
  have main : inR b m → (s = -1 ∨ inR s k) → AW mX10_mended (6, none) P 27 [some (.ref 75), some (.int b), some (.int n), some (.int T), some (.int s), none] [] μ ν := by
    intro gb gs
    have neg : s < 0 → s = -1 := fun q => by
      rcases gs with e | e
      · exact e
      · exact absurd e (inR_0 q (by omega))
    have pos : 0 ≤ s → ¬ s = -1 ∧ inR s k := fun q => by
      rcases gs with e | e
      · rw [e] at q
        exact absurd q (by decide +kernel)
      · obtain ⟨j, hj, hj2⟩ := e
        exact ⟨by rw [hj]; exact nI_nm1 (by omega), j, hj, hj2⟩
    refine A_iload_n dX10_mended_27 rfl ?_
    refine A_i2l dX10_mended_28 ?_
    refine A_lconst (v := 0) dX10_mended_29 rfl ?_
    refine A_ldc2 dX10_mended_30 kcX10_171 ?_
    refine A_callS3 dX10_mended_33 mlX10_95 (by decide) (Nat.le_of_ble_eq_true rfl) (m_in n (nI 0) (nI 200) rfl (by decide +kernel) (by decide +kernel) (fun g1 g2 => ?_) (fun g3 => ?_))
    · refine Kn.s ?_
      refine A_if_eq (tgt := 51) dX10_mended_36 (by decide) (fun h => absurd h (by decide +kernel)) (fun _ => ?_)
      refine A_iload_n dX10_mended_39 rfl ?_
      refine A_i2l dX10_mended_40 ?_
      refine A_lconst (v := 1) dX10_mended_41 rfl ?_
      refine A_ldc2 dX10_mended_42 kcX10_171 ?_
      refine A_callS3 dX10_mended_45 mlX10_95 (by decide) (Nat.le_of_ble_eq_true rfl) (m_in T (nI 1) (nI 200) rfl (by decide +kernel) (by decide +kernel) (fun g4 g5 => ?_) (fun g6 => ?_))
      · refine Kn.s ?_
        refine A_if_ne (tgt := 55) dX10_mended_48 (by decide) (fun _ => ?_) (fun h => absurd h (by decide +kernel))
        obtain ⟨b1, hb, hb1⟩ := id gb
        obtain ⟨n1, hn1, en⟩ := nI_of2 (M := nI 200) (n := 200) rfl (i_le_n g1) g2
        obtain ⟨T1, hT1, eT⟩ := nI_of2 (M := nI 200) (n := 200) rfl (i_le_n (Int32.le_trans (show (0 : Int32) ≤ nI 1 by decide +kernel) g4)) g5
        have hT0 : 1 ≤ T1 := by rw [eT] at g4; exact (nI_leI (by omega) (by omega)).mp g4
        have h1' := fun x μ' => h1 b1 n1 T1 x μ' hb hb1 en hn1 eT hT0 hT1 gs
        have h0' := fun μ' => h0 b1 n1 T1 μ' hb hb1 en hn1 eT hT0 hT1 gs
        subst hb
        subst en
        subst eT
        clear h1 h0
        refine A_aload_n dX10_mended_55 rfl ?_
        refine A_iload_n dX10_mended_56 rfl ?_
        refine A_iload_n dX10_mended_57 rfl ?_
        refine A_iload_n dX10_mended_58 rfl ?_
        refine A_callV3 dX10_mended_59 mlX10_231 (by decide) rfl rfl (Nat.le_of_ble_eq_true rfl) (m_findTurn hn1 hT1 hC hc hB (by omega) hNk (fun x μ2 g7 g8 g9 ga => ?_) (fun μ2 g7 g8 g9 ga => ?_))
        · refine Kn.s ?_
          refine A_istore (ls1 := [_, _, _, _, _, _]) dX10_mended_62 (by decide) rfl rfl ?_
          refine A_iload dX10_mended_64 rfl ?_
          refine A_if_ge (tgt := 74) dX10_mended_66 (by decide) (fun b66 => ?_) (fun b66 => ?_)
          · obtain ⟨nm, s1, es, hs1⟩ := pos b66
            refine A_aload_n dX10_mended_74 rfl ?_
            refine A_getR dX10_mended_75 flX10_89 rfl rfl ?_
            refine A_iload dX10_mended_78 rfl ?_
            refine A_ialdN (j := s1) dX10_mended_80 rfl es (by omega) (by decide) ?_
            rw [g8 s1 (by omega)]
            refine A_iret dX10_mended_81 rfl rfl ?_
            have h9 := h1' x μ2 g7 g9 ga
            simp only [meR] at h9
            rw [if_neg nm, es, N_nI (by omega)] at h9
            exact h9
          · refine A_iload dX10_mended_69 rfl ?_
            refine A_goto (tgt := 81) dX10_mended_71 (by decide) ?_
            refine A_iret dX10_mended_81 rfl rfl ?_
            have h9 := h1' x μ2 g7 g9 ga
            simp only [meR] at h9
            rw [if_pos (neg (i_nle b66))] at h9
            exact h9
        · refine Kn.s ?_
          refine A_istore (ls1 := [_, _, _, _, _, _]) dX10_mended_62 (by decide) rfl rfl ?_
          refine A_iload dX10_mended_64 rfl ?_
          refine A_if_ge (tgt := 74) dX10_mended_66 (by decide) (fun b66 => ?_) (fun b66 => ?_)
          · obtain ⟨nm, s1, es, hs1⟩ := pos b66
            refine A_aload_n dX10_mended_74 rfl ?_
            refine A_getR dX10_mended_75 flX10_89 rfl rfl ?_
            refine A_iload dX10_mended_78 rfl ?_
            refine A_ialdN (j := s1) dX10_mended_80 rfl es (by omega) (by decide) ?_
            rw [g8 s1 (by omega)]
            refine A_iret dX10_mended_81 rfl rfl ?_
            have h9 := h0' μ2 g7 g9 ga
            simp only [meR] at h9
            rw [if_neg nm] at h9
            exact h9
          · refine A_iload dX10_mended_69 rfl ?_
            refine A_goto (tgt := 81) dX10_mended_71 (by decide) ?_
            refine A_iret dX10_mended_81 rfl rfl ?_
            have h9 := h0' μ2 g7 g9 ga
            simp only [meR] at h9
            rw [if_pos (neg (i_nle b66))] at h9
            exact h9
      · refine Kn.s ?_
        refine A_if_ne (tgt := 55) dX10_mended_48 (by decide) (fun h => absurd h (by decide +kernel)) (fun _ => ?_)
        refine A_sipush (v := (-1002)) dX10_mended_51 (by decide +kernel) ?_
        refine A_iret dX10_mended_54 rfl rfl ?_
        exact ho ⟨gb, gs⟩ (fun q => g6 q.2)
    · refine Kn.s ?_
      refine A_if_eq (tgt := 51) dX10_mended_36 (by decide) (fun _ => ?_) (fun h => absurd h (by decide +kernel))
      refine A_sipush (v := (-1002)) dX10_mended_51 (by decide +kernel) ?_
      refine A_iret dX10_mended_54 rfl rfl ?_
      exact ho ⟨gb, gs⟩ (fun q => g3 q.1)
  refine A_aload_n dX10_mended_0 rfl ?_
  refine A_iload_n dX10_mended_1 rfl ?_
  refine A_callV1 dX10_mended_2 mlX10_106 (by decide) rfl rfl (Nat.le_of_ble_eq_true rfl) (m_noBucket _ hm2 hm8 (fun g1 => ?_) (fun g1 => ?_))
  · refine Kn.s ?_
    refine A_if_ne (tgt := 23) dX10_mended_5 (by decide) (fun h => absurd h (by decide +kernel)) (fun _ => ?_)
    refine A_iload dX10_mended_8 rfl ?_
    refine A_iconst (v := (-1)) dX10_mended_10 (by decide +kernel) ?_
    refine A_icmp_eq (tgt := 27) dX10_mended_11 (by decide) (fun b11 => ?_) (fun b11 => ?_)
    · exact main g1 (Or.inl b11)
    · refine A_aload_n dX10_mended_14 rfl ?_
      refine A_iload dX10_mended_15 rfl ?_
      refine A_callV1 dX10_mended_17 mlX10_112 (by decide) rfl rfl (Nat.le_of_ble_eq_true rfl) (m_noSpout _ hk2 hk4 (fun g2 => ?_) (fun g2 => ?_))
      · refine Kn.s ?_
        refine A_if_eq (tgt := 27) dX10_mended_20 (by decide) (fun _ => ?_) (fun h => absurd h (by decide +kernel))
        exact main g1 (Or.inr g2)
      · refine Kn.s ?_
        refine A_if_eq (tgt := 27) dX10_mended_20 (by decide) (fun h => absurd h (by decide +kernel)) (fun _ => ?_)
        refine A_sipush (v := (-1001)) dX10_mended_23 (by decide +kernel) ?_
        refine A_iret dX10_mended_26 rfl rfl ?_
        exact hu (fun q => q.2.elim b11 g2)
  · refine Kn.s ?_
    refine A_if_ne (tgt := 23) dX10_mended_5 (by decide) (fun _ => ?_) (fun h => absurd h (by decide +kernel))
    refine A_sipush (v := (-1001)) dX10_mended_23 (by decide +kernel) ?_
    refine A_iret dX10_mended_26 rfl rfl ?_
    exact hu (fun q => g1 q.1)
