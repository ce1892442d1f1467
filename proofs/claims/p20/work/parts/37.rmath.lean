/-! the round: what comes again -/
/-- a bucket that isn't there holds nothing -/
def GN (nb : Nat) (S : St) : Prop := ∀ b, nb ≤ b → sH S b = 0 ∧ sD S b = 0 ∧ ∀ j, sC S b j = 0
theorem GN.le {nb nb' : Nat} {S : St} (h : GN nb S) (hl : nb ≤ nb') : GN nb' S := fun b hb => h b (by omega)
theorem GN.gd {nb : Nat} {S : St} (h : GN nb S) : GD nb S := fun b hb => (h b hb).2.1
theorem GN_S0 (nb : Nat) : GN nb S0 := fun _ _ => ⟨rfl, rfl, fun _ => rfl⟩
theorem GN_pour {nb b : Nat} (hb : b < nb) (v : Int32) {S : St} (h : GN nb S) : GN nb (pourP b v S) := by
  intro a ha
  obtain ⟨h1, h2, h3⟩ := h a ha
  unfold pourP
  split
  · exact ⟨(un_n _ _ (by omega)).trans h1, h2, h3⟩
  · exact ⟨h1, h2, h3⟩
theorem GN_setC {nb b : Nat} (hb : b < nb) (j : Nat) (v : Int32) {S : St} (h : GN nb S) : GN nb (setC b j v S) := by
  intro a ha
  obtain ⟨h1, h2, h3⟩ := h a ha
  exact ⟨h1, h2, fun i => (up2_a _ _ (by omega)).trans (h3 i)⟩
theorem GN_drips {c tw : MI} {t : Nat} {S : St} (hC : WC c) (h : GN (N (c 2 0)) S) : ∀ k, k ≤ N (c 7 0) → GN (N (c 2 0)) (dripsP c tw t k S)
  | 0, _ => h
  | k + 1, hk => by
    have ih := GN_drips (tw := tw) (t := t) hC h k (by omega)
    rw [dripsP, dripP]
    split
    · exact GN_pour (hC.2.1.2 k hk).1.2 _ ih
    · exact ih
theorem GN_pipes {nb : Nat} {S : St} (h : GN nb S) : ∀ k, k ≤ nb → GN nb (pipesP k S)
  | 0, _ => h
  | k + 1, hk => GN_setC (by omega) 0 0 (GN_pour (by omega) _ (GN_pipes h k (by omega)))
theorem GN_dries {nb : Nat} {S : St} (h : GN nb S) : ∀ k, k ≤ nb → GN nb (driesP k S)
  | 0, _ => h
  | k + 1, hk => by
    have ih := GN_dries h k (by omega)
    rw [driesP, dryP]
    split
    · intro a ha
      obtain ⟨h1, h2, h3⟩ := ih a ha
      exact ⟨(un_n _ _ (by omega)).trans h1, h2, h3⟩
    · exact ih
theorem GN_turns {c tw : MI} {t : Nat} {S : St} (hC : WC c) (h : GN (N (c 2 0)) S) : ∀ k, k ≤ N (c 2 0) → GN (N (c 2 0)) (turnsP c tw t k S)
  | 0, _ => h
  | k + 1, hk => by
    have ih := GN_turns (tw := tw) (t := t) hC h k (by omega)
    rw [turnsP]
    generalize turnsP c tw t k S = T at ih
    unfold turnP
    split
    · intro a ha
      obtain ⟨h1, h2, h3⟩ := ih a ha
      exact ⟨h1, (un_n _ _ (by omega)).trans h2, h3⟩
    · split
      · have hf : GN (N (c 2 0)) (fallP c tw k T) := by
          unfold fallP
          split
          · exact ih
          · next q =>
            have n5 : ¬ c 5 k < 0 := fun z => q (by unfold brookB; rw [decide_eq_true z, Bool.or_true])
            exact GN_setC (hC.pipe hk n5).2.1 _ _ ih
        intro a ha
        obtain ⟨h1, h2, h3⟩ := hf a ha
        exact ⟨(un_n _ _ (by omega)).trans h1, (un_n _ _ (by omega)).trans h2, h3⟩
      · exact ih
theorem GN_watered {c tw : MI} {t : Nat} {S : St} (hC : WC c) (h : GN (N (c 2 0)) S) : GN (N (c 2 0)) (wateredP c tw t S) := by
  have h1 := GN_pipes (GN_drips (tw := tw) (t := t) hC h _ (Nat.le_refl _)) _ (Nat.le_refl _)
  unfold wateredP
  split
  · exact GN_dries h1 _ (Nat.le_refl _)
  · exact h1
theorem GN_step {c tw : MI} {t : Nat} {S : St} (hC : WC c) (h : GN (N (c 2 0)) S) : GN (N (c 2 0)) (stepP c tw t S) := by
  intro b hb
  obtain ⟨h1, h2, h3⟩ := GN_turns (tw := tw) (t := t) hC (GN_watered (tw := tw) (t := t) hC h) _ (Nat.le_refl _) b hb
  exact ⟨h1, h2, fun j => h3 (j + 1)⟩
theorem GN_run {c tw : MI} (hC : WC c) : ∀ t, GN (N (c 2 0)) (runP c tw t)
  | 0 => GN_S0 _
  | t + 1 => GN_step hC (GN_run hC t)
theorem GN_adv {c tw : MI} (hC : WC c) {t : Nat} {S : St} (h : GN (N (c 2 0)) S) : ∀ n, GN (N (c 2 0)) (advP c tw t S n)
  | 0 => h
  | n + 1 => GN_step hC (GN_adv hC h n)
/-- the same water, the same rests, the same on the way -/
def cE (S T : St) : Prop := sH S = sH T ∧ sD S = sD T ∧ sC S = sC T
theorem cE.rf (S : St) : cE S S := ⟨rfl, rfl, rfl⟩
theorem cE.sy {S T : St} (h : cE S T) : cE T S := ⟨h.1.symm, h.2.1.symm, h.2.2.symm⟩
theorem cE.tr {S T U : St} (h : cE S T) (h2 : cE T U) : cE S U := ⟨h.1.trans h2.1, h.2.1.trans h2.2.1, h.2.2.trans h2.2.2⟩
theorem cE_if {p p' : Prop} [Decidable p] [Decidable p'] {S S' T T' : St} (hp : p ↔ p') (h1 : cE S S') (h2 : cE T T') : cE (if p then S else T) (if p' then S' else T') := by
  by_cases h : p
  · rw [if_pos h, if_pos (hp.mp h)]
    exact h1
  · rw [if_neg h, if_neg (fun q => h (hp.mpr q))]
    exact h2
theorem cE_pour {S T : St} (b : Nat) (v : Int32) (h : cE S T) : cE (pourP b v S) (pourP b v T) := by
  obtain ⟨h1, h2, h3⟩ := h
  refine cE_if (by rw [h2]) ⟨?_, h2, h3⟩ ⟨h1, h2, h3⟩
  show un (sH S) b (sH S b + v) = un (sH T) b (sH T b + v)
  rw [h1]
theorem cE_setC {S T : St} (b j : Nat) (v : Int32) (h : cE S T) : cE (setC b j v S) (setC b j v T) := by
  obtain ⟨h1, h2, h3⟩ := h
  refine ⟨h1, h2, ?_⟩
  show up2 (sC S) b j v = up2 (sC T) b j v
  rw [h3]
theorem pl_ne : ¬ plP 0 0 = 0 := by decide +kernel
theorem held_pl (c : MI) (k t : Nat) : heldB c plP k t = false := by
  unfold heldB
  rw [decide_eq_false pl_ne, Bool.false_and, Bool.or_false]
  exact decide_eq_false (fun q => q rfl)
theorem water_pl (c : MI) (k t u : Nat) : waterP c plP t k = waterP c plP u k := by
  unfold waterP
  rw [if_neg pl_ne, if_neg pl_ne]
theorem cE_drips {c : MI} {t u : Nat} {S T : St} (h : cE S T) : ∀ k, (∀ s, s < k → dueB c s t = dueB c s u) → cE (dripsP c plP t k S) (dripsP c plP u k T)
  | 0, _ => h
  | k + 1, hd => by
    have ih := cE_drips (c := c) h k (fun s hs => hd s (by omega))
    rw [dripsP, dripsP]
    unfold dripP
    rw [hd k (Nat.lt_succ_self k), held_pl, held_pl, water_pl c k t u]
    exact cE_if Iff.rfl (cE_pour _ _ ih) ih
theorem cE_pipes {S T : St} (h : cE S T) : ∀ k, cE (pipesP k S) (pipesP k T)
  | 0 => h
  | k + 1 => by
    have ih := cE_pipes h k
    rw [pipesP, pipesP]
    unfold pipeP
    rw [ih.2.2]
    exact cE_setC _ _ _ (cE_pour _ _ ih)
theorem cE_dries {S T : St} (h : cE S T) : ∀ k, cE (driesP k S) (driesP k T)
  | 0 => h
  | k + 1 => by
    have ih := cE_dries h k
    rw [driesP, driesP]
    unfold dryP
    refine cE_if (by rw [ih.1, ih.2.1]) ⟨?_, ih.2.1, ih.2.2⟩ ih
    show un (sH _) k (sH _ k - 1) = un (sH _) k (sH _ k - 1)
    rw [ih.1]
theorem cE_turn {c tw : MI} {t u b : Nat} {S T : St} (h : cE S T) : cE (turnP c tw t b S) (turnP c tw u b T) := by
  obtain ⟨h1, h2, h3⟩ := h
  unfold turnP
  refine cE_if (by rw [h2]) ⟨h1, ?_, h3⟩ (cE_if (by unfold knB; rw [h1, h2]) ?_ ⟨h1, h2, h3⟩)
  · show un (sD S) b (sD S b - 1) = un (sD T) b (sD T b - 1)
    rw [h2]
  · have hf : cE (fallP c tw b S) (fallP c tw b T) := by
      unfold fallP
      refine cE_if Iff.rfl ⟨h1, h2, h3⟩ ?_
      rw [h1, h3]
      exact cE_setC _ _ _ ⟨h1, h2, h3⟩
    obtain ⟨f1, f2, f3⟩ := hf
    refine ⟨?_, ?_, f3⟩
    · show un (sH (fallP c tw b S)) b 0 = un (sH (fallP c tw b T)) b 0
      rw [f1]
    · show un (sD (fallP c tw b S)) b (N (c 4 b)) = un (sD (fallP c tw b T)) b (N (c 4 b))
      rw [f2]
theorem cE_turns {c tw : MI} {t u : Nat} {S T : St} (h : cE S T) : ∀ k, cE (turnsP c tw t k S) (turnsP c tw u k T)
  | 0 => h
  | k + 1 => cE_turn (cE_turns h k)
theorem cE_step {c : MI} {t u : Nat} {S T : St} (hd : ∀ s, s < N (c 7 0) → dueB c s t = dueB c s u) (hr : dryT c t = dryT c u) (h : cE S T) : cE (stepP c plP t S) (stepP c plP u T) := by
  have h1 : cE (wateredP c plP t S) (wateredP c plP u T) := by
    unfold wateredP
    rw [hr]
    have h2 := cE_pipes (cE_drips (c := c) h _ hd) (N (c 2 0))
    exact cE_if Iff.rfl (cE_dries h2 _) h2
  obtain ⟨f1, f2, f3⟩ := cE_turns (c := c) (tw := plP) (t := t) (u := u) h1 (N (c 2 0))
  refine ⟨f1, f2, ?_⟩
  show (fun b j => sC (turnsP c plP t (N (c 2 0)) (wateredP c plP t S)) b (j + 1)) = (fun b j => sC (turnsP c plP u (N (c 2 0)) (wateredP c plP u T)) b (j + 1))
  rw [f3]
theorem beatB_iff {c : MI} (hC : WC c) (n : Nat) : beatB c n = true ↔ (∀ s, s < N (c 7 0) → n % N (c 10 s) = 0) ∧ (N (c 1 4) = 0 ∨ n % N (c 1 4) = 0) := by
  unfold beatB
  rw [Bool.and_eq_true, allB_iff, Bool.or_eq_true, decide_eq_true_eq, decide_eq_true_eq]
  constructor
  · rintro ⟨h1, h2⟩
    refine ⟨fun s hs => ?_, h2⟩
    have := h1 s hs
    rw [Bool.and_eq_true, decide_eq_true_eq, decide_eq_true_eq] at this
    exact this.2
  · rintro ⟨h1, h2⟩
    refine ⟨fun s hs => ?_, h2⟩
    rw [Bool.and_eq_true, decide_eq_true_eq, decide_eq_true_eq]
    exact ⟨(hC.2.1.2 s hs).2.1.2, h1 s hs⟩
/-- after tick a the course is as after tick b -/
def EQ (c : MI) (a b : Nat) : Prop := cE (runP c plP a) (runP c plP b)
theorem EQ_next {c : MI} (hC : WC c) {a n : Nat} (ha : 30 ≤ a) (hn : beatB c n = true) (h : EQ c a (a + n)) : EQ c (a + 1) (a + 1 + n) := by
  obtain ⟨h1, h2⟩ := (beatB_iff hC n).mp hn
  rw [show a + 1 + n = a + n + 1 by omega]
  refine cE_step (fun s hs => ?_) ?_ h
  · have hf := (hC.2.1.2 s hs).2.2.2
    unfold dueB
    rw [decide_eq_true (show N (c 11 s) ≤ a by omega), decide_eq_true (show N (c 11 s) ≤ a + n by omega)]
    congr 2
    rw [show a + n - N (c 11 s) = a - N (c 11 s) + n by omega, Nat.add_mod, h1 s hs, Nat.add_zero, Nat.mod_mod]
  · unfold dryT
    rcases h2 with h2 | h2
    · rw [h2]
      rfl
    · congr 2
      rw [Nat.add_mod, h2, Nat.add_zero, Nat.mod_mod]
theorem EQ_on {c : MI} (hC : WC c) {a n : Nat} (ha : 30 ≤ a) (hn : beatB c n = true) (h : EQ c a (a + n)) : ∀ k, EQ c (a + k) (a + k + n)
  | 0 => h
  | k + 1 => by
    have ih := EQ_on hC ha hn h k
    exact EQ_next (a := a + k) hC (by omega) hn ih
theorem EQ_many {c : MI} (hC : WC c) {a n : Nat} (ha : 30 ≤ a) (hn : beatB c n = true) (h : EQ c a (a + n)) : ∀ k, EQ c a (a + k * n)
  | 0 => by rw [Nat.zero_mul]; exact cE.rf _
  | k + 1 => by
    have h1 := EQ_many hC ha hn h k
    have h2 := EQ_on hC ha hn h (k * n)
    rw [Nat.add_mul, Nat.one_mul, ← Nat.add_assoc]
    exact cE.tr h1 h2
/-- a round: from a on, after n ticks, the least a, then the least n -/
def RND (c : MI) (a n : Nat) : Prop := 31 ≤ a ∧ a ≤ 1000 ∧ 1 ≤ n ∧ n ≤ 1000 ∧ beatB c n = true ∧ EQ c a (a + n) ∧ (∀ a' n', 31 ≤ a' → a' < a → 1 ≤ n' → n' ≤ 1000 → beatB c n' = true → ¬ EQ c a' (a' + n')) ∧ ∀ n', 1 ≤ n' → n' < n → beatB c n' = true → ¬ EQ c a (a + n')
theorem RND_uniq {c : MI} (hC : WC c) {a n a' n' : Nat} (h : RND c a n) (hn1 : 1 ≤ n') (hn : n' ≤ 1000) (hb : beatB c n' = true) (hE : EQ c 1000 (1000 + n')) (hmin : ∀ m, 1 ≤ m → m < n' → beatB c m = true → ¬ EQ c 1000 (1000 + m)) (ha : 31 ≤ a') (ha2 : a' ≤ 1000) (hE2 : EQ c a' (a' + n')) (hmin2 : ∀ m, 31 ≤ m → m < a' → ¬ EQ c m (m + n')) : a = a' ∧ n = n' := by
  obtain ⟨r1, r2, r3, r4, r5, r6, r7, r8⟩ := h
  have hle : n' ≤ n := by
    rcases Nat.lt_or_ge n n' with q | q
    · refine absurd ?_ (hmin n r3 q r5)
      have := EQ_on hC (by omega) r5 r6 (1000 - a)
      rw [show a + (1000 - a) = 1000 by omega] at this
      exact this
    · exact q
  have hmid : EQ c a (a + n') := by
    have h1 := EQ_many hC (by omega) r5 r6 1000
    have hbig : 1000 ≤ a + 1000 * n := by have : 1000 * 1 ≤ 1000 * n := Nat.mul_le_mul_left _ r3; omega
    have h2 := EQ_on hC (by omega) hb hE (a + 1000 * n - 1000)
    rw [show 1000 + (a + 1000 * n - 1000) = a + 1000 * n by omega] at h2
    have h3 : EQ c (a + n') (a + n' + 1000 * n) := by
      have h4 := EQ_on hC (by omega) r5 r6 n'
      exact EQ_many hC (by omega) r5 h4 1000
    rw [show a + 1000 * n + n' = a + n' + 1000 * n by omega] at h2
    exact (h1.tr h2).tr h3.sy
  have hn' : n = n' := by
    rcases Nat.lt_or_ge n' n with q | q
    · exact absurd hmid (r8 n' hn1 q hb)
    · omega
  subst hn'
  refine ⟨?_, rfl⟩
  rcases Nat.lt_trichotomy a a' with q | q | q
  · exact absurd r6 (hmin2 a r1 q)
  · exact q
  · exact absurd hE2 (r7 a' n ha q r3 r4 r5)
/-- no round -/
theorem RND_none {c : MI} (h : ∀ a n, 31 ≤ a → a ≤ 1000 → 1 ≤ n → n ≤ 1000 → beatB c n = true → ¬ EQ c a (a + n)) : ∀ n, 1 ≤ n → n ≤ 1000 → beatB c n = true → ¬ EQ c 1000 (1000 + n) := fun n h1 h2 h3 => h 1000 n (by omega) (by omega) h1 h2 h3
theorem RND_some {c : MI} (hC : WC c) {a n : Nat} (h : RND c a n) : EQ c 1000 (1000 + n) := by
  have := EQ_on hC (by have := h.1; omega) h.2.2.2.2.1 h.2.2.2.2.2.1 (1000 - a)
  rw [show a + (1000 - a) = 1000 by have := h.2.1; omega] at this
  exact this
theorem likeB_iff {c : MI} (hC : WC c) (a b : Nat) : likeB (N (c 2 0)) (runP c plP a) (runP c plP b) = true ↔ EQ c a b := by
  have ga := GN_run (tw := plP) hC a
  have gb := GN_run (tw := plP) hC b
  have ca := (GC_run (tw := plP) hC a).1
  have cb := (GC_run (tw := plP) hC b).1
  have h8 := hC.1.1.2
  unfold likeB
  rw [allB_iff]
  constructor
  · intro h
    have h1 : ∀ k, k < N (c 2 0) → sH (runP c plP a) k = sH (runP c plP b) k ∧ sD (runP c plP a) k = sD (runP c plP b) k ∧ ∀ i, i < 20 → sC (runP c plP a) k i = sC (runP c plP b) k i := fun k hk => by
      have := h k hk
      rw [Bool.and_eq_true, Bool.and_eq_true, decide_eq_true_eq, decide_eq_true_eq] at this
      refine ⟨this.1, this.2.1, fun i hi => ?_⟩
      have h3 := (allB_iff _ _).mp this.2.2 i hi
      exact of_decide_eq_true h3
    refine ⟨funext (fun k => ?_), funext (fun k => ?_), funext (fun k => funext (fun i => ?_))⟩
    · rcases Nat.lt_or_ge k (N (c 2 0)) with q | q
      · exact (h1 k q).1
      · rw [(ga k q).1, (gb k q).1]
    · rcases Nat.lt_or_ge k (N (c 2 0)) with q | q
      · exact (h1 k q).2.1
      · rw [(ga k q).2.1, (gb k q).2.1]
    · rcases Nat.lt_or_ge k (N (c 2 0)) with q | q
      · rcases Nat.lt_or_ge i 20 with q2 | q2
        · exact (h1 k q).2.2 i q2
        · rw [ca k i (by omega) q2, cb k i (by omega) q2]
      · rw [(ga k q).2.2 i, (gb k q).2.2 i]
  · rintro ⟨h1, h2, h3⟩ k hk
    rw [h1, h2]
    unfold comB
    rw [h3]
    simp [allB_t]
/-- the reference's likeness -/
def LK (S T : St) : Prop := ∀ b, b < 8 → sH S b = sH T b ∧ sD S b = sD T b ∧ ∀ k, k < 20 → sC S b k = sC T b k
theorem LK_iff {c : MI} (hC : WC c) (a b : Nat) : LK (runP c plP a) (runP c plP b) ↔ EQ c a b := by
  rw [← likeB_iff hC]
  have ga := GN_run (tw := plP) hC a
  have gb := GN_run (tw := plP) hC b
  have h8 := hC.1.1.2
  unfold likeB
  rw [allB_iff]
  constructor
  · intro h k hk
    obtain ⟨h1, h2, h3⟩ := h k (by omega)
    rw [h1, h2, decide_eq_true rfl, decide_eq_true rfl]
    unfold comB
    rw [allB_t (fun i hi => decide_eq_true (h3 i hi))]
    rfl
  · intro h k hk
    rcases Nat.lt_or_ge k (N (c 2 0)) with q | q
    · have := h k q
      rw [Bool.and_eq_true, Bool.and_eq_true, decide_eq_true_eq, decide_eq_true_eq] at this
      refine ⟨this.1, this.2.1, fun i hi => ?_⟩
      have h3 := (allB_iff _ _).mp this.2.2 i hi
      exact of_decide_eq_true h3
    · rw [(ga k q).1, (gb k q).1, (ga k q).2.1, (gb k q).2.1]
      refine ⟨rfl, rfl, fun i hi => ?_⟩
      rw [(ga k q).2.2 i, (gb k q).2.2 i]
theorem beat_sub {c : MI} (hC : WC c) {n l : Nat} (hn : beatB c n = true) (hl : beatB c l = true) : beatB c (n % l) = true := by
  obtain ⟨h1, h2⟩ := (beatB_iff hC n).mp hn
  obtain ⟨k1, k2⟩ := (beatB_iff hC l).mp hl
  refine (beatB_iff hC _).mpr ⟨fun s hs => ?_, ?_⟩
  · exact Nat.mod_eq_zero_of_dvd ((Nat.dvd_mod_iff (Nat.dvd_of_mod_eq_zero (k1 s hs))).mpr (Nat.dvd_of_mod_eq_zero (h1 s hs)))
  · rcases h2 with h2 | h2
    · exact Or.inl h2
    · rcases k2 with k2 | k2
      · exact Or.inl k2
      · exact Or.inr (Nat.mod_eq_zero_of_dvd ((Nat.dvd_mod_iff (Nat.dvd_of_mod_eq_zero k2)).mpr (Nat.dvd_of_mod_eq_zero h2)))
theorem beat_mul {c : MI} (hC : WC c) {l : Nat} (hl : beatB c l = true) (k : Nat) : beatB c (l * k) = true := by
  obtain ⟨k1, k2⟩ := (beatB_iff hC l).mp hl
  refine (beatB_iff hC _).mpr ⟨fun s hs => ?_, ?_⟩
  · exact Nat.mod_eq_zero_of_dvd (Nat.dvd_trans (Nat.dvd_of_mod_eq_zero (k1 s hs)) (Nat.dvd_mul_right l k))
  · rcases k2 with k2 | k2
    · exact Or.inl k2
    · exact Or.inr (Nat.mod_eq_zero_of_dvd (Nat.dvd_trans (Nat.dvd_of_mod_eq_zero k2) (Nat.dvd_mul_right l k)))
/-- the least beat counts all the others -/
theorem beat_least {c : MI} (hC : WC c) {n l : Nat} (h1 : 1 ≤ l) (hl : beatB c l = true) (hmin : ∀ m, 1 ≤ m → m < l → beatB c m = false) (hn : beatB c n = true) : ∃ k, n = l * k := by
  refine ⟨n / l, ?_⟩
  have h2 := Nat.div_add_mod n l
  have h3 := Nat.mod_lt n h1
  rcases Nat.eq_zero_or_pos (n % l) with q | q
  · omega
  · have := hmin _ q h3
    rw [beat_sub hC hn hl] at this
    cases this
