/-! ===== THE LAYER: the class and the reference live on a net of objects that never changes; its numbers are a memory; one rule an instruction ===== -/
abbrev MI : Type := Nat → Nat → Int32
abbrev ML : Type := Nat → Nat → Int64
/-- a cell's kind: 0 an object (its class's number, its fields: a number, or the cell that it leads to), 1 int[], 2 boolean[], 3 long[] (length), 4 rows (their cells) -/
abbrev Kd : Type := Nat × Nat × List (Option Nat)
def NO : Nat := 100
def layL : List Kd := 
  [(0, 9, [some 1, some 33, some 24, some 47, some 61, some 29, some 32]),
   (0, 5, [some 2, some 7, some 12, some 16, none]),
   (0, 1, [none, some 3, some 4, some 5, some 6]),
   (1, 8, []),
   (1, 8, []),
   (1, 8, []),
   (1, 8, []),
   (0, 7, [none, some 8, some 9, some 10, some 11]),
   (1, 4, []),
   (1, 4, []),
   (1, 4, []),
   (1, 4, []),
   (0, 3, [none, some 13, some 14, some 15]),
   (1, 10, []),
   (1, 10, []),
   (1, 10, []),
   (0, 6, [none, some 17, some 18]),
   (1, 10, []),
   (1, 10, []),
   (0, 8, [none, some 20, some 21, some 22, some 23]),
   (1, 4, []),
   (2, 4, []),
   (2, 8, []),
   (2, 8, []),
   (0, 8, [none, some 25, some 26, some 27, some 28]),
   (1, 4, []),
   (2, 4, []),
   (2, 8, []),
   (2, 8, []),
   (0, 4, [none, some 30, some 31]),
   (2, 8, []),
   (3, 8, []),
   (0, 0, [none, none, none]),
   (0, 2, [some 1, some 19, none, none, none, none, some 34, some 35, some 36, some 37, some 38]),
   (1, 8, []),
   (1, 8, []),
   (1, 8, []),
   (1, 8, []),
   (4, 8, [some 39, some 40, some 41, some 42, some 43, some 44, some 45, some 46]),
   (1, 20, []),
   (1, 20, []),
   (1, 20, []),
   (1, 20, []),
   (1, 20, []),
   (1, 20, []),
   (1, 20, []),
   (1, 20, []),
   (0, 2, [some 1, some 24, none, none, none, none, some 48, some 49, some 50, some 51, some 52]),
   (1, 8, []),
   (1, 8, []),
   (1, 8, []),
   (1, 8, []),
   (4, 8, [some 53, some 54, some 55, some 56, some 57, some 58, some 59, some 60]),
   (1, 20, []),
   (1, 20, []),
   (1, 20, []),
   (1, 20, []),
   (1, 20, []),
   (1, 20, []),
   (1, 20, []),
   (1, 20, []),
   (0, 2, [some 1, some 24, none, none, none, none, some 62, some 63, some 64, some 65, some 66]),
   (1, 8, []),
   (1, 8, []),
   (1, 8, []),
   (1, 8, []),
   (4, 8, [some 67, some 68, some 69, some 70, some 71, some 72, some 73, some 74]),
   (1, 20, []),
   (1, 20, []),
   (1, 20, []),
   (1, 20, []),
   (1, 20, []),
   (1, 20, []),
   (1, 20, []),
   (1, 20, []),
   (0, 10, [none, some 76, some 77, some 78, some 79, none, some 80, some 81, some 82, some 83, none, some 84, some 85, some 86, none, some 87, some 88, none, some 89, some 90, some 91, none, none, none, none, none, some 92, some 93, none, none, some 94, some 95, some 96, some 97, some 98, some 99]),
   (1, 8, []),
   (1, 8, []),
   (1, 8, []),
   (1, 8, []),
   (1, 4, []),
   (1, 4, []),
   (1, 4, []),
   (1, 4, []),
   (1, 10, []),
   (1, 10, []),
   (1, 10, []),
   (1, 10, []),
   (1, 10, []),
   (1, 16, []),
   (1, 16, []),
   (1, 336, []),
   (1, 8, []),
   (1, 8, []),
   (1, 4, []),
   (3, 8, []),
   (1, 352176, []),
   (2, 8, []),
   (3, 8, []),
   (1, 4, [])]
def lay (k : Nat) : Kd := layL.getD k (9, 0, [])
theorem lay_lt {k : Nat} (h : (lay k).1 ≠ 9) : k < NO := by
  rcases Nat.lt_or_ge k NO with q | q
  · exact q
  · exact absurd (by unfold lay; rw [List.getD_eq_getElem?_getD, List.getElem?_eq_none (show layL.length ≤ k from q)]; rfl) h
def up2 {α : Type} (f : Nat → Nat → α) (k j : Nat) (v : α) : Nat → Nat → α := fun a b => if a = k ∧ b = j then v else f a b
theorem up2_s {α : Type} (f : Nat → Nat → α) (k j : Nat) (v : α) : up2 f k j v k j = v := by simp [up2]
theorem up2_ne {α : Type} (f : Nat → Nat → α) {k j a b : Nat} (v : α) (h : ¬ (a = k ∧ b = j)) : up2 f k j v a b = f a b := by simp [up2, h]
theorem up2_a {α : Type} (f : Nat → Nat → α) {k j a b : Nat} (v : α) (h : a ≠ k) : up2 f k j v a b = f a b := by simp [up2, h]
theorem up2_b {α : Type} (f : Nat → Nat → α) {k j a b : Nat} (v : α) (h : b ≠ j) : up2 f k j v a b = f a b := by simp [up2, h]
def fv1 (ad : Nat → Nat) (o : Option Nat) (x : Int32) : Value := match o with
  | none => .int x
  | some q => .ref (ad q)
def ceK (κ : Kd) (ad : Nat → Nat) (ca : Nat → ClassId) (f : Nat → Int32) (g : Nat → Int64) : va_E :=
  if κ.1 = 0 then .inr (κ.2.1, κ.2.2.mapIdx (fun j o => fv1 ad o (f j)))
  else if κ.1 = 1 then .inl (ca 0, κ.2.1, .inl f)
  else if κ.1 = 2 then .inl (ca 1, κ.2.1, .inl f)
  else if κ.1 = 3 then .inl (ca 2, κ.2.1, .inr (.inl g))
  else .inl (ca 3, κ.2.1, .inr (.inr (.inr (.inr (fun j => (κ.2.2.getD j none).map ad)))))
def wl (ad : Nat → Nat) (ca : Nat → ClassId) (μ : MI) (ν : ML) : va_W := (List.range NO).map (fun k => (ad k, ceK (lay k) ad ca (μ k) (ν k)))
theorem wl_get {ad : Nat → Nat} {ca : Nat → ClassId} {μ : MI} {ν : ML} {k : Nat} (h : k < NO) : (wl ad ca μ ν)[k]? = some (ad k, ceK (lay k) ad ca (μ k) (ν k)) := by
  simp [wl, List.getElem?_range h]
theorem wl_out {ad : Nat → Nat} {ca : Nat → ClassId} {μ : MI} {ν : ML} {k : Nat} {q : Nat × va_E} (h : (wl ad ca μ ν)[k]? = some q) : k < NO ∧ q.1 = ad k := by
  have hl : k < NO := by
    have := (List.getElem?_eq_some_iff.mp h).1
    simpa [wl] using this
  rw [wl_get hl] at h
  cases h
  exact ⟨hl, rfl⟩
theorem wl_set {ad : Nat → Nat} {ca : Nat → ClassId} {μ μ' : MI} {ν ν' : ML} {k : Nat} {e : va_E} (hk : k < NO) (he : ceK (lay k) ad ca (μ' k) (ν' k) = e) (ho : ∀ a : Nat, a ≠ k → μ' a = μ a ∧ ν' a = ν a) : (wl ad ca μ ν).set k (ad k, e) = wl ad ca μ' ν' := by
  apply List.ext_getElem?
  intro i
  have hlen : (wl ad ca μ ν).length = NO := by simp [wl]
  by_cases hi : i = k
  · subst hi
    rw [List.getElem?_set_self (by rw [hlen]; exact hk), wl_get hk, he]
  · rw [List.getElem?_set_ne (fun h => hi h.symm)]
    by_cases hn : i < NO
    · rw [wl_get hn, wl_get hn, (ho i hi).1, (ho i hi).2]
    · have hlen' : (wl ad ca μ' ν').length = NO := by simp [wl]
      rw [List.getElem?_eq_none (by rw [hlen]; omega), List.getElem?_eq_none (by rw [hlen']; omega)]
theorem up2_row {α : Type} (f : Nat → Nat → α) (k j : Nat) (v : α) (a : Nat) (h : a ≠ k) : up2 f k j v a = f a := by
  funext b
  simp [up2, h]
theorem wl_D {A : Nat → Prop} {ad : Nat → Nat} {ca : Nat → ClassId} {μ μ' : MI} {ν ν' : ML} (h : va_D A (wl ad ca μ ν)) : va_D A (wl ad ca μ' ν') := by
  refine ⟨fun i j p q hi hj hpq => ?_, fun k q hk => ?_⟩
  · obtain ⟨a1, a2⟩ := wl_out hi
    obtain ⟨b1, b2⟩ := wl_out hj
    exact h.1 i j _ _ (wl_get a1) (wl_get b1) (by show ad i = ad j; rw [← a2, ← b2]; exact hpq)
  · obtain ⟨a1, a2⟩ := wl_out hk
    rw [a2]
    exact h.2 k _ (wl_get a1)
/-- the cells that may change: the net's, and new ones -/
def Ad (ad : Nat → Nat) (sz : Nat) : Nat → Prop := fun q => (∃ k : Nat, k < NO ∧ q = ad k) ∨ sz ≤ q
def tysOf (ca : Nat → ClassId) : List (ClassId × FieldType) := [(ca 0, .int), (ca 1, .boolean), (ca 2, .long), (ca 3, .array .int)]
def cv (ad : Nat → Nat) (v : Value) : Value := match v with
  | .ref a => .ref (ad a)
  | w => w
theorem cv_cat (ad : Nat → Nat) (v : Value) : (cv ad v).category = v.category := by cases v <;> rfl
theorem cv_sum (ad : Nat → Nat) (st : List Value) : ((st.map (cv ad)).map fun v => v.category).sum = (st.map fun v => v.category).sum := by
  rw [List.map_map]
  congr 1
  apply List.map_congr_left
  intro v _
  exact cv_cat ad v
def Wd (ad : Nat → Nat) (dC : Nat → ClassId) (dI : Nat → Nat → Nat) (ca : Nat → ClassId) (A : Nat → Prop) (s : State) (μ : MI) (ν : ML) (H : Heap) (locs : List Loc) : Prop :=
  va_P (dC, dI) vwCl (wl ad ca μ ν) H ∧ va_D A (wl ad ca μ ν) ∧ va_S A s.heap H locs
def Ls (ad : Nat → Nat) (nL : Nat) (ls : List (Option Value)) (lsC : Array Slot) : Prop := lsC.size = nL ∧ lv_wf lsC ∧ ∀ (i : Nat) (v : Value), ls[i]? = some (some v) → lsC[i]? = some (.val (cv ad v))
abbrev Po : Type := Option Value → MI → ML → Prop
abbrev Lv : Type := Nat × Option (Nat × (Nat → Int32))
/-- a return at pc with the answer v -/
def RetAt (M : MInfo) (pc : Nat) (v : Option Value) : Prop :=
  (DC M pc .ireturn 1 ∧ ∃ (x : Int32) (rt : FieldType), v = some (.int x) ∧ mRet M = some rt ∧ narrow rt (.int x) = .int x) ∨ (DC M pc .lreturn 1 ∧ ∃ x : Int64, v = some (.long x) ∧ mRet M = some .long) ∨ (DC M pc .return_ 1 ∧ v = none ∧ mRet M = none)
def Cx (M : MInfo) (d : Lv) (P : Po) (p : Program) (l : Launch) (e : Env) (R : Room) (s : State) (m : MethodId) (args : Array Value) (below : List Frame) (meth : Method) (c : Code) (cells slots : Nat) (Q : State → Prop) (ad : Nat → Nat) (dC : Nat → ClassId) (dI : Nat → Nat → Nat) (ca : Nat → ClassId) (A : Nat → Prop) : Prop :=
  (p.tables.exec = Jvm.exec ∧ c.code = mCode M ∧ c.maxLocals = mLoc M ∧ s.vm.findClass (mOwn M) = some m.cls ∧ ∀ w ∈ lw_g, w.before args s = true) ∧ va_K (dC, dI) vwCl (tysOf ca) s ∧ (∀ q : Nat, s.heap.size ≤ q → A q) ∧
  (d.1 ≤ R.frames ∧ 36 * d.1 ≤ R.locals ∧ cells ≤ R.cells ∧ slots ≤ R.slots) ∧
  (∀ (pc : Nat) (lsC : Array Slot) (v : Option Value) (μ : MI) (ν : ML) (H : Heap) (locs : List Loc), RetAt M pc v → P v μ ν → Wd ad dC dI ca A s μ ν H locs → W p l e R s m args below meth c H locs cells slots Q (F0 m pc lsC (v.toList.map (cv ad)))) ∧
  (∀ (L : Nat) (xs : Nat → Int32), d.2 = some (L, xs) → va_X (ad NO) L xs s s.heap ∧ ad NO < s.heap.size ∧ ¬ A (ad NO)) ∧ NW s
/-- the run from here, with these locals, this stack, this memory, comes to an end as P says -/
def AW (M : MInfo) (d : Lv) (P : Po) (pc : Nat) (ls : List (Option Value)) (st : List Value) (μ : MI) (ν : ML) : Prop :=
  ∀ (_ : True) {p : Program} {l : Launch} {e : Env} {R : Room} {s : State} {m : MethodId} {args : Array Value} {below : List Frame} {meth : Method} {c : Code} {cells slots : Nat} {Q : State → Prop} {ad : Nat → Nat} {dC : Nat → ClassId} {dI : Nat → Nat → Nat} {ca : Nat → ClassId} {A : Nat → Prop},
    Cx M d P p l e R s m args below meth c cells slots Q ad dC dI ca A → ∀ {H : Heap} {locs : List Loc} {lsC : Array Slot}, Wd ad dC dI ca A s μ ν H locs → Ls ad (mLoc M) ls lsC → W p l e R s m args below meth c H locs cells slots Q (F0 m pc lsC (st.map (cv ad)))
/-- behind a call: its answer on the stack -/
def Kn (M : MInfo) (d : Lv) (P : Po) (pc : Nat) (ls : List (Option Value)) (st : List Value) : Po := fun r μ ν => AW M d P pc ls (r.toList ++ st) μ ν
theorem Kn.v {M : MInfo} {d : Lv} {P : Po} {pc : Nat} {ls : List (Option Value)} {st : List Value} {μ : MI} {ν : ML} (h : AW M d P pc ls st μ ν) : Kn M d P pc ls st none μ ν := h
theorem Kn.s {M : MInfo} {d : Lv} {P : Po} {pc : Nat} {ls : List (Option Value)} {st : List Value} {μ : MI} {ν : ML} {v : Value} (h : AW M d P pc ls (v :: st) μ ν) : Kn M d P pc ls st (some v) μ ν := h
def rmD (d : Nat) : Room := { frames := d, cells := 0, slots := 0, locals := 36 * d }
def QG (ad : Nat → Nat) (dC : Nat → ClassId) (dI : Nat → Nat → Nat) (ca : Nat → ClassId) (P : Po) (A : Nat → Prop) : Array Value → State → Outcome → State → Prop := fun _ st oc t => (∃ (r : Option Value) (μ : MI) (ν : ML), oc = .returned (r.map (cv ad)) ∧ P r μ ν ∧ va_P (dC, dI) vwCl (wl ad ca μ ν) t.heap) ∧ va_F A st t
def mWs (M : MInfo) : List Cond := .code (mName M) (mCode M) (mLoc M) (mRet M) :: lw_g
/-- a method's contract: from this memory, with these arguments, it returns as P says -/
def Ct (M : MInfo) (d : Nat) (as : List Value) (μ : MI) (ν : ML) (P : Po) : Prop :=
  ∀ (l : Launch) (ad : Nat → Nat) (dC : Nat → ClassId) (dI : Nat → Nat → Nat) (ca : Nat → ClassId) (sz : Nat), Met l (mName M) (mWs M) (rmD d) (va_Pc (as.map (cv ad)) (fun U => U.heap.size = sz ∧ va_P (dC, dI) vwCl (wl ad ca μ ν) U.heap ∧ va_K (dC, dI) vwCl (tysOf ca) U ∧ va_D (fun _ => True) (wl ad ca μ ν) ∧ NW U)) (QG ad dC dI ca P (Ad ad sz)) 0 0 (Ad ad sz)
theorem mWs_good {M : MInfo} {n : Nat} (h : MW M n) : GoodIn lw_g (mWs M) := by
  have hg := lw_good
  intro w hw
  rcases List.mem_cons.mp hw with e | e
  · rw [e]
    exact ⟨h.2.1, hg _ h.2.1⟩
  · exact ⟨e, hg w e⟩
/-! the locals -/
def prs (ad : Nat → Nat) (ls : List (Option Value)) : List (Nat × Value) := (List.range ls.length).filterMap (fun i => (ls.getD i none).map (fun v => (i, cv ad v)))
theorem prs_mem {ad : Nat → Nat} {ls : List (Option Value)} {i : Nat} {v : Value} (h : ls[i]? = some (some v)) : (i, cv ad v) ∈ prs ad ls := by
  refine List.mem_filterMap.mpr ⟨i, List.mem_range.mpr (List.getElem?_eq_some_iff.mp h).1, ?_⟩
  rw [List.getD_eq_getElem?_getD, h]
  rfl
theorem Ls.has {ad : Nat → Nat} {nL : Nat} {ls : List (Option Value)} {lsC : Array Slot} (h : Ls ad nL ls lsC) : lv_has lsC nL (prs ad ls) := by
  refine ⟨h.1, h.2.1, fun q hq => ?_⟩
  obtain ⟨i, hi, he⟩ := List.mem_filterMap.mp hq
  have hl := List.mem_range.mp hi
  rw [List.getD_eq_getElem?_getD, List.getElem?_eq_getElem hl] at he
  cases hv : ls[i] with
  | none => rw [hv] at he; cases he
  | some v =>
    rw [hv] at he
    cases he
    exact h.2.2 i v (by rw [List.getElem?_eq_getElem hl, hv])
def okS (ls : List (Option Value)) (i : Nat) : Bool := match i with
  | 0 => true
  | j + 1 => match ls.getD j none with
    | none => true
    | some v => v.category != 2
theorem okS_ne {ls : List (Option Value)} {i j : Nat} {v : Value} (h : okS ls i = true) (hv : ls[j]? = some (some v)) (hj : j + 1 = i) : ¬ v.category = 2 := by
  subst hj
  have h1 : (match ls.getD j none with
    | none => true
    | some v => v.category != 2) = true := h
  rw [List.getD_eq_getElem?_getD, hv] at h1
  simpa using h1
theorem Ls.set1 {ad : Nat → Nat} {nL i : Nat} {ls : List (Option Value)} {lsC' : Array Slot} {v : Value} (h : lv_has lsC' nL ((i, cv ad v) :: (prs ad ls).filter (fun q => !(q.1 == i) && !(q.1 + 1 == i && q.2.category == 2)))) (hok : okS ls i = true) : Ls ad nL (ls.set i (some v)) lsC' := by
  refine ⟨h.1, h.2.1, fun j w hw => ?_⟩
  by_cases hj : j = i
  · subst hj
    have hl : j < ls.length := by
      have := (List.getElem?_eq_some_iff.mp hw).1
      simpa using this
    rw [List.getElem?_set_self hl] at hw
    cases hw
    exact h.2.2 _ List.mem_cons_self
  · rw [List.getElem?_set_ne (fun q => hj q.symm)] at hw
    refine h.2.2 (j, cv ad w) (List.mem_cons_of_mem _ (List.mem_filter.mpr ⟨prs_mem hw, ?_⟩))
    have h2 := fun e : j + 1 = i => okS_ne hok hw e
    by_cases h3 : j + 1 = i
    · have h4 : ¬ (cv ad w).category = 2 := by rw [cv_cat]; exact h2 h3
      simp [hj, h4]
    · simp [hj, h3]
theorem Ls.set2 {ad : Nat → Nat} {nL i : Nat} {ls : List (Option Value)} {lsC' : Array Slot} {v : Value} (h : lv_has lsC' nL ((i, cv ad v) :: (prs ad ls).filter (fun q => !(q.1 == i) && (!(q.1 == i + 1) && !(q.1 + 1 == i && q.2.category == 2))))) (hok : okS ls i = true) : Ls ad nL ((ls.set i (some v)).set (i + 1) none) lsC' := by
  refine ⟨h.1, h.2.1, fun j w hw => ?_⟩
  by_cases hj1 : j = i + 1
  · subst hj1
    by_cases hl : i + 1 < (ls.set i (some v)).length
    · rw [List.getElem?_set_self hl] at hw
      cases hw
    · rw [List.getElem?_eq_none (by rw [List.length_set]; omega)] at hw
      cases hw
  · rw [List.getElem?_set_ne (fun q => hj1 q.symm)] at hw
    by_cases hj : j = i
    · subst hj
      have hl : j < ls.length := by
        have := (List.getElem?_eq_some_iff.mp hw).1
        simpa using this
      rw [List.getElem?_set_self hl] at hw
      cases hw
      exact h.2.2 _ List.mem_cons_self
    · rw [List.getElem?_set_ne (fun q => hj q.symm)] at hw
      refine h.2.2 (j, cv ad w) (List.mem_cons_of_mem _ (List.mem_filter.mpr ⟨prs_mem hw, ?_⟩))
      by_cases h3 : j + 1 = i
      · have h4 : ¬ (cv ad w).category = 2 := by rw [cv_cat]; exact okS_ne hok hw h3
        simp [hj, hj1, h4]
      · simp [hj, hj1, h3]
/-- fewer known locals -/
def fewer (ls0 ls : List (Option Value)) : Prop := match ls0 with
  | [] => True
  | none :: r => fewer r ls.tail
  | some v :: r => ls.head? = some (some v) ∧ fewer r ls.tail
theorem fewer_get : ∀ {ls0 ls : List (Option Value)}, fewer ls0 ls → ∀ (i : Nat) (v : Value), ls0[i]? = some (some v) → ls[i]? = some (some v)
  | [], _, _, i, v, h => by simp at h
  | none :: r, ls, h, i, v, hv => by
    cases i with
    | zero => simp at hv
    | succ i =>
      rw [List.getElem?_cons_succ] at hv
      have h1 := fewer_get (ls0 := r) h i v hv
      rwa [List.getElem?_tail] at h1
  | some w :: r, ls, h, i, v, hv => by
    obtain ⟨h1, h2⟩ := h
    cases i with
    | zero =>
      rw [List.getElem?_cons_zero] at hv
      cases hv
      rwa [List.head?_eq_getElem?] at h1
    | succ i =>
      rw [List.getElem?_cons_succ] at hv
      have h3 := fewer_get (ls0 := r) h2 i v hv
      rwa [List.getElem?_tail] at h3
/-! one rule an instruction -/
theorem A_iconst {M : MInfo} {d : Lv} {P : Po} {pc : Nat} {ls : List (Option Value)} {st : List Value} {μ : MI} {ν : ML} {n : Int} {v : Int32} (hd : DC M pc (.iconst n) 1) (hv : Int32.ofInt n = v) (kk : AW M d P (pc + 1) ls (.int v :: st) μ ν) : AW M d P pc ls st μ ν := by
  intro _ p l e R s m args below meth c cells slots Q ad dC dI ca A C H locs lsC hW hl
  obtain ⟨⟨hx, hb, hml, hown, hts⟩, hK, hA, hR, hend, hscr, hNW⟩ := id C
  exact lv_iconst hx hb hd hv (kk trivial C hW hl)
theorem A_bipush {M : MInfo} {d : Lv} {P : Po} {pc : Nat} {ls : List (Option Value)} {st : List Value} {μ : MI} {ν : ML} {n : Int} {v : Int32} (hd : DC M pc (.bipush n) 2) (hv : (Int8.ofInt n).toInt32 = v) (kk : AW M d P (pc + 2) ls (.int v :: st) μ ν) : AW M d P pc ls st μ ν := by
  intro _ p l e R s m args below meth c cells slots Q ad dC dI ca A C H locs lsC hW hl
  obtain ⟨⟨hx, hb, hml, hown, hts⟩, hK, hA, hR, hend, hscr, hNW⟩ := id C
  exact lv_bipush hx hb hd hv (kk trivial C hW hl)
theorem A_sipush {M : MInfo} {d : Lv} {P : Po} {pc : Nat} {ls : List (Option Value)} {st : List Value} {μ : MI} {ν : ML} {n : Int} {v : Int32} (hd : DC M pc (.sipush n) 3) (hv : (Int16.ofInt n).toInt32 = v) (kk : AW M d P (pc + 3) ls (.int v :: st) μ ν) : AW M d P pc ls st μ ν := by
  intro _ p l e R s m args below meth c cells slots Q ad dC dI ca A C H locs lsC hW hl
  obtain ⟨⟨hx, hb, hml, hown, hts⟩, hK, hA, hR, hend, hscr, hNW⟩ := id C
  exact lv_sipush hx hb hd hv (kk trivial C hW hl)
theorem A_lconst {M : MInfo} {d : Lv} {P : Po} {pc : Nat} {ls : List (Option Value)} {st : List Value} {μ : MI} {ν : ML} {n : Fin 2} {v : Int64} (hd : DC M pc (.lconst n) 1) (hv : Int64.ofNat (n : Nat) = v) (kk : AW M d P (pc + 1) ls (.long v :: st) μ ν) : AW M d P pc ls st μ ν := by
  intro _ p l e R s m args below meth c cells slots Q ad dC dI ca A C H locs lsC hW hl
  obtain ⟨⟨hx, hb, hml, hown, hts⟩, hK, hA, hR, hend, hscr, hNW⟩ := id C
  exact lv_lconst hx hb hd hv (kk trivial C hW hl)
theorem A_iload_n {M : MInfo} {d : Lv} {P : Po} {pc : Nat} {ls : List (Option Value)} {st : List Value} {μ : MI} {ν : ML} {k : Fin 4} {x : Int32} (hd : DC M pc (.iload_n k) 1) (hv : ls[(k : Nat)]? = some (some (.int x))) (kk : AW M d P (pc + 1) ls (.int x :: st) μ ν) : AW M d P pc ls st μ ν := by
  intro _ p l e R s m args below meth c cells slots Q ad dC dI ca A C H locs lsC hW hl
  obtain ⟨⟨hx, hb, hml, hown, hts⟩, hK, hA, hR, hend, hscr, hNW⟩ := id C
  exact lv_iload_n hx hb hd rfl (hl.2.2 _ _ hv) (kk trivial C hW hl)
theorem A_iload {M : MInfo} {d : Lv} {P : Po} {pc : Nat} {ls : List (Option Value)} {st : List Value} {μ : MI} {ν : ML} {k : Nat} {x : Int32} (hd : DC M pc (.iload k) 2) (hv : ls[k]? = some (some (.int x))) (kk : AW M d P (pc + 2) ls (.int x :: st) μ ν) : AW M d P pc ls st μ ν := by
  intro _ p l e R s m args below meth c cells slots Q ad dC dI ca A C H locs lsC hW hl
  obtain ⟨⟨hx, hb, hml, hown, hts⟩, hK, hA, hR, hend, hscr, hNW⟩ := id C
  exact lv_iload hx hb hd (hl.2.2 _ _ hv) (kk trivial C hW hl)
theorem A_lload_n {M : MInfo} {d : Lv} {P : Po} {pc : Nat} {ls : List (Option Value)} {st : List Value} {μ : MI} {ν : ML} {k : Fin 4} {x : Int64} (hd : DC M pc (.lload_n k) 1) (hv : ls[(k : Nat)]? = some (some (.long x))) (kk : AW M d P (pc + 1) ls (.long x :: st) μ ν) : AW M d P pc ls st μ ν := by
  intro _ p l e R s m args below meth c cells slots Q ad dC dI ca A C H locs lsC hW hl
  obtain ⟨⟨hx, hb, hml, hown, hts⟩, hK, hA, hR, hend, hscr, hNW⟩ := id C
  exact lv_lload_n hx hb hd rfl (hl.2.2 _ _ hv) (kk trivial C hW hl)
theorem A_lload {M : MInfo} {d : Lv} {P : Po} {pc : Nat} {ls : List (Option Value)} {st : List Value} {μ : MI} {ν : ML} {k : Nat} {x : Int64} (hd : DC M pc (.lload k) 2) (hv : ls[k]? = some (some (.long x))) (kk : AW M d P (pc + 2) ls (.long x :: st) μ ν) : AW M d P pc ls st μ ν := by
  intro _ p l e R s m args below meth c cells slots Q ad dC dI ca A C H locs lsC hW hl
  obtain ⟨⟨hx, hb, hml, hown, hts⟩, hK, hA, hR, hend, hscr, hNW⟩ := id C
  exact lv_lload hx hb hd (hl.2.2 _ _ hv) (kk trivial C hW hl)
theorem A_aload_n {M : MInfo} {d : Lv} {P : Po} {pc : Nat} {ls : List (Option Value)} {st : List Value} {μ : MI} {ν : ML} {k : Fin 4} {x : Nat} (hd : DC M pc (.aload_n k) 1) (hv : ls[(k : Nat)]? = some (some (.ref x))) (kk : AW M d P (pc + 1) ls (.ref x :: st) μ ν) : AW M d P pc ls st μ ν := by
  intro _ p l e R s m args below meth c cells slots Q ad dC dI ca A C H locs lsC hW hl
  obtain ⟨⟨hx, hb, hml, hown, hts⟩, hK, hA, hR, hend, hscr, hNW⟩ := id C
  exact lv_aload_n hx hb hd rfl (hl.2.2 _ _ hv) (kk trivial C hW hl)
theorem A_aload {M : MInfo} {d : Lv} {P : Po} {pc : Nat} {ls : List (Option Value)} {st : List Value} {μ : MI} {ν : ML} {k : Nat} {x : Nat} (hd : DC M pc (.aload k) 2) (hv : ls[k]? = some (some (.ref x))) (kk : AW M d P (pc + 2) ls (.ref x :: st) μ ν) : AW M d P pc ls st μ ν := by
  intro _ p l e R s m args below meth c cells slots Q ad dC dI ca A C H locs lsC hW hl
  obtain ⟨⟨hx, hb, hml, hown, hts⟩, hK, hA, hR, hend, hscr, hNW⟩ := id C
  exact lv_aload hx hb hd (hl.2.2 _ _ hv) (kk trivial C hW hl)
theorem A_iadd {M : MInfo} {d : Lv} {P : Po} {pc : Nat} {ls : List (Option Value)} {st : List Value} {μ : MI} {ν : ML} {x y : Int32} (hd : DC M pc .iadd 1) (kk : AW M d P (pc + 1) ls (.int (x + y) :: st) μ ν) : AW M d P pc ls (.int y :: .int x :: st) μ ν := by
  intro _ p l e R s m args below meth c cells slots Q ad dC dI ca A C H locs lsC hW hl
  obtain ⟨⟨hx, hb, hml, hown, hts⟩, hK, hA, hR, hend, hscr, hNW⟩ := id C
  exact lv_iadd hx hb hd (kk trivial C hW hl)
theorem A_isub {M : MInfo} {d : Lv} {P : Po} {pc : Nat} {ls : List (Option Value)} {st : List Value} {μ : MI} {ν : ML} {x y : Int32} (hd : DC M pc .isub 1) (kk : AW M d P (pc + 1) ls (.int (x - y) :: st) μ ν) : AW M d P pc ls (.int y :: .int x :: st) μ ν := by
  intro _ p l e R s m args below meth c cells slots Q ad dC dI ca A C H locs lsC hW hl
  obtain ⟨⟨hx, hb, hml, hown, hts⟩, hK, hA, hR, hend, hscr, hNW⟩ := id C
  exact lv_isub hx hb hd (kk trivial C hW hl)
theorem A_imul {M : MInfo} {d : Lv} {P : Po} {pc : Nat} {ls : List (Option Value)} {st : List Value} {μ : MI} {ν : ML} {x y : Int32} (hd : DC M pc .imul 1) (kk : AW M d P (pc + 1) ls (.int (x * y) :: st) μ ν) : AW M d P pc ls (.int y :: .int x :: st) μ ν := by
  intro _ p l e R s m args below meth c cells slots Q ad dC dI ca A C H locs lsC hW hl
  obtain ⟨⟨hx, hb, hml, hown, hts⟩, hK, hA, hR, hend, hscr, hNW⟩ := id C
  exact lv_imul hx hb hd (kk trivial C hW hl)
theorem A_iand {M : MInfo} {d : Lv} {P : Po} {pc : Nat} {ls : List (Option Value)} {st : List Value} {μ : MI} {ν : ML} {x y : Int32} (hd : DC M pc .iand 1) (kk : AW M d P (pc + 1) ls (.int (x &&& y) :: st) μ ν) : AW M d P pc ls (.int y :: .int x :: st) μ ν := by
  intro _ p l e R s m args below meth c cells slots Q ad dC dI ca A C H locs lsC hW hl
  obtain ⟨⟨hx, hb, hml, hown, hts⟩, hK, hA, hR, hend, hscr, hNW⟩ := id C
  exact lv_iand hx hb hd (kk trivial C hW hl)
theorem A_ior {M : MInfo} {d : Lv} {P : Po} {pc : Nat} {ls : List (Option Value)} {st : List Value} {μ : MI} {ν : ML} {x y : Int32} (hd : DC M pc .ior 1) (kk : AW M d P (pc + 1) ls (.int (x ||| y) :: st) μ ν) : AW M d P pc ls (.int y :: .int x :: st) μ ν := by
  intro _ p l e R s m args below meth c cells slots Q ad dC dI ca A C H locs lsC hW hl
  obtain ⟨⟨hx, hb, hml, hown, hts⟩, hK, hA, hR, hend, hscr, hNW⟩ := id C
  exact lv_ior hx hb hd (kk trivial C hW hl)
theorem A_ixor {M : MInfo} {d : Lv} {P : Po} {pc : Nat} {ls : List (Option Value)} {st : List Value} {μ : MI} {ν : ML} {x y : Int32} (hd : DC M pc .ixor 1) (kk : AW M d P (pc + 1) ls (.int (x ^^^ y) :: st) μ ν) : AW M d P pc ls (.int y :: .int x :: st) μ ν := by
  intro _ p l e R s m args below meth c cells slots Q ad dC dI ca A C H locs lsC hW hl
  obtain ⟨⟨hx, hb, hml, hown, hts⟩, hK, hA, hR, hend, hscr, hNW⟩ := id C
  exact lv_ixor hx hb hd (kk trivial C hW hl)
theorem A_ladd {M : MInfo} {d : Lv} {P : Po} {pc : Nat} {ls : List (Option Value)} {st : List Value} {μ : MI} {ν : ML} {x y : Int64} (hd : DC M pc .ladd 1) (kk : AW M d P (pc + 1) ls (.long (x + y) :: st) μ ν) : AW M d P pc ls (.long y :: .long x :: st) μ ν := by
  intro _ p l e R s m args below meth c cells slots Q ad dC dI ca A C H locs lsC hW hl
  obtain ⟨⟨hx, hb, hml, hown, hts⟩, hK, hA, hR, hend, hscr, hNW⟩ := id C
  exact lv_ladd hx hb hd (kk trivial C hW hl)
theorem A_lsub {M : MInfo} {d : Lv} {P : Po} {pc : Nat} {ls : List (Option Value)} {st : List Value} {μ : MI} {ν : ML} {x y : Int64} (hd : DC M pc .lsub 1) (kk : AW M d P (pc + 1) ls (.long (x - y) :: st) μ ν) : AW M d P pc ls (.long y :: .long x :: st) μ ν := by
  intro _ p l e R s m args below meth c cells slots Q ad dC dI ca A C H locs lsC hW hl
  obtain ⟨⟨hx, hb, hml, hown, hts⟩, hK, hA, hR, hend, hscr, hNW⟩ := id C
  exact lv_lsub hx hb hd (kk trivial C hW hl)
theorem A_land {M : MInfo} {d : Lv} {P : Po} {pc : Nat} {ls : List (Option Value)} {st : List Value} {μ : MI} {ν : ML} {x y : Int64} (hd : DC M pc .land 1) (kk : AW M d P (pc + 1) ls (.long (x &&& y) :: st) μ ν) : AW M d P pc ls (.long y :: .long x :: st) μ ν := by
  intro _ p l e R s m args below meth c cells slots Q ad dC dI ca A C H locs lsC hW hl
  obtain ⟨⟨hx, hb, hml, hown, hts⟩, hK, hA, hR, hend, hscr, hNW⟩ := id C
  exact lv_land hx hb hd (kk trivial C hW hl)
theorem A_lor {M : MInfo} {d : Lv} {P : Po} {pc : Nat} {ls : List (Option Value)} {st : List Value} {μ : MI} {ν : ML} {x y : Int64} (hd : DC M pc .lor 1) (kk : AW M d P (pc + 1) ls (.long (x ||| y) :: st) μ ν) : AW M d P pc ls (.long y :: .long x :: st) μ ν := by
  intro _ p l e R s m args below meth c cells slots Q ad dC dI ca A C H locs lsC hW hl
  obtain ⟨⟨hx, hb, hml, hown, hts⟩, hK, hA, hR, hend, hscr, hNW⟩ := id C
  exact lv_lor hx hb hd (kk trivial C hW hl)
theorem A_lxor {M : MInfo} {d : Lv} {P : Po} {pc : Nat} {ls : List (Option Value)} {st : List Value} {μ : MI} {ν : ML} {x y : Int64} (hd : DC M pc .lxor 1) (kk : AW M d P (pc + 1) ls (.long (x ^^^ y) :: st) μ ν) : AW M d P pc ls (.long y :: .long x :: st) μ ν := by
  intro _ p l e R s m args below meth c cells slots Q ad dC dI ca A C H locs lsC hW hl
  obtain ⟨⟨hx, hb, hml, hown, hts⟩, hK, hA, hR, hend, hscr, hNW⟩ := id C
  exact lv_lxor hx hb hd (kk trivial C hW hl)
theorem A_idiv {M : MInfo} {d : Lv} {P : Po} {pc : Nat} {ls : List (Option Value)} {st : List Value} {μ : MI} {ν : ML} {x y : Int32} (hd : DC M pc .idiv 1) (hne : ¬ y = 0) (kk : AW M d P (pc + 1) ls (.int (x / y) :: st) μ ν) : AW M d P pc ls (.int y :: .int x :: st) μ ν := by
  intro _ p l e R s m args below meth c cells slots Q ad dC dI ca A C H locs lsC hW hl
  obtain ⟨⟨hx, hb, hml, hown, hts⟩, hK, hA, hR, hend, hscr, hNW⟩ := id C
  exact lv_idiv hx hb hd hne (kk trivial C hW hl)
theorem A_irem {M : MInfo} {d : Lv} {P : Po} {pc : Nat} {ls : List (Option Value)} {st : List Value} {μ : MI} {ν : ML} {x y : Int32} (hd : DC M pc .irem 1) (hne : ¬ y = 0) (kk : AW M d P (pc + 1) ls (.int (x - x / y * y) :: st) μ ν) : AW M d P pc ls (.int y :: .int x :: st) μ ν := by
  intro _ p l e R s m args below meth c cells slots Q ad dC dI ca A C H locs lsC hW hl
  obtain ⟨⟨hx, hb, hml, hown, hts⟩, hK, hA, hR, hend, hscr, hNW⟩ := id C
  exact lv_irem hx hb hd hne (kk trivial C hW hl)
theorem A_ineg {M : MInfo} {d : Lv} {P : Po} {pc : Nat} {ls : List (Option Value)} {st : List Value} {μ : MI} {ν : ML} {x : Int32} (hd : DC M pc .ineg 1) (kk : AW M d P (pc + 1) ls (.int (-x) :: st) μ ν) : AW M d P pc ls (.int x :: st) μ ν := by
  intro _ p l e R s m args below meth c cells slots Q ad dC dI ca A C H locs lsC hW hl
  obtain ⟨⟨hx, hb, hml, hown, hts⟩, hK, hA, hR, hend, hscr, hNW⟩ := id C
  exact lv_ineg hx hb hd (kk trivial C hW hl)
theorem A_ishl {M : MInfo} {d : Lv} {P : Po} {pc : Nat} {ls : List (Option Value)} {st : List Value} {μ : MI} {ν : ML} {x y : Int32} (hd : DC M pc .ishl 1) (kk : AW M d P (pc + 1) ls (.int (x <<< (y &&& 31)) :: st) μ ν) : AW M d P pc ls (.int y :: .int x :: st) μ ν := by
  intro _ p l e R s m args below meth c cells slots Q ad dC dI ca A C H locs lsC hW hl
  obtain ⟨⟨hx, hb, hml, hown, hts⟩, hK, hA, hR, hend, hscr, hNW⟩ := id C
  exact lv_ishl hx hb hd (kk trivial C hW hl)
theorem A_ishr {M : MInfo} {d : Lv} {P : Po} {pc : Nat} {ls : List (Option Value)} {st : List Value} {μ : MI} {ν : ML} {x y : Int32} (hd : DC M pc .ishr 1) (kk : AW M d P (pc + 1) ls (.int (x >>> (y &&& 31)) :: st) μ ν) : AW M d P pc ls (.int y :: .int x :: st) μ ν := by
  intro _ p l e R s m args below meth c cells slots Q ad dC dI ca A C H locs lsC hW hl
  obtain ⟨⟨hx, hb, hml, hown, hts⟩, hK, hA, hR, hend, hscr, hNW⟩ := id C
  exact lv_ishr hx hb hd (kk trivial C hW hl)
theorem A_iushr {M : MInfo} {d : Lv} {P : Po} {pc : Nat} {ls : List (Option Value)} {st : List Value} {μ : MI} {ν : ML} {x y : Int32} (hd : DC M pc .iushr 1) (kk : AW M d P (pc + 1) ls (.int ((x.toUInt32 >>> (y.toUInt32 &&& Int32.toUInt32 31)).toInt32) :: st) μ ν) : AW M d P pc ls (.int y :: .int x :: st) μ ν := by
  intro _ p l e R s m args below meth c cells slots Q ad dC dI ca A C H locs lsC hW hl
  obtain ⟨⟨hx, hb, hml, hown, hts⟩, hK, hA, hR, hend, hscr, hNW⟩ := id C
  exact lv_iushr hx hb hd rfl (kk trivial C hW hl)
theorem A_lushr {M : MInfo} {d : Lv} {P : Po} {pc : Nat} {ls : List (Option Value)} {st : List Value} {μ : MI} {ν : ML} {x : Int64} {y : Int32} (hd : DC M pc .lushr 1) (kk : AW M d P (pc + 1) ls (.long ((x.toUInt64 >>> (y.toInt64.toUInt64 &&& Int64.toUInt64 63)).toInt64) :: st) μ ν) : AW M d P pc ls (.int y :: .long x :: st) μ ν := by
  intro _ p l e R s m args below meth c cells slots Q ad dC dI ca A C H locs lsC hW hl
  obtain ⟨⟨hx, hb, hml, hown, hts⟩, hK, hA, hR, hend, hscr, hNW⟩ := id C
  exact lv_lushr hx hb hd rfl (kk trivial C hW hl)
theorem A_lshl {M : MInfo} {d : Lv} {P : Po} {pc : Nat} {ls : List (Option Value)} {st : List Value} {μ : MI} {ν : ML} {x : Int64} {y : Int32} (hd : DC M pc .lshl 1) (kk : AW M d P (pc + 1) ls (.long (x <<< (y.toInt64 &&& 63)) :: st) μ ν) : AW M d P pc ls (.int y :: .long x :: st) μ ν := by
  intro _ p l e R s m args below meth c cells slots Q ad dC dI ca A C H locs lsC hW hl
  obtain ⟨⟨hx, hb, hml, hown, hts⟩, hK, hA, hR, hend, hscr, hNW⟩ := id C
  exact lv_lshl hx hb hd rfl (kk trivial C hW hl)
theorem A_lshr {M : MInfo} {d : Lv} {P : Po} {pc : Nat} {ls : List (Option Value)} {st : List Value} {μ : MI} {ν : ML} {x : Int64} {y : Int32} (hd : DC M pc .lshr 1) (kk : AW M d P (pc + 1) ls (.long (x >>> (y.toInt64 &&& 63)) :: st) μ ν) : AW M d P pc ls (.int y :: .long x :: st) μ ν := by
  intro _ p l e R s m args below meth c cells slots Q ad dC dI ca A C H locs lsC hW hl
  obtain ⟨⟨hx, hb, hml, hown, hts⟩, hK, hA, hR, hend, hscr, hNW⟩ := id C
  exact lv_lshr hx hb hd rfl (kk trivial C hW hl)
theorem A_i2l {M : MInfo} {d : Lv} {P : Po} {pc : Nat} {ls : List (Option Value)} {st : List Value} {μ : MI} {ν : ML} {x : Int32} (hd : DC M pc .i2l 1) (kk : AW M d P (pc + 1) ls (.long x.toInt64 :: st) μ ν) : AW M d P pc ls (.int x :: st) μ ν := by
  intro _ p l e R s m args below meth c cells slots Q ad dC dI ca A C H locs lsC hW hl
  obtain ⟨⟨hx, hb, hml, hown, hts⟩, hK, hA, hR, hend, hscr, hNW⟩ := id C
  exact lv_i2l hx hb hd rfl (kk trivial C hW hl)
theorem A_l2i {M : MInfo} {d : Lv} {P : Po} {pc : Nat} {ls : List (Option Value)} {st : List Value} {μ : MI} {ν : ML} {x : Int64} (hd : DC M pc .l2i 1) (kk : AW M d P (pc + 1) ls (.int x.toInt32 :: st) μ ν) : AW M d P pc ls (.long x :: st) μ ν := by
  intro _ p l e R s m args below meth c cells slots Q ad dC dI ca A C H locs lsC hW hl
  obtain ⟨⟨hx, hb, hml, hown, hts⟩, hK, hA, hR, hend, hscr, hNW⟩ := id C
  exact lv_l2i hx hb hd rfl (kk trivial C hW hl)
theorem A_lcmp {M : MInfo} {d : Lv} {P : Po} {pc : Nat} {ls : List (Option Value)} {st : List Value} {μ : MI} {ν : ML} {x y : Int64} (hd : DC M pc .lcmp 1) (kk : AW M d P (pc + 1) ls (.int (lg_cmp x y) :: st) μ ν) : AW M d P pc ls (.long y :: .long x :: st) μ ν := by
  intro _ p l e R s m args below meth c cells slots Q ad dC dI ca A C H locs lsC hW hl
  obtain ⟨⟨hx, hb, hml, hown, hts⟩, hK, hA, hR, hend, hscr, hNW⟩ := id C
  exact W.lcmp hx hb hd (kk trivial C hW hl)
theorem A_dup {M : MInfo} {d : Lv} {P : Po} {pc : Nat} {ls : List (Option Value)} {st : List Value} {μ : MI} {ν : ML} {u : Value} (hd : DC M pc .dup 1) (hu : u.category = 1) (kk : AW M d P (pc + 1) ls (u :: u :: st) μ ν) : AW M d P pc ls (u :: st) μ ν := by
  intro _ p l e R s m args below meth c cells slots Q ad dC dI ca A C H locs lsC hW hl
  obtain ⟨⟨hx, hb, hml, hown, hts⟩, hK, hA, hR, hend, hscr, hNW⟩ := id C
  exact lv_dup hx hb hd (by rw [cv_cat]; exact hu) (kk trivial C hW hl)
theorem A_pop {M : MInfo} {d : Lv} {P : Po} {pc : Nat} {ls : List (Option Value)} {st : List Value} {μ : MI} {ν : ML} {u : Value} (hd : DC M pc .pop 1) (hu : u.category = 1) (kk : AW M d P (pc + 1) ls st μ ν) : AW M d P pc ls (u :: st) μ ν := by
  intro _ p l e R s m args below meth c cells slots Q ad dC dI ca A C H locs lsC hW hl
  obtain ⟨⟨hx, hb, hml, hown, hts⟩, hK, hA, hR, hend, hscr, hNW⟩ := id C
  exact lv_pop hx hb hd (by rw [cv_cat]; exact hu) (kk trivial C hW hl)
theorem A_pop2 {M : MInfo} {d : Lv} {P : Po} {pc : Nat} {ls : List (Option Value)} {st : List Value} {μ : MI} {ν : ML} {u : Value} (hd : DC M pc .pop2 1) (hu : u.category = 2) (kk : AW M d P (pc + 1) ls st μ ν) : AW M d P pc ls (u :: st) μ ν := by
  intro _ p l e R s m args below meth c cells slots Q ad dC dI ca A C H locs lsC hW hl
  obtain ⟨⟨hx, hb, hml, hown, hts⟩, hK, hA, hR, hend, hscr, hNW⟩ := id C
  exact lv_pop2_2 hx hb hd (by rw [cv_cat]; exact hu) (kk trivial C hW hl)
theorem A_dup_x1 {M : MInfo} {d : Lv} {P : Po} {pc : Nat} {ls : List (Option Value)} {st : List Value} {μ : MI} {ν : ML} {u w : Value} (hd : DC M pc .dup_x1 1) (hu : u.category = 1) (hw : w.category = 1) (kk : AW M d P (pc + 1) ls (u :: w :: u :: st) μ ν) : AW M d P pc ls (u :: w :: st) μ ν := by
  intro _ p l e R s m args below meth c cells slots Q ad dC dI ca A C H locs lsC hW hl
  obtain ⟨⟨hx, hb, hml, hown, hts⟩, hK, hA, hR, hend, hscr, hNW⟩ := id C
  exact lv_dup_x1 hx hb hd (by rw [cv_cat]; exact hu) (by rw [cv_cat]; exact hw) (kk trivial C hW hl)
theorem A_dup2 {M : MInfo} {d : Lv} {P : Po} {pc : Nat} {ls : List (Option Value)} {st : List Value} {μ : MI} {ν : ML} {u w : Value} (hd : DC M pc .dup2 1) (hu : u.category = 1) (hw : w.category = 1) (kk : AW M d P (pc + 1) ls (u :: w :: u :: w :: st) μ ν) : AW M d P pc ls (u :: w :: st) μ ν := by
  intro _ p l e R s m args below meth c cells slots Q ad dC dI ca A C H locs lsC hW hl
  obtain ⟨⟨hx, hb, hml, hown, hts⟩, hK, hA, hR, hend, hscr, hNW⟩ := id C
  exact lv_dup2_11 hx hb hd (by rw [cv_cat]; exact hu) (by rw [cv_cat]; exact hw) (kk trivial C hW hl)
theorem A_istore_n {M : MInfo} {d : Lv} {P : Po} {pc : Nat} {ls : List (Option Value)} {st : List Value} {μ : MI} {ν : ML} {k : Fin 4} {x : Int32} {ls1 : List (Option Value)} (hd : DC M pc (.istore_n k) 1) (hi : ((k : Nat) : Nat) < mLoc M) (hok : okS ls (k : Nat) = true) (hs : ls.set (k : Nat) (some (.int x)) = ls1) (kk : AW M d P (pc + 1) ls1 st μ ν) : AW M d P pc ls (.int x :: st) μ ν := by
  intro _ p l e R s m args below meth c cells slots Q ad dC dI ca A C H locs lsC hW hl
  obtain ⟨⟨hx, hb, hml, hown, hts⟩, hK, hA, hR, hend, hscr, hNW⟩ := id C
  subst hs
  exact lv_istore_n (i := (k : Nat)) hx hb hd rfl hl.has hi rfl (fun lsD hD => kk trivial C hW (Ls.set1 (v := .int x) hD hok))
theorem A_istore {M : MInfo} {d : Lv} {P : Po} {pc : Nat} {ls : List (Option Value)} {st : List Value} {μ : MI} {ν : ML} {k : Nat} {x : Int32} {ls1 : List (Option Value)} (hd : DC M pc (.istore k) 2) (hi : (k : Nat) < mLoc M) (hok : okS ls k = true) (hs : ls.set k (some (.int x)) = ls1) (kk : AW M d P (pc + 2) ls1 st μ ν) : AW M d P pc ls (.int x :: st) μ ν := by
  intro _ p l e R s m args below meth c cells slots Q ad dC dI ca A C H locs lsC hW hl
  obtain ⟨⟨hx, hb, hml, hown, hts⟩, hK, hA, hR, hend, hscr, hNW⟩ := id C
  subst hs
  exact lv_istore (i := k) hx hb hd hl.has hi rfl (fun lsD hD => kk trivial C hW (Ls.set1 (v := .int x) hD hok))
theorem A_lstore_n {M : MInfo} {d : Lv} {P : Po} {pc : Nat} {ls : List (Option Value)} {st : List Value} {μ : MI} {ν : ML} {k : Fin 4} {x : Int64} {ls1 : List (Option Value)} (hd : DC M pc (.lstore_n k) 1) (hi : ((k : Nat) : Nat) + 1 < mLoc M) (hok : okS ls (k : Nat) = true) (hs : (ls.set (k : Nat) (some (.long x))).set ((k : Nat) + 1) none = ls1) (kk : AW M d P (pc + 1) ls1 st μ ν) : AW M d P pc ls (.long x :: st) μ ν := by
  intro _ p l e R s m args below meth c cells slots Q ad dC dI ca A C H locs lsC hW hl
  obtain ⟨⟨hx, hb, hml, hown, hts⟩, hK, hA, hR, hend, hscr, hNW⟩ := id C
  subst hs
  exact lv_lstore_n (i := (k : Nat)) hx hb hd rfl hl.has hi rfl (fun lsD hD => kk trivial C hW (Ls.set2 (v := .long x) hD hok))
theorem A_lstore {M : MInfo} {d : Lv} {P : Po} {pc : Nat} {ls : List (Option Value)} {st : List Value} {μ : MI} {ν : ML} {k : Nat} {x : Int64} {ls1 : List (Option Value)} (hd : DC M pc (.lstore k) 2) (hi : (k : Nat) + 1 < mLoc M) (hok : okS ls k = true) (hs : (ls.set k (some (.long x))).set (k + 1) none = ls1) (kk : AW M d P (pc + 2) ls1 st μ ν) : AW M d P pc ls (.long x :: st) μ ν := by
  intro _ p l e R s m args below meth c cells slots Q ad dC dI ca A C H locs lsC hW hl
  obtain ⟨⟨hx, hb, hml, hown, hts⟩, hK, hA, hR, hend, hscr, hNW⟩ := id C
  subst hs
  exact lv_lstore (i := k) hx hb hd hl.has hi rfl (fun lsD hD => kk trivial C hW (Ls.set2 (v := .long x) hD hok))
theorem A_astore_n {M : MInfo} {d : Lv} {P : Po} {pc : Nat} {ls : List (Option Value)} {st : List Value} {μ : MI} {ν : ML} {k : Fin 4} {x : Nat} {ls1 : List (Option Value)} (hd : DC M pc (.astore_n k) 1) (hi : ((k : Nat) : Nat) < mLoc M) (hok : okS ls (k : Nat) = true) (hs : ls.set (k : Nat) (some (.ref x)) = ls1) (kk : AW M d P (pc + 1) ls1 st μ ν) : AW M d P pc ls (.ref x :: st) μ ν := by
  intro _ p l e R s m args below meth c cells slots Q ad dC dI ca A C H locs lsC hW hl
  obtain ⟨⟨hx, hb, hml, hown, hts⟩, hK, hA, hR, hend, hscr, hNW⟩ := id C
  subst hs
  exact lv_astore_n (i := (k : Nat)) hx hb hd rfl hl.has hi rfl (fun lsD hD => kk trivial C hW (Ls.set1 (v := .ref x) hD hok))
theorem A_astore {M : MInfo} {d : Lv} {P : Po} {pc : Nat} {ls : List (Option Value)} {st : List Value} {μ : MI} {ν : ML} {k : Nat} {x : Nat} {ls1 : List (Option Value)} (hd : DC M pc (.astore k) 2) (hi : (k : Nat) < mLoc M) (hok : okS ls k = true) (hs : ls.set k (some (.ref x)) = ls1) (kk : AW M d P (pc + 2) ls1 st μ ν) : AW M d P pc ls (.ref x :: st) μ ν := by
  intro _ p l e R s m args below meth c cells slots Q ad dC dI ca A C H locs lsC hW hl
  obtain ⟨⟨hx, hb, hml, hown, hts⟩, hK, hA, hR, hend, hscr, hNW⟩ := id C
  subst hs
  exact lv_astore (i := k) hx hb hd hl.has hi rfl (fun lsD hD => kk trivial C hW (Ls.set1 (v := .ref x) hD hok))
theorem A_iinc {M : MInfo} {d : Lv} {P : Po} {pc : Nat} {ls : List (Option Value)} {st : List Value} {μ : MI} {ν : ML} {k : Nat} {n : Int} {x y : Int32} {ls1 : List (Option Value)} (hd : DC M pc (.iinc k n) 3) (hv : ls[k]? = some (some (.int x))) (hy : x + Int32.ofInt n = y) (hi : k < mLoc M) (hok : okS ls k = true) (hs : ls.set k (some (.int y)) = ls1) (kk : AW M d P (pc + 3) ls1 st μ ν) : AW M d P pc ls st μ ν := by
  intro _ p l e R s m args below meth c cells slots Q ad dC dI ca A C H locs lsC hW hl
  obtain ⟨⟨hx, hb, hml, hown, hts⟩, hK, hA, hR, hend, hscr, hNW⟩ := id C
  subst hs
  obtain ⟨j, hj⟩ := List.getElem?_of_mem (prs_mem (ad := ad) hv)
  exact lv_iinc hx hb hd hl.has hj hy hi rfl (fun lsD hD => kk trivial C hW (Ls.set1 (v := .int y) hD hok))
theorem A_if_eq {M : MInfo} {d : Lv} {P : Po} {pc : Nat} {ls : List (Option Value)} {st : List Value} {μ : MI} {ν : ML} {x : Int32} {off : Int} {tgt : Nat} (hd : DC M pc (.ifCond .eq off) 3) (ht : (pc : Int) + off = (tgt : Int)) (kt : x = 0 → AW M d P tgt ls st μ ν) (kf : ¬ x = 0 → AW M d P (pc + 3) ls st μ ν) : AW M d P pc ls (.int x :: st) μ ν := by
  intro _ p l e R s m args below meth c cells slots Q ad dC dI ca A C H locs lsC hW hl
  obtain ⟨⟨hx, hb, hml, hown, hts⟩, hK, hA, hR, hend, hscr, hNW⟩ := id C
  exact lv_if_eq hx hb hd ht (fun h => kt h trivial C hW hl) (fun h => kf h trivial C hW hl)
theorem A_if_ne {M : MInfo} {d : Lv} {P : Po} {pc : Nat} {ls : List (Option Value)} {st : List Value} {μ : MI} {ν : ML} {x : Int32} {off : Int} {tgt : Nat} (hd : DC M pc (.ifCond .ne off) 3) (ht : (pc : Int) + off = (tgt : Int)) (kt : ¬ x = 0 → AW M d P tgt ls st μ ν) (kf : x = 0 → AW M d P (pc + 3) ls st μ ν) : AW M d P pc ls (.int x :: st) μ ν := by
  intro _ p l e R s m args below meth c cells slots Q ad dC dI ca A C H locs lsC hW hl
  obtain ⟨⟨hx, hb, hml, hown, hts⟩, hK, hA, hR, hend, hscr, hNW⟩ := id C
  exact lv_if_ne hx hb hd ht (fun h => kt h trivial C hW hl) (fun h => kf h trivial C hW hl)
theorem A_if_lt {M : MInfo} {d : Lv} {P : Po} {pc : Nat} {ls : List (Option Value)} {st : List Value} {μ : MI} {ν : ML} {x : Int32} {off : Int} {tgt : Nat} (hd : DC M pc (.ifCond .lt off) 3) (ht : (pc : Int) + off = (tgt : Int)) (kt : x < 0 → AW M d P tgt ls st μ ν) (kf : ¬ x < 0 → AW M d P (pc + 3) ls st μ ν) : AW M d P pc ls (.int x :: st) μ ν := by
  intro _ p l e R s m args below meth c cells slots Q ad dC dI ca A C H locs lsC hW hl
  obtain ⟨⟨hx, hb, hml, hown, hts⟩, hK, hA, hR, hend, hscr, hNW⟩ := id C
  exact lv_if_lt hx hb hd ht (fun h => kt h trivial C hW hl) (fun h => kf h trivial C hW hl)
theorem A_if_ge {M : MInfo} {d : Lv} {P : Po} {pc : Nat} {ls : List (Option Value)} {st : List Value} {μ : MI} {ν : ML} {x : Int32} {off : Int} {tgt : Nat} (hd : DC M pc (.ifCond .ge off) 3) (ht : (pc : Int) + off = (tgt : Int)) (kt : 0 ≤ x → AW M d P tgt ls st μ ν) (kf : ¬ 0 ≤ x → AW M d P (pc + 3) ls st μ ν) : AW M d P pc ls (.int x :: st) μ ν := by
  intro _ p l e R s m args below meth c cells slots Q ad dC dI ca A C H locs lsC hW hl
  obtain ⟨⟨hx, hb, hml, hown, hts⟩, hK, hA, hR, hend, hscr, hNW⟩ := id C
  exact lv_if_ge hx hb hd ht (fun h => kt h trivial C hW hl) (fun h => kf h trivial C hW hl)
theorem A_if_gt {M : MInfo} {d : Lv} {P : Po} {pc : Nat} {ls : List (Option Value)} {st : List Value} {μ : MI} {ν : ML} {x : Int32} {off : Int} {tgt : Nat} (hd : DC M pc (.ifCond .gt off) 3) (ht : (pc : Int) + off = (tgt : Int)) (kt : 0 < x → AW M d P tgt ls st μ ν) (kf : ¬ 0 < x → AW M d P (pc + 3) ls st μ ν) : AW M d P pc ls (.int x :: st) μ ν := by
  intro _ p l e R s m args below meth c cells slots Q ad dC dI ca A C H locs lsC hW hl
  obtain ⟨⟨hx, hb, hml, hown, hts⟩, hK, hA, hR, hend, hscr, hNW⟩ := id C
  exact lv_if_gt hx hb hd ht (fun h => kt h trivial C hW hl) (fun h => kf h trivial C hW hl)
theorem A_if_le {M : MInfo} {d : Lv} {P : Po} {pc : Nat} {ls : List (Option Value)} {st : List Value} {μ : MI} {ν : ML} {x : Int32} {off : Int} {tgt : Nat} (hd : DC M pc (.ifCond .le off) 3) (ht : (pc : Int) + off = (tgt : Int)) (kt : x ≤ 0 → AW M d P tgt ls st μ ν) (kf : ¬ x ≤ 0 → AW M d P (pc + 3) ls st μ ν) : AW M d P pc ls (.int x :: st) μ ν := by
  intro _ p l e R s m args below meth c cells slots Q ad dC dI ca A C H locs lsC hW hl
  obtain ⟨⟨hx, hb, hml, hown, hts⟩, hK, hA, hR, hend, hscr, hNW⟩ := id C
  exact lv_if_le hx hb hd ht (fun h => kt h trivial C hW hl) (fun h => kf h trivial C hW hl)
theorem A_icmp_eq {M : MInfo} {d : Lv} {P : Po} {pc : Nat} {ls : List (Option Value)} {st : List Value} {μ : MI} {ν : ML} {x y : Int32} {off : Int} {tgt : Nat} (hd : DC M pc (.if_icmp .eq off) 3) (ht : (pc : Int) + off = (tgt : Int)) (kt : x = y → AW M d P tgt ls st μ ν) (kf : ¬ x = y → AW M d P (pc + 3) ls st μ ν) : AW M d P pc ls (.int y :: .int x :: st) μ ν := by
  intro _ p l e R s m args below meth c cells slots Q ad dC dI ca A C H locs lsC hW hl
  obtain ⟨⟨hx, hb, hml, hown, hts⟩, hK, hA, hR, hend, hscr, hNW⟩ := id C
  exact lv_icmp_eq hx hb hd ht (fun h => kt h trivial C hW hl) (fun h => kf h trivial C hW hl)
theorem A_icmp_ne {M : MInfo} {d : Lv} {P : Po} {pc : Nat} {ls : List (Option Value)} {st : List Value} {μ : MI} {ν : ML} {x y : Int32} {off : Int} {tgt : Nat} (hd : DC M pc (.if_icmp .ne off) 3) (ht : (pc : Int) + off = (tgt : Int)) (kt : ¬ x = y → AW M d P tgt ls st μ ν) (kf : x = y → AW M d P (pc + 3) ls st μ ν) : AW M d P pc ls (.int y :: .int x :: st) μ ν := by
  intro _ p l e R s m args below meth c cells slots Q ad dC dI ca A C H locs lsC hW hl
  obtain ⟨⟨hx, hb, hml, hown, hts⟩, hK, hA, hR, hend, hscr, hNW⟩ := id C
  exact lv_icmp_ne hx hb hd ht (fun h => kt h trivial C hW hl) (fun h => kf h trivial C hW hl)
theorem A_icmp_lt {M : MInfo} {d : Lv} {P : Po} {pc : Nat} {ls : List (Option Value)} {st : List Value} {μ : MI} {ν : ML} {x y : Int32} {off : Int} {tgt : Nat} (hd : DC M pc (.if_icmp .lt off) 3) (ht : (pc : Int) + off = (tgt : Int)) (kt : x < y → AW M d P tgt ls st μ ν) (kf : ¬ x < y → AW M d P (pc + 3) ls st μ ν) : AW M d P pc ls (.int y :: .int x :: st) μ ν := by
  intro _ p l e R s m args below meth c cells slots Q ad dC dI ca A C H locs lsC hW hl
  obtain ⟨⟨hx, hb, hml, hown, hts⟩, hK, hA, hR, hend, hscr, hNW⟩ := id C
  exact lv_icmp_lt hx hb hd ht (fun h => kt h trivial C hW hl) (fun h => kf h trivial C hW hl)
theorem A_icmp_ge {M : MInfo} {d : Lv} {P : Po} {pc : Nat} {ls : List (Option Value)} {st : List Value} {μ : MI} {ν : ML} {x y : Int32} {off : Int} {tgt : Nat} (hd : DC M pc (.if_icmp .ge off) 3) (ht : (pc : Int) + off = (tgt : Int)) (kt : y ≤ x → AW M d P tgt ls st μ ν) (kf : ¬ y ≤ x → AW M d P (pc + 3) ls st μ ν) : AW M d P pc ls (.int y :: .int x :: st) μ ν := by
  intro _ p l e R s m args below meth c cells slots Q ad dC dI ca A C H locs lsC hW hl
  obtain ⟨⟨hx, hb, hml, hown, hts⟩, hK, hA, hR, hend, hscr, hNW⟩ := id C
  exact lv_icmp_ge hx hb hd ht (fun h => kt h trivial C hW hl) (fun h => kf h trivial C hW hl)
theorem A_icmp_gt {M : MInfo} {d : Lv} {P : Po} {pc : Nat} {ls : List (Option Value)} {st : List Value} {μ : MI} {ν : ML} {x y : Int32} {off : Int} {tgt : Nat} (hd : DC M pc (.if_icmp .gt off) 3) (ht : (pc : Int) + off = (tgt : Int)) (kt : y < x → AW M d P tgt ls st μ ν) (kf : ¬ y < x → AW M d P (pc + 3) ls st μ ν) : AW M d P pc ls (.int y :: .int x :: st) μ ν := by
  intro _ p l e R s m args below meth c cells slots Q ad dC dI ca A C H locs lsC hW hl
  obtain ⟨⟨hx, hb, hml, hown, hts⟩, hK, hA, hR, hend, hscr, hNW⟩ := id C
  exact lv_icmp_gt hx hb hd ht (fun h => kt h trivial C hW hl) (fun h => kf h trivial C hW hl)
theorem A_icmp_le {M : MInfo} {d : Lv} {P : Po} {pc : Nat} {ls : List (Option Value)} {st : List Value} {μ : MI} {ν : ML} {x y : Int32} {off : Int} {tgt : Nat} (hd : DC M pc (.if_icmp .le off) 3) (ht : (pc : Int) + off = (tgt : Int)) (kt : x ≤ y → AW M d P tgt ls st μ ν) (kf : ¬ x ≤ y → AW M d P (pc + 3) ls st μ ν) : AW M d P pc ls (.int y :: .int x :: st) μ ν := by
  intro _ p l e R s m args below meth c cells slots Q ad dC dI ca A C H locs lsC hW hl
  obtain ⟨⟨hx, hb, hml, hown, hts⟩, hK, hA, hR, hend, hscr, hNW⟩ := id C
  exact lv_icmp_le hx hb hd ht (fun h => kt h trivial C hW hl) (fun h => kf h trivial C hW hl)
theorem A_goto {M : MInfo} {d : Lv} {P : Po} {pc : Nat} {ls : List (Option Value)} {st : List Value} {μ : MI} {ν : ML} {off : Int} {tgt : Nat} (hd : DC M pc (.goto off) 3) (ht : (pc : Int) + off = (tgt : Int)) (kk : AW M d P tgt ls st μ ν) : AW M d P pc ls st μ ν := by
  intro _ p l e R s m args below meth c cells slots Q ad dC dI ca A C H locs lsC hW hl
  obtain ⟨⟨hx, hb, hml, hown, hts⟩, hK, hA, hR, hend, hscr, hNW⟩ := id C
  exact lv_goto hx hb hd ht (kk trivial C hW hl)
theorem A_tableIn {M : MInfo} {d : Lv} {P : Po} {pc : Nat} {ls : List (Option Value)} {st : List Value} {μ : MI} {ν : ML} {x : Int32} {dflt lo hi off : Int} {offs : Array Int} {len tgt : Nat} (hd : DC M pc (.tableswitch dflt lo hi offs) len) (h1 : ¬ x.toInt < lo) (h2 : ¬ hi < x.toInt) (ho : offs[(x.toInt - lo).toNat]? = some off) (ht : (pc : Int) + off = (tgt : Int)) (kk : AW M d P tgt ls st μ ν) : AW M d P pc ls (.int x :: st) μ ν := by
  intro _ p l e R s m args below meth c cells slots Q ad dC dI ca A C H locs lsC hW hl
  obtain ⟨⟨hx, hb, hml, hown, hts⟩, hK, hA, hR, hend, hscr, hNW⟩ := id C
  exact lv_tableIn hx hb hd h1 h2 ho ht (kk trivial C hW hl)
theorem A_tableOut {M : MInfo} {d : Lv} {P : Po} {pc : Nat} {ls : List (Option Value)} {st : List Value} {μ : MI} {ν : ML} {x : Int32} {dflt lo hi : Int} {offs : Array Int} {len tgt : Nat} (hd : DC M pc (.tableswitch dflt lo hi offs) len) (h : x.toInt < lo ∨ hi < x.toInt) (ht : (pc : Int) + dflt = (tgt : Int)) (kk : AW M d P tgt ls st μ ν) : AW M d P pc ls (.int x :: st) μ ν := by
  intro _ p l e R s m args below meth c cells slots Q ad dC dI ca A C H locs lsC hW hl
  obtain ⟨⟨hx, hb, hml, hown, hts⟩, hK, hA, hR, hend, hscr, hNW⟩ := id C
  exact lv_tableOut hx hb hd h ht (kk trivial C hW hl)
theorem A_ldc {M : MInfo} {d : Lv} {P : Po} {pc : Nat} {ls : List (Option Value)} {st : List Value} {μ : MI} {ν : ML} {k : Nat} {v : Int32} (hd : DC M pc (.ldc k) 2) (hc : KI (mOwn M) k v) (kk : AW M d P (pc + 2) ls (.int v :: st) μ ν) : AW M d P pc ls st μ ν := by
  intro _ p l e R s m args below meth c cells slots Q ad dC dI ca A C H locs lsC hW hl
  obtain ⟨⟨hx, hb, hml, hown, hts⟩, hK, hA, hR, hend, hscr, hNW⟩ := id C
  exact lv_ldc hx hb hown (hts _ hc) hd (kk trivial C hW hl)
theorem A_ldcw {M : MInfo} {d : Lv} {P : Po} {pc : Nat} {ls : List (Option Value)} {st : List Value} {μ : MI} {ν : ML} {k : Nat} {v : Int32} (hd : DC M pc (.ldc_w k) 3) (hc : KI (mOwn M) k v) (kk : AW M d P (pc + 3) ls (.int v :: st) μ ν) : AW M d P pc ls st μ ν := by
  intro _ p l e R s m args below meth c cells slots Q ad dC dI ca A C H locs lsC hW hl
  obtain ⟨⟨hx, hb, hml, hown, hts⟩, hK, hA, hR, hend, hscr, hNW⟩ := id C
  exact lv_ldcw hx hb hown (hts _ hc) hd (kk trivial C hW hl)
theorem A_ldc2 {M : MInfo} {d : Lv} {P : Po} {pc : Nat} {ls : List (Option Value)} {st : List Value} {μ : MI} {ν : ML} {k : Nat} {v : Int64} (hd : DC M pc (.ldc2_w k) 3) (hc : KL (mOwn M) k v) (kk : AW M d P (pc + 3) ls (.long v :: st) μ ν) : AW M d P pc ls st μ ν := by
  intro _ p l e R s m args below meth c cells slots Q ad dC dI ca A C H locs lsC hW hl
  obtain ⟨⟨hx, hb, hml, hown, hts⟩, hK, hA, hR, hend, hscr, hNW⟩ := id C
  exact lv_ldc2 hx hb hown (hts _ hc) hd (kk trivial C hW hl)
theorem A_getI {M : MInfo} {d : Lv} {P : Po} {pc : Nat} {ls : List (Option Value)} {st : List Value} {μ : MI} {ν : ML} {idx ci k a : Nat} {fs : List (Option Nat)} (hd : DC M pc (.getfield idx) 3) (hf : FL (mOwn M) idx ci k) (hy : lay a = (0, ci, fs)) (hv : fs[k]? = some none) (kk : AW M d P (pc + 3) ls (.int (μ a k) :: st) μ ν) : AW M d P pc ls (.ref a :: st) μ ν := by
  intro _ p l e R s m args below meth c cells slots Q ad dC dI ca A C H locs lsC hW hl
  obtain ⟨⟨hx, hb, hml, hown, hts⟩, hK, hA, hR, hend, hscr, hNW⟩ := id C
  have ha : a < NO := lay_lt (by rw [hy]; show (0 : Nat) ≠ 9; decide)
  obtain ⟨Cn, T, N, hc, hkN, hlink, hT1, hin⟩ := hf
  have he : (wl ad ca μ ν)[a]? = some (ad a, .inr (ci, fs.mapIdx (fun j o => fv1 ad o (μ a j)))) := by
    rw [wl_get ha, hy]
    rfl
  exact va_get (D := (dC, dI)) (v := .int (μ a k)) hx hb hts hin hown hK hW.1 a he hc k hkN (hts _ hlink) (fun x h => by rw [hT1] at h; exact h) (by rw [List.getElem?_mapIdx, hv]; rfl) hd (kk trivial C hW hl)
theorem A_getR {M : MInfo} {d : Lv} {P : Po} {pc : Nat} {ls : List (Option Value)} {st : List Value} {μ : MI} {ν : ML} {idx ci k a q : Nat} {fs : List (Option Nat)} (hd : DC M pc (.getfield idx) 3) (hf : FL (mOwn M) idx ci k) (hy : lay a = (0, ci, fs)) (hv : fs[k]? = some (some q)) (kk : AW M d P (pc + 3) ls (.ref q :: st) μ ν) : AW M d P pc ls (.ref a :: st) μ ν := by
  intro _ p l e R s m args below meth c cells slots Q ad dC dI ca A C H locs lsC hW hl
  obtain ⟨⟨hx, hb, hml, hown, hts⟩, hK, hA, hR, hend, hscr, hNW⟩ := id C
  have ha : a < NO := lay_lt (by rw [hy]; show (0 : Nat) ≠ 9; decide)
  obtain ⟨Cn, T, N, hc, hkN, hlink, hT1, hin⟩ := hf
  have he : (wl ad ca μ ν)[a]? = some (ad a, .inr (ci, fs.mapIdx (fun j o => fv1 ad o (μ a j)))) := by
    rw [wl_get ha, hy]
    rfl
  exact va_get (D := (dC, dI)) (v := .ref (ad q)) hx hb hts hin hown hK hW.1 a he hc k hkN (hts _ hlink) (fun x h => by rw [hT1] at h; exact h) (by rw [List.getElem?_mapIdx, hv]; rfl) hd (kk trivial C hW hl)
theorem A_put {M : MInfo} {d : Lv} {P : Po} {pc : Nat} {ls : List (Option Value)} {st : List Value} {μ : MI} {ν : ML} {idx ci k a : Nat} {ty : FieldType} {x : Int32} {fs : List (Option Nat)} (hd : DC M pc (.putfield idx) 3) (hf : FP (mOwn M) idx ci k ty) (hy : lay a = (0, ci, fs)) (hv : fs[k]? = some none) (hn : narrow ty (.int x) = .int x) (hfit : fits ty (.int x) = true) (kk : AW M d P (pc + 3) ls st (up2 μ a k x) ν) : AW M d P pc ls (.int x :: .ref a :: st) μ ν := by
  intro _ p l e R s m args below meth c cells slots Q ad dC dI ca A C H locs lsC hW hl
  obtain ⟨⟨hx, hb, hml, hown, hts⟩, hK, hA, hR, hend, hscr, hNW⟩ := id C
  have ha : a < NO := lay_lt (by rw [hy]; show (0 : Nat) ≠ 9; decide)
  obtain ⟨Cn, T, N, ty0, hc, hkN, hlink, hT1, hin, hty, hnm, hfin, hdc⟩ := hf
  have he : (wl ad ca μ ν)[a]? = some (ad a, .inr (ci, fs.mapIdx (fun j o => fv1 ad o (μ a j)))) := by
    rw [wl_get ha, hy]
    rfl
  have hlen : k < (fs.mapIdx (fun j o => fv1 ad o (μ a j))).length := by
    rw [List.length_mapIdx]
    exact (List.getElem?_eq_some_iff.mp hv).1
  have hset : (fs.mapIdx (fun j o => fv1 ad o (μ a j))).set k (.int x) = fs.mapIdx (fun j o => fv1 ad o (up2 μ a k x a j)) := by
    apply List.ext_getElem?
    intro i
    by_cases hi : i = k
    · subst hi
      rw [List.getElem?_set_self hlen, List.getElem?_mapIdx, hv, Option.map_some, up2_s]
      rfl
    · rw [List.getElem?_set_ne (fun h => hi h.symm), List.getElem?_mapIdx, List.getElem?_mapIdx, up2_b _ _ hi]
  refine va_put (D := (dC, dI)) (v := .int x) hx hb hts hin ty0 hty hnm hown hK hW.1 hW.2.1 hW.2.2 a he hc k hkN (hts _ hlink) (fun x h => by rw [hT1] at h; exact h) hfin hdc hn hfit hlen hd (fun H1 locs1 hP1 hD1 hS1 => ?_)
  have hw : (wl ad ca μ ν).set a (ad a, .inr (ci, (fs.mapIdx (fun j o => fv1 ad o (μ a j))).set k (.int x))) = wl ad ca (up2 μ a k x) ν :=
    wl_set ha (by rw [hset, hy]; rfl) (fun b hb9 => ⟨up2_row μ a k x b hb9, rfl⟩)
  rw [hw] at hP1 hD1
  exact kk trivial C ⟨hP1, hD1, hS1⟩ hl
theorem A_iald {M : MInfo} {d : Lv} {P : Po} {pc : Nat} {ls : List (Option Value)} {st : List Value} {μ : MI} {ν : ML} {a n : Nat} {i : Int32} (hd : DC M pc .iaload 1) (hy : lay a = (1, n, [])) (hin : vp_in i n) (kk : AW M d P (pc + 1) ls (.int (μ a i.toNatClampNeg) :: st) μ ν) : AW M d P pc ls (.int i :: .ref a :: st) μ ν := by
  intro _ p l e R s m args below meth c cells slots Q ad dC dI ca A C H locs lsC hW hl
  obtain ⟨⟨hx, hb, hml, hown, hts⟩, hK, hA, hR, hend, hscr, hNW⟩ := id C
  have ha : a < NO := lay_lt (by rw [hy]; show (1 : Nat) ≠ 9; decide)
  have he : (wl ad ca μ ν)[a]? = some (ad a, .inl (ca 0, n, .inl (μ a))) := by
    rw [wl_get ha, hy]
    rfl
  exact va_iald (D := (dC, dI)) hx hb hK hW.1 a 0 he rfl hin hd (kk trivial C hW hl)
theorem A_zald {M : MInfo} {d : Lv} {P : Po} {pc : Nat} {ls : List (Option Value)} {st : List Value} {μ : MI} {ν : ML} {a n : Nat} {i : Int32} (hd : DC M pc .baload 1) (hy : lay a = (2, n, [])) (hin : vp_in i n) (kk : AW M d P (pc + 1) ls (.int (μ a i.toNatClampNeg) :: st) μ ν) : AW M d P pc ls (.int i :: .ref a :: st) μ ν := by
  intro _ p l e R s m args below meth c cells slots Q ad dC dI ca A C H locs lsC hW hl
  obtain ⟨⟨hx, hb, hml, hown, hts⟩, hK, hA, hR, hend, hscr, hNW⟩ := id C
  have ha : a < NO := lay_lt (by rw [hy]; show (2 : Nat) ≠ 9; decide)
  have he : (wl ad ca μ ν)[a]? = some (ad a, .inl (ca 1, n, .inl (μ a))) := by
    rw [wl_get ha, hy]
    rfl
  exact va_zald (D := (dC, dI)) hx hb hK hW.1 a 1 he rfl hin hd (kk trivial C hW hl)
theorem A_lald {M : MInfo} {d : Lv} {P : Po} {pc : Nat} {ls : List (Option Value)} {st : List Value} {μ : MI} {ν : ML} {a n : Nat} {i : Int32} (hd : DC M pc .laload 1) (hy : lay a = (3, n, [])) (hin : vp_in i n) (kk : AW M d P (pc + 1) ls (.long (ν a i.toNatClampNeg) :: st) μ ν) : AW M d P pc ls (.int i :: .ref a :: st) μ ν := by
  intro _ p l e R s m args below meth c cells slots Q ad dC dI ca A C H locs lsC hW hl
  obtain ⟨⟨hx, hb, hml, hown, hts⟩, hK, hA, hR, hend, hscr, hNW⟩ := id C
  have ha : a < NO := lay_lt (by rw [hy]; show (3 : Nat) ≠ 9; decide)
  have he : (wl ad ca μ ν)[a]? = some (ad a, .inl (ca 2, n, .inr (.inl (ν a)))) := by
    rw [wl_get ha, hy]
    rfl
  exact va_lald (D := (dC, dI)) hx hb hK hW.1 a 2 he rfl hin hd (kk trivial C hW hl)
theorem A_ialdN {M : MInfo} {d : Lv} {P : Po} {pc : Nat} {ls : List (Option Value)} {st : List Value} {μ : MI} {ν : ML} {a n j : Nat} {i : Int32} (hd : DC M pc .iaload 1) (hy : lay a = (1, n, [])) (hi : i = nI j) (hj : j < n) (hn : n < 2 ^ 31) (kk : AW M d P (pc + 1) ls (.int (μ a j) :: st) μ ν) : AW M d P pc ls (.int i :: .ref a :: st) μ ν := by
  subst hi
  refine A_iald hd hy (vp_in_nI hj hn) ?_
  rw [nI_clamp (by omega)]
  exact kk
theorem A_zaldN {M : MInfo} {d : Lv} {P : Po} {pc : Nat} {ls : List (Option Value)} {st : List Value} {μ : MI} {ν : ML} {a n j : Nat} {i : Int32} (hd : DC M pc .baload 1) (hy : lay a = (2, n, [])) (hi : i = nI j) (hj : j < n) (hn : n < 2 ^ 31) (kk : AW M d P (pc + 1) ls (.int (μ a j) :: st) μ ν) : AW M d P pc ls (.int i :: .ref a :: st) μ ν := by
  subst hi
  refine A_zald hd hy (vp_in_nI hj hn) ?_
  rw [nI_clamp (by omega)]
  exact kk
theorem A_laldN {M : MInfo} {d : Lv} {P : Po} {pc : Nat} {ls : List (Option Value)} {st : List Value} {μ : MI} {ν : ML} {a n j : Nat} {i : Int32} (hd : DC M pc .laload 1) (hy : lay a = (3, n, [])) (hi : i = nI j) (hj : j < n) (hn : n < 2 ^ 31) (kk : AW M d P (pc + 1) ls (.long (ν a j) :: st) μ ν) : AW M d P pc ls (.int i :: .ref a :: st) μ ν := by
  subst hi
  refine A_lald hd hy (vp_in_nI hj hn) ?_
  rw [nI_clamp (by omega)]
  exact kk
theorem up2_upd (μ : MI) (a j : Nat) (x : Int32) : up2 μ a j x a = upd (μ a) j x := by
  funext b
  by_cases h : b = j
  · subst h
    rw [up2_s, pk_us]
  · rw [up2_b _ _ h, pk_un h]
theorem up2_updL (ν : ML) (a j : Nat) (x : Int64) : up2 ν a j x a = vp_updL (ν a) j x := by
  funext b
  by_cases h : b = j
  · subst h
    rw [up2_s, pk_uLs]
  · rw [up2_b _ _ h, pk_uLn h]
theorem A_iast {M : MInfo} {d : Lv} {P : Po} {pc : Nat} {ls : List (Option Value)} {st : List Value} {μ : MI} {ν : ML} {a n : Nat} {i : Int32} {x : Int32} (hd : DC M pc .iastore 1) (hy : lay a = (1, n, [])) (hin : vp_in i n) (kk : AW M d P (pc + 1) ls st (up2 μ a i.toNatClampNeg x) ν) : AW M d P pc ls (.int x :: .int i :: .ref a :: st) μ ν := by
  intro _ p l e R s m args below meth c cells slots Q ad dC dI ca A C H locs lsC hW hl
  obtain ⟨⟨hx, hb, hml, hown, hts⟩, hK, hA, hR, hend, hscr, hNW⟩ := id C
  have ha : a < NO := lay_lt (by rw [hy]; show (1 : Nat) ≠ 9; decide)
  have he : (wl ad ca μ ν)[a]? = some (ad a, .inl (ca 0, n, .inl (μ a))) := by
    rw [wl_get ha, hy]
    rfl
  refine va_iast (D := (dC, dI)) hx hb hK hW.1 hW.2.1 hW.2.2 a 0 he rfl hin hd (fun H1 locs1 hP1 hD1 hS1 => ?_)
  have hw : (wl ad ca μ ν).set a (ad a, .inl (ca 0, n, .inl (upd (μ a) i.toNatClampNeg x))) = wl ad ca (up2 μ a i.toNatClampNeg x) ν :=
    wl_set ha (by rw [hy]; show _ = _; rw [up2_upd]; rfl) (fun b hb9 => ⟨up2_row μ a _ x b hb9, rfl⟩)
  rw [hw] at hP1 hD1
  exact kk trivial C ⟨hP1, hD1, hS1⟩ hl
theorem A_zast {M : MInfo} {d : Lv} {P : Po} {pc : Nat} {ls : List (Option Value)} {st : List Value} {μ : MI} {ν : ML} {a n : Nat} {i : Int32} {x : Int32} (hd : DC M pc .bastore 1) (hy : lay a = (2, n, [])) (hin : vp_in i n) (kk : AW M d P (pc + 1) ls st (up2 μ a i.toNatClampNeg (vp_nar .boolean x)) ν) : AW M d P pc ls (.int x :: .int i :: .ref a :: st) μ ν := by
  intro _ p l e R s m args below meth c cells slots Q ad dC dI ca A C H locs lsC hW hl
  obtain ⟨⟨hx, hb, hml, hown, hts⟩, hK, hA, hR, hend, hscr, hNW⟩ := id C
  have ha : a < NO := lay_lt (by rw [hy]; show (2 : Nat) ≠ 9; decide)
  have he : (wl ad ca μ ν)[a]? = some (ad a, .inl (ca 1, n, .inl (μ a))) := by
    rw [wl_get ha, hy]
    rfl
  refine va_zast (D := (dC, dI)) hx hb hK hW.1 hW.2.1 hW.2.2 a 1 he rfl hin hd (fun H1 locs1 hP1 hD1 hS1 => ?_)
  have hw : (wl ad ca μ ν).set a (ad a, .inl (ca 1, n, .inl (upd (μ a) i.toNatClampNeg (vp_nar .boolean x)))) = wl ad ca (up2 μ a i.toNatClampNeg (vp_nar .boolean x)) ν :=
    wl_set ha (by rw [hy]; show _ = _; rw [up2_upd]; rfl) (fun b hb9 => ⟨up2_row μ a _ _ b hb9, rfl⟩)
  rw [hw] at hP1 hD1
  exact kk trivial C ⟨hP1, hD1, hS1⟩ hl
theorem A_last {M : MInfo} {d : Lv} {P : Po} {pc : Nat} {ls : List (Option Value)} {st : List Value} {μ : MI} {ν : ML} {a n : Nat} {i : Int32} {x : Int64} (hd : DC M pc .lastore 1) (hy : lay a = (3, n, [])) (hin : vp_in i n) (kk : AW M d P (pc + 1) ls st μ (up2 ν a i.toNatClampNeg x)) : AW M d P pc ls (.long x :: .int i :: .ref a :: st) μ ν := by
  intro _ p l e R s m args below meth c cells slots Q ad dC dI ca A C H locs lsC hW hl
  obtain ⟨⟨hx, hb, hml, hown, hts⟩, hK, hA, hR, hend, hscr, hNW⟩ := id C
  have ha : a < NO := lay_lt (by rw [hy]; show (3 : Nat) ≠ 9; decide)
  have he : (wl ad ca μ ν)[a]? = some (ad a, .inl (ca 2, n, .inr (.inl (ν a)))) := by
    rw [wl_get ha, hy]
    rfl
  refine va_last (D := (dC, dI)) hx hb hK hW.1 hW.2.1 hW.2.2 a 2 he rfl hin hd (fun H1 locs1 hP1 hD1 hS1 => ?_)
  have hw : (wl ad ca μ ν).set a (ad a, .inl (ca 2, n, .inr (.inl (vp_updL (ν a) i.toNatClampNeg x)))) = wl ad ca μ (up2 ν a i.toNatClampNeg x) :=
    wl_set ha (by rw [hy]; show _ = _; rw [up2_updL]; rfl) (fun b hb9 => ⟨rfl, up2_row ν a _ x b hb9⟩)
  rw [hw] at hP1 hD1
  exact kk trivial C ⟨hP1, hD1, hS1⟩ hl
theorem A_iastN {M : MInfo} {d : Lv} {P : Po} {pc : Nat} {ls : List (Option Value)} {st : List Value} {μ : MI} {ν : ML} {a n j : Nat} {i : Int32} {x : Int32} (hd : DC M pc .iastore 1) (hy : lay a = (1, n, [])) (hi : i = nI j) (hj : j < n) (hn : n < 2 ^ 31) (kk : AW M d P (pc + 1) ls st (up2 μ a j x) ν) : AW M d P pc ls (.int x :: .int i :: .ref a :: st) μ ν := by
  subst hi
  refine A_iast hd hy (vp_in_nI hj hn) ?_
  rw [nI_clamp (by omega)]
  exact kk
theorem A_zastN {M : MInfo} {d : Lv} {P : Po} {pc : Nat} {ls : List (Option Value)} {st : List Value} {μ : MI} {ν : ML} {a n j : Nat} {i : Int32} {x : Int32} (hd : DC M pc .bastore 1) (hy : lay a = (2, n, [])) (hi : i = nI j) (hj : j < n) (hn : n < 2 ^ 31) (hz : vp_nar .boolean x = x) (kk : AW M d P (pc + 1) ls st (up2 μ a j x) ν) : AW M d P pc ls (.int x :: .int i :: .ref a :: st) μ ν := by
  subst hi
  refine A_zast hd hy (vp_in_nI hj hn) ?_
  rw [nI_clamp (by omega), hz]
  exact kk
theorem A_lastN {M : MInfo} {d : Lv} {P : Po} {pc : Nat} {ls : List (Option Value)} {st : List Value} {μ : MI} {ν : ML} {a n j : Nat} {i : Int32} {x : Int64} (hd : DC M pc .lastore 1) (hy : lay a = (3, n, [])) (hi : i = nI j) (hj : j < n) (hn : n < 2 ^ 31) (kk : AW M d P (pc + 1) ls st μ (up2 ν a j x)) : AW M d P pc ls (.long x :: .int i :: .ref a :: st) μ ν := by
  subst hi
  refine A_last hd hy (vp_in_nI hj hn) ?_
  rw [nI_clamp (by omega)]
  exact kk
theorem A_aald {M : MInfo} {d : Lv} {P : Po} {pc : Nat} {ls : List (Option Value)} {st : List Value} {μ : MI} {ν : ML} {a n j q : Nat} {i : Int32} {rs : List (Option Nat)} (hd : DC M pc .aaload 1) (hy : lay a = (4, n, rs)) (hi : i = nI j) (hj : j < n) (hn : n < 2 ^ 31) (hq : rs.getD j none = some q) (kk : AW M d P (pc + 1) ls (.ref q :: st) μ ν) : AW M d P pc ls (.int i :: .ref a :: st) μ ν := by
  intro _ p l e R s m args below meth c cells slots Q ad dC dI ca A C H locs lsC hW hl
  obtain ⟨⟨hx, hb, hml, hown, hts⟩, hK, hA, hR, hend, hscr, hNW⟩ := id C
  subst hi
  have ha : a < NO := lay_lt (by rw [hy]; show (4 : Nat) ≠ 9; decide)
  have he : (wl ad ca μ ν)[a]? = some (ad a, .inl (ca 3, n, .inr (.inr (.inr (.inr (fun j => (rs.getD j none).map ad)))))) := by
    rw [wl_get ha, hy]
    rfl
  have hc : (nI j).toNatClampNeg = j := nI_clamp (by omega)
  have hin : vp_in (nI j) n := vp_in_nI hj hn
  exact W.aald (v := .ref (ad q)) (ty := .array .int) hx hb (hW.1 a _ he) ((hK.2 3 _ rfl).1 n (fun j => va_rf ((rs.getD j none).map ad))) rfl (fun q => by cases q) (by show ¬ (nI j < 0 ∨ (arrV _ _ _).slots.size ≤ _); rw [arrV_size]; exact hin) (by show (arrV _ _ _).slots[_]? = _; rw [arrV_read _ _ (by rw [hc]; exact hj), hc]; show some (va_rf ((rs.getD j none).map ad)) = _; rw [hq]; rfl) rfl rfl hd (kk trivial C hW hl)
theorem A_alen {M : MInfo} {d : Lv} {P : Po} {pc : Nat} {ls : List (Option Value)} {st : List Value} {μ : MI} {ν : ML} {a n : Nat} (hd : DC M pc .arraylength 1) (hy : lay a = (1, n, [])) (kk : AW M d P (pc + 1) ls (.int (nI n) :: st) μ ν) : AW M d P pc ls (.ref a :: st) μ ν := by
  intro _ p l e R s m args below meth c cells slots Q ad dC dI ca A C H locs lsC hW hl
  obtain ⟨⟨hx, hb, hml, hown, hts⟩, hK, hA, hR, hend, hscr, hNW⟩ := id C
  have ha : a < NO := lay_lt (by rw [hy]; show (1 : Nat) ≠ 9; decide)
  have he : (wl ad ca μ ν)[a]? = some (ad a, .inl (ca 0, n, .inl (μ a))) := by
    rw [wl_get ha, hy]
    rfl
  exact va_alen (D := (dC, dI)) hx hb hK hW.1 a 0 he (ty := .int) rfl rfl hd (kk trivial C hW hl)
theorem A_sld {M : MInfo} {d : Lv} {P : Po} {pc : Nat} {ls : List (Option Value)} {st : List Value} {μ : MI} {ν : ML} {L : Nat} {xs : Nat → Int32} {i : Int32} (hd : DC M pc .iaload 1) (hs : d.2 = some (L, xs)) (hin : vp_in i L) (kk : AW M d P (pc + 1) ls (.int (xs i.toNatClampNeg) :: st) μ ν) : AW M d P pc ls (.int i :: .ref NO :: st) μ ν := by
  intro _ p l e R s m args below meth c cells slots Q ad dC dI ca A C H locs lsC hW hl
  obtain ⟨⟨hx, hb, hml, hown, hts⟩, hK, hA, hR, hend, hscr, hNW⟩ := id C
  obtain ⟨hX, hbl, hbA⟩ := hscr L xs hs
  exact va_sld hx hb hX hbl hbA hW.2.2 hin hd (kk trivial C hW hl)
theorem A_slen {M : MInfo} {d : Lv} {P : Po} {pc : Nat} {ls : List (Option Value)} {st : List Value} {μ : MI} {ν : ML} {L : Nat} {xs : Nat → Int32} (hd : DC M pc .arraylength 1) (hs : d.2 = some (L, xs)) (kk : AW M d P (pc + 1) ls (.int (nI L) :: st) μ ν) : AW M d P pc ls (.ref NO :: st) μ ν := by
  intro _ p l e R s m args below meth c cells slots Q ad dC dI ca A C H locs lsC hW hl
  obtain ⟨⟨hx, hb, hml, hown, hts⟩, hK, hA, hR, hend, hscr, hNW⟩ := id C
  obtain ⟨hX, hbl, hbA⟩ := hscr L xs hs
  exact va_slen hx hb hX hbl hbA hW.2.2 hd (kk trivial C hW hl)
theorem A_iret {M : MInfo} {d : Lv} {P : Po} {pc : Nat} {ls : List (Option Value)} {μ : MI} {ν : ML} {x : Int32} {rt : FieldType} (hd : DC M pc .ireturn 1) (hr : mRet M = some rt) (hn : narrow rt (.int x) = .int x) (hP : P (some (.int x)) μ ν) : AW M d P pc ls [.int x] μ ν := by
  intro _ p l e R s m args below meth c cells slots Q ad dC dI ca A C H locs lsC hW hl
  obtain ⟨⟨hx, hb, hml, hown, hts⟩, hK, hA, hR, hend, hscr, hNW⟩ := id C
  exact hend pc lsC (some (.int x)) μ ν H locs (Or.inl ⟨hd, x, rt, rfl, hr, hn⟩) hP hW
theorem A_lret {M : MInfo} {d : Lv} {P : Po} {pc : Nat} {ls : List (Option Value)} {μ : MI} {ν : ML} {x : Int64} (hd : DC M pc .lreturn 1) (hr : mRet M = some .long) (hP : P (some (.long x)) μ ν) : AW M d P pc ls [.long x] μ ν := by
  intro _ p l e R s m args below meth c cells slots Q ad dC dI ca A C H locs lsC hW hl
  obtain ⟨⟨hx, hb, hml, hown, hts⟩, hK, hA, hR, hend, hscr, hNW⟩ := id C
  exact hend pc lsC (some (.long x)) μ ν H locs (Or.inr (Or.inl ⟨hd, x, rfl, hr⟩)) hP hW
theorem A_vret {M : MInfo} {d : Lv} {P : Po} {pc : Nat} {ls : List (Option Value)} {μ : MI} {ν : ML} (hd : DC M pc .return_ 1) (hr : mRet M = none) (hP : P none μ ν) : AW M d P pc ls [] μ ν := by
  intro _ p l e R s m args below meth c cells slots Q ad dC dI ca A C H locs lsC hW hl
  obtain ⟨⟨hx, hb, hml, hown, hts⟩, hK, hA, hR, hend, hscr, hNW⟩ := id C
  exact hend pc lsC none μ ν H locs (Or.inr (Or.inr ⟨hd, rfl, hr⟩)) hP hW
theorem A_few {M : MInfo} {d : Lv} {P : Po} {pc : Nat} {ls : List (Option Value)} {st : List Value} {μ : MI} {ν : ML} {ls0 : List (Option Value)} (hf : fewer ls0 ls) (kk : AW M d P pc ls0 st μ ν) : AW M d P pc ls st μ ν := by
  intro _ p l e R s m args below meth c cells slots Q ad dC dI ca A C H locs lsC hW hl
  obtain ⟨⟨hx, hb, hml, hown, hts⟩, hK, hA, hR, hend, hscr, hNW⟩ := id C
  exact kk trivial C hW ⟨hl.1, hl.2.1, fun i v h => hl.2.2 i v (fewer_get hf i v h)⟩
/-! calls -/
theorem va_callG {M : MInfo} {d : Lv} {P : Po} {p : Program} {l : Launch} {e : Env} {R : Room} {s : State} {m : MethodId} {args : Array Value} {below : List Frame} {meth : Method} {c : Code} {cells slots : Nat} {Q : State → Prop} {ad : Nat → Nat} {dC : Nat → ClassId} {dI : Nat → Nat → Nat} {ca : Nat → ClassId} {A : Nat → Prop} {H : Heap} {locs : List Loc} {lsC : Array Slot} {μ : MI} {ν : ML} {pc : Nat} {ls : List (Option Value)} {st0 st : List Value} {a : Array Value}
    (C : Cx M d P p l e R s m args below meth c cells slots Q ad dC dI ca A) (hW : Wd ad dC dI ca A s μ ν H locs) (hl : Ls ad (mLoc M) ls lsC)
    (hr : va_Run p l e R s m args below meth c H locs cells slots 0 0 (F0 m pc lsC st0) (st.map (cv ad)) (QG ad dC dI ca (Kn M d P (pc + 3) ls st) (Ad ad H.size) a) (Ad ad H.size)) : W p l e R s m args below meth c H locs cells slots Q (F0 m pc lsC st0) := by
  have hA1 : ∀ q : Nat, Ad ad H.size q → A q := by
    intro q hq
    rcases hq with ⟨k, hk, rfl⟩ | hq
    · exact hW.2.1.2 k _ (wl_get hk)
    · exact C.2.2.1 q (Nat.le_trans hW.2.2.1 hq)
  intro T hT X
  obtain ⟨v, st₀, t, T', L, h0, X', hL, e1, e2, ⟨⟨r, μ1, ν1, hv, hp, hb⟩, hz, hk⟩, stp⟩ := hr T hT X
  cases hv
  rw [h0] at hz hk
  have hS := hW.2.2
  have hS1 : va_S A s.heap T'.heap (locs ++ L) := ⟨Nat.le_trans hS.1 (by rw [e1]; exact hz), fun q h1 h2 => by rw [e1, hk q (Nat.lt_of_lt_of_le h1 hS.1) (fun z => h2 (hA1 q z))]; exact hS.2.1 q h1 h2, fun q hq => by
      rcases List.mem_append.mp hq with h | h
      · exact hS.2.2 q h
      · exact hA1 _ (hL q h)⟩
  obtain ⟨t2, a1, b1⟩ := hp trivial C (H := T'.heap) (locs := locs ++ L) (lsC := lsC) ⟨by rw [e1]; exact hb, wl_D hW.2.1, hS1⟩ hl T' rfl X'
  refine ⟨t2, stp t2 ?_, b1⟩
  have he : (r.toList ++ st).map (cv ad) = (r.map (cv ad)).toList ++ st.map (cv ad) := by cases r <;> rfl
  rw [he] at a1
  exact a1
theorem pre_blind {ad : Nat → Nat} {dC : Nat → ClassId} {dI : Nat → Nat → Nat} {ca : Nat → ClassId} {μ : MI} {ν : ML} {sz : Nat} {av : List Value} : FrameBlind (va_Pc av (fun U => U.heap.size = sz ∧ va_P (dC, dI) vwCl (wl ad ca μ ν) U.heap ∧ va_K (dC, dI) vwCl (tysOf ca) U ∧ va_D (fun _ => True) (wl ad ca μ ν) ∧ NW U)) := by
  intro a U g mk q
  obtain ⟨q0, q1, qP, qK, qD, qN⟩ := q
  exact ⟨q0, q1, qP, va_K.moved (u := U) (U := U.calling g mk a) (Vm.Alike.refl U.vm) qK, qD, NW.same (s := U) (U := U.calling g mk a) rfl qN⟩
theorem room_ok {R : Room} {d : Lv} {d1 n : Nat} (hR : d.1 ≤ R.frames ∧ 36 * d.1 ≤ R.locals) (hd : d1 < d.1) (hn : n ≤ 17) : (rmD d1).frames + 1 ≤ R.frames ∧ 8 + (n + 11) + (rmD d1).locals ≤ R.locals := by
  have h1 : (rmD d1).frames = d1 := rfl
  have h2 : (rmD d1).locals = 36 * d1 := rfl
  rw [h1, h2]
  omega
theorem map_rev (ad : Nat → Nat) (as st : List Value) : (as.reverse ++ st).map (cv ad) = (as.map (cv ad)).reverse ++ st.map (cv ad) := by
  rw [List.map_append, List.map_reverse]
theorem st_room (ad : Nat → Nat) {st : List Value} (h : (st.map fun v => v.category).sum ≤ 8) : ((st.map (cv ad)).map fun v => v.category).sum ≤ 8 := by
  rw [cv_sum]
  exact h
theorem A_callV {M M1 : MInfo} {d : Lv} {P : Po} {pc d1 idx n a ci : Nat} {Cn : String} {ls : List (Option Value)} {as st : List Value} {fs : List (Option Nat)} {μ : MI} {ν : ML} {T : u_T} {N : Nat} (hd : DC M pc (.invokevirtual idx) 3) (hm : VL (mOwn M) idx Cn M1 n) (hdd : d1 < d.1) (hy : lay a = (0, ci, fs)) (hci : vwCl[ci]? = some (Cn, T, N)) (hn : as.length = n) (hr : (st.map fun v => v.category).sum ≤ 8) (hC : Ct M1 d1 (.ref a :: as) μ ν (Kn M d P (pc + 3) ls st)) : AW M d P pc ls (as.reverse ++ .ref a :: st) μ ν := by
  intro _ p l e R s m args below meth c cells slots Q ad dC dI ca A C H locs lsC hW hl
  obtain ⟨hS, hK, hA, hR, hend, hscr, hNW⟩ := id C
  obtain ⟨hmw, hw1, hw2, hw3⟩ := hm
  have ha : a < NO := lay_lt (by rw [hy]; show (0 : Nat) ≠ 9; decide)
  have he : (wl ad ca μ ν)[a]? = some (ad a, .inr (ci, fs.mapIdx (fun j o => fv1 ad o (μ a j)))) := by
    rw [wl_get ha, hy]
    rfl
  have hts := hS.2.2.2.2
  have cw : CallW R s args (mOwn M) Cn idx (mName M1) (mCode M1) (mLoc M1) (mRet M1) (mWs M1) (rmD d1) 0 0 n :=
    ⟨callB_of n hts (mWs_good hmw) rfl rfl rfl (hts _ hmw.1) (hts _ hw1) ⟨hmw.2.2.1.1, hmw.2.2.1.2, hmw.2.2.2.1⟩ (room_ok ⟨hR.1, hR.2.1⟩ hdd hmw.2.2.2.2), hts _ hw2, hts _ hw3⟩
  rw [map_rev]
  exact va_callG C hW hl (va_runV (As := as.map (cv ad)) (b := ad a) hS (hC l ad dC dI ca H.size) cw ⟨pre_blind, va_recv hK hW.1 hci he, fun U hU hw => ⟨rfl, by rw [hU], by rw [hU]; exact hW.1, va_K.moved hw.alike hK, hW.2.1.weaken (fun _ _ _ _ => trivial), NW.warm hw hNW⟩⟩ rfl (by rw [List.length_map]; exact hn) hl.1 rfl (lv_room (st_room ad hr)) hd ⟨hR.2.2.1, hR.2.2.2⟩)
theorem A_callS {M M1 : MInfo} {d : Lv} {P : Po} {pc d1 idx n : Nat} {ls : List (Option Value)} {as st : List Value} {μ : MI} {ν : ML} (hd : DC M pc (.invokestatic idx) 3) (hm : SL (mOwn M) idx M1 n) (hdd : d1 < d.1) (hn : as.length = n) (hr : (st.map fun v => v.category).sum ≤ 8) (hC : Ct M1 d1 as μ ν (Kn M d P (pc + 3) ls st)) : AW M d P pc ls (as.reverse ++ st) μ ν := by
  intro _ p l e R s m args below meth c cells slots Q ad dC dI ca A C H locs lsC hW hl
  obtain ⟨hS, hK, hA, hR, hend, hscr, hNW⟩ := id C
  obtain ⟨hmw, hw1, hw2⟩ := hm
  have hts := hS.2.2.2.2
  have cw : CallB R s args (mOwn M) idx (mName M1) (mCode M1) (mLoc M1) (mRet M1) (mWs M1) (rmD d1) 0 0 n ∧ (Cond.static (mName M1)).before args s = true :=
    ⟨callB_of n hts (mWs_good hmw) rfl rfl rfl (hts _ hmw.1) (hts _ hw1) ⟨hmw.2.2.1.1, hmw.2.2.1.2, hmw.2.2.2.1⟩ (room_ok ⟨hR.1, hR.2.1⟩ hdd hmw.2.2.2.2), hts _ hw2⟩
  rw [map_rev]
  exact va_callG C hW hl (va_runS (As := as.map (cv ad)) hS (hC l ad dC dI ca H.size) cw ⟨pre_blind, fun U hU hw => ⟨rfl, by rw [hU], by rw [hU]; exact hW.1, va_K.moved hw.alike hK, hW.2.1.weaken (fun _ _ _ _ => trivial), NW.warm hw hNW⟩⟩ rfl (by rw [List.length_map]; exact hn) hl.1 rfl (lv_room (st_room ad hr)) hd ⟨hR.2.2.1, hR.2.2.2⟩)
theorem A_callN {M M1 : MInfo} {d : Lv} {P : Po} {pc d1 idx n : Nat} {host : String} {ls : List (Option Value)} {as st : List Value} {μ : MI} {ν : ML} (hd : DC M pc (.invokestatic idx) 3) (hm : SN (mOwn M) idx host M1 n) (hdd : d1 < d.1) (hn : as.length = n) (hr : (st.map fun v => v.category).sum ≤ 8) (hC : Ct M1 d1 as μ ν (Kn M d P (pc + 3) ls st)) : AW M d P pc ls (as.reverse ++ st) μ ν := by
  intro _ p l e R s m args below meth c cells slots Q ad dC dI ca A C H locs lsC hW hl
  obtain ⟨hS, hK, hA, hR, hend, hscr, hNW⟩ := id C
  obtain ⟨hmw, hw1, hw2⟩ := hm
  have hts := hS.2.2.2.2
  have cw : va_CN R s args (mOwn M) idx (mName M1) host (mCode M1) (mLoc M1) (mRet M1) (mWs M1) (rmD d1) 0 0 n ∧ (Cond.static (mName M1)).before args s = true ∧ True :=
    ⟨va_cnB n hts (mWs_good hmw) rfl rfl rfl (hNW _ hw1) (hts _ hmw.1) ⟨hmw.2.2.1.1, hmw.2.2.1.2, hmw.2.2.2.1⟩ (room_ok ⟨hR.1, hR.2.1⟩ hdd hmw.2.2.2.2), hts _ hw2, trivial⟩
  rw [map_rev]
  exact va_callG C hW hl (va_runSN (As := as.map (cv ad)) hS (hC l ad dC dI ca H.size) cw ⟨pre_blind, fun U hU hw => ⟨rfl, by rw [hU], by rw [hU]; exact hW.1, va_K.moved hw.alike hK, hW.2.1.weaken (fun _ _ _ _ => trivial), NW.warm hw hNW⟩⟩ rfl (by rw [List.length_map]; exact hn) hl.1 rfl (lv_room (st_room ad hr)) hd ⟨hR.2.2.1, hR.2.2.2⟩)
/-- a method out of its walk -/
def aw_ini (nL : Nat) (as : List Value) : List (Option Value) := (as.flatMap (fun v => if v.category = 2 then [some v, none] else [some v])) ++ List.replicate (nL - (lg_sl as).length) none
theorem ini_args : ∀ (as : List Value) (o : Nat) (i : Nat) (v : Value), (as.flatMap (fun v => if v.category = 2 then [some v, none] else [some v]))[i]? = some (some v) → (o + i, v) ∈ lv_args o as
  | [], o, i, v, h => by simp at h
  | u :: as, o, i, v, h => by
    rw [List.flatMap_cons] at h
    by_cases hc : u.category = 2
    · rw [if_pos hc] at h
      unfold lv_args
      rw [if_pos hc]
      match i, h with
      | 0, h =>
        cases h
        exact List.mem_cons_self
      | 1, h => cases h
      | i + 2, h =>
        have h2 := ini_args as (o + 2) i v (by simpa using h)
        rw [show o + (i + 2) = o + 2 + i by omega]
        exact List.mem_cons_of_mem _ h2
    · rw [if_neg hc] at h
      unfold lv_args
      rw [if_neg hc]
      match i, h with
      | 0, h =>
        cases h
        exact List.mem_cons_self
      | i + 1, h =>
        have h2 := ini_args as (o + 1) i v (by simpa using h)
        rw [show o + (i + 1) = o + 1 + i by omega]
        exact List.mem_cons_of_mem _ h2
theorem args_map (ad : Nat → Nat) : ∀ (as : List Value) (o : Nat), lv_args o (as.map (cv ad)) = (lv_args o as).map (fun q => (q.1, cv ad q.2))
  | [], _ => rfl
  | u :: as, o => by
    simp only [List.map_cons, lv_args, cv_cat]
    rw [args_map ad as]
theorem sl_map (ad : Nat → Nat) (as : List Value) : (lg_sl (as.map (cv ad))).length = (lg_sl as).length := by
  induction as with
  | nil => rfl
  | cons u as ih =>
    unfold lg_sl at ih ⊢
    rw [List.map_cons, List.flatMap_cons, List.flatMap_cons, List.length_append, List.length_append, ih, cv_cat]
    by_cases h : u.category = 2 <;> simp [h]
theorem Ls.ini {ad : Nat → Nat} {nL : Nat} {as : List Value} (h : (lg_sl as).length ≤ nL) : Ls ad nL (aw_ini nL as) ((lg_sl (as.map (cv ad)) ++ List.replicate (nL - (lg_sl (as.map (cv ad))).length) Slot.unset).toArray) := by
  have hl := lv_entry (as.map (cv ad)) (n := nL) (by rw [sl_map]; exact h)
  refine ⟨hl.1, hl.2.1, fun i v hv => ?_⟩
  unfold aw_ini at hv
  have h1 : (as.flatMap (fun v => if v.category = 2 then [some v, none] else [some v]))[i]? = some (some v) := by
    by_cases hi : i < (as.flatMap (fun v => if v.category = 2 then [some v, none] else [some v])).length
    · rwa [List.getElem?_append_left hi] at hv
    · rw [List.getElem?_append_right (by omega), List.getElem?_replicate] at hv
      split at hv <;> cases hv
  have h2 := ini_args as 0 i v h1
  refine hl.2.2 (i, cv ad v) ?_
  rw [args_map]
  exact List.mem_map.mpr ⟨(i, v), by rw [Nat.zero_add] at h2; exact h2, rfl⟩
theorem Ct.of {M : MInfo} {d : Nat} {as : List Value} {μ : MI} {ν : ML} {P : Po} {ls0 : List (Option Value)} (hpl : plainName (mName M).cls = true) (hoo : mOwn M = (mName M).cls) (hlen : (lg_sl as).length ≤ mLoc M) (hini : aw_ini (mLoc M) as = ls0) (h : AW M (d, none) P 0 ls0 [] μ ν) : Ct M d as μ ν P := by
  intro l ad dC dI ca sz
  refine Met.ofW (cc := mCode M) (maxL := mLoc M) (ret := mRet M) hpl rfl ?_
  intro p e s m args below meth c s₁ B hml hv
  obtain ⟨rfl, hsz, hP, hK, hD0, hNW⟩ := hv
  have hx := B.exec
  have hb := B.bytes
  have hr := B.returns
  have hts0 := atoms_spec (ws := mWs M) B.pre
  have hts : ∀ w ∈ lw_g, w.before (as.map (cv ad)).toArray s = true := fun w hw => hts0 w (List.mem_cons_of_mem _ hw)
  have hown : s.vm.findClass (mOwn M) = some m.cls := by rw [hoo]; exact findClass_of_methodNamed B.named
  have hlocks := B.notSynchronized
  subst hsz
  have hD : va_D (Ad ad s.heap.size) (wl ad ca μ ν) := ⟨hD0.1, fun k q hk => Or.inl ⟨k, (wl_out hk).1, (wl_out hk).2⟩⟩
  rw [lg_entry_eq]
  subst hini
  refine h trivial (R := rmD d) (cells := 0) (slots := 0) ⟨⟨hx, hb, hml, hown, hts⟩, hK, fun q hq => Or.inr hq, ⟨Nat.le_refl d, Nat.le_refl (36 * d), Nat.le_refl 0, Nat.le_refl 0⟩, ?_, (fun L xs h => by cases h), hNW⟩ ⟨hP, hD, va_S.rf⟩ (Ls.ini hlen)
  intro pc lsC v μ1 ν1 H locs hret hPost hWd
  rcases hret with ⟨hd, x, rt, rfl, hrt, hn⟩ | ⟨hd, x, rfl, hrt⟩ | ⟨hd, rfl, hrt⟩
  · exact W.zret hx hb (by rw [hr]; exact hrt) hn (fun t ht hW => ⟨⟨some (.int x), μ1, ν1, rfl, hPost, by rw [ht]; exact hWd.1⟩, hWd.2.2.F ht⟩) hWd.2.2.2.2 hd
  · exact W.lret hx hb (by rw [hr]; exact hrt) (fun t ht hW => ⟨⟨some (.long x), μ1, ν1, rfl, hPost, by rw [ht]; exact hWd.1⟩, hWd.2.2.F ht⟩) hWd.2.2.2.2 hd
  · exact W.vret hx hb (by rw [hr]; exact hrt) (fun t ht hW => ⟨⟨none, μ1, ν1, rfl, hPost, by rw [ht]; exact hWd.1⟩, hWd.2.2.F ht⟩) hWd.2.2.2.2 hd
