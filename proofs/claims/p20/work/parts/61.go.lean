/-! THE CLAIM OUT OF ONE WALK OF THE LAW'S BODY. Your part is whole_start (and what it stands on); all else here is the same for every law, but numbers. -/
def R_law : String := "TickGardenLaw"
def lw_P (b : Addr) (xs : List Int32) (args : Array Value) (s : State) : Prop := args = #[.ref b] ∧ s.IntsAt b xs ∧ xs.length ≤ 3072 ∧ (Jvm.Cond.and given_1 narrow_1).before args s = true
def lw_Q (_ : Array Value) (s : State) (o : Outcome) (t : State) : Prop := o = .returned (some (.int 1)) ∧ Framed s o t [] 600000 7302250
def lw_Z (below : List Frame) (a : Array Value) (s : State) : State → Prop := fun t => ∃ o, t.status = .running ∧ Ended t below o ∧ lw_Q a s o t
/-- the law's own end, with 1 on the stack, nothing written that was there before, its room as the claim has it -/
theorem lw_ret {p : Program} {l : Launch} {e : Env} {s : State} {m : MethodId} {below : List Frame} {meth : Method} {c : Code} {b : Nat} (hx : p.tables.exec = Jvm.exec) (hb : c.code = code) (hr : meth.sig.returnType = ret) (hlocks : meth.locks = false) {pc : Nat} {H : Heap} {ls : Array Slot} (hdg : decode code pc = .ok (.ireturn, 1)) : W p l e room_1 s m #[Value.ref b] below meth c H [] 600000 7302250 (lw_Z below #[Value.ref b] s) (F0 m pc ls [.int 1]) := by
  intro T hT X
  obtain ⟨fs, hret, hrun, hended, hW, hframe⟩ := X.leave (v := some (.int 1)) (hlocks := hlocks) (fun h => by rw [hr] at h; cases h)
  have hmeth' : T.vm.method? m = some meth := X.method'
  refine ⟨T.setFrames fs, ?_, .returned (some (.int 1)), hrun, hended, rfl, ⟨_, rfl⟩, hW, hframe⟩
  jvm_step X.here [X.here.top, hx, hb, hdg, hmeth', hr, ret, narrow_b1]
  (try refine ⟨rfl, ?_⟩); (try refine ⟨rfl, ?_⟩)
  first | (intro acts; rw [hret _ acts rfl rfl rfl]) | rw [hret _ _ rfl rfl rfl]
  exact Steps.refl _
/-- what holds at the law's entry: the machine, the code, the tables' words (any of lw_tbl by 'hts w (by decide +kernel)'), the script of L ints xs at the cell b, what the Statement gives of the start (any of its parts by flat_of_before) -/
def lw_At (p : Program) (s : State) (m : MethodId) (meth : Method) (c : Code) (b L : Nat) (xs : Nat → Int32) : Prop :=
  p.tables.exec = Jvm.exec ∧ c.code = code ∧ meth.sig.returnType = ret ∧ c.maxLocals = 4 ∧ s.vm.findClass R_law = some m.cls ∧ (∀ w ∈ lw_tbl, w.before #[Value.ref b] s = true) ∧ va_X b L xs s s.heap ∧ b < s.heap.size ∧ meth.locks = false ∧ (Jvm.Cond.and given_1 narrow_1).before #[Value.ref b] s = true
set_option maxHeartbeats 8000000 in
set_option maxRecDepth 100000 in
theorem whole_go {P : Po} (hPo : ∀ v μ ν, P v μ ν → v = some (.int (nI 1))) {p : Program} {e : Env} {s : State} {m : MethodId} {below : List Frame} {meth : Method} {c : Code} (l : Launch) {b L : Nat} {xs : Nat → Int32} (hAW : AW mL_law (9, some (L, xs)) P 16 [some (.ref NO), some (.ref 0), some (.ref 75), none] [] mu0 nu0) (C0 : lw_At p s m meth c b L xs) : W p l e room_1 s m #[Value.ref b] below meth c s.heap [] 0 0 (lw_Z below #[Value.ref b] s) (entryFrame m ([Value.ref b] : List Value).toArray 4) := by
  obtain ⟨hx, hb, hr, hml, hown, htsT, hX, hbl, hlocks, hgv⟩ := id C0
  have hts : ∀ w ∈ lw_g, w.before #[Value.ref b] s = true := fun w hw => htsT w (gT hw)
  have tT : ∀ (w : Cond) (i : Nat), tables_1[i]? = some w → w.before #[Value.ref b] s = true := fun w i h => htsT w (List.mem_append_right _ (List.mem_of_getElem? h))
  obtain ⟨A, hAd, hA, hbA⟩ : ∃ A : Nat → Prop, (∀ q : Nat, A q → s.heap.size ≤ q) ∧ (∀ q : Nat, s.heap.size ≤ q → A q) ∧ ¬ A b := ⟨fun q => s.heap.size ≤ q, fun _ h => h, fun _ h => h, Nat.not_le.mpr hbl⟩
  obtain ⟨c0, i0, k0⟩ := u_known (C := RX0) (T := TX0) (N := 3) (n := 3) hts inX0 (hts _ (tI (w := Cond.instantiable RX0 3) 257 (by decide +kernel) rfl))
  obtain ⟨c1, i1, k1⟩ := u_known (C := RX1) (T := TX1) (N := 5) (n := 5) hts inX1 (hts _ (tI (w := Cond.instantiable RX1 5) 31 (by decide +kernel) rfl))
  obtain ⟨c2, i2, k2⟩ := u_known (C := RX2) (T := TX2) (N := 11) (n := 11) hts inX2 (hts _ (tI (w := Cond.instantiable RX2 11) 156 (by decide +kernel) rfl))
  obtain ⟨c3, i3, k3⟩ := u_known (C := RX3) (T := TX3) (N := 4) (n := 4) hts inX3 (hts _ (tI (w := Cond.instantiable RX3 4) 93 (by decide +kernel) rfl))
  obtain ⟨c4, i4, k4⟩ := u_known (C := RX4) (T := TX4) (N := 3) (n := 3) hts inX4 (hts _ (tI (w := Cond.instantiable RX4 3) 239 (by decide +kernel) rfl))
  obtain ⟨c5, i5, k5⟩ := u_known (C := RX5) (T := TX5) (N := 5) (n := 5) hts inX5 (hts _ (tI (w := Cond.instantiable RX5 5) 25 (by decide +kernel) rfl))
  obtain ⟨c6, i6, k6⟩ := u_known (C := RX6) (T := TX6) (N := 3) (n := 3) hts inX6 (hts _ (tI (w := Cond.instantiable RX6 3) 113 (by decide +kernel) rfl))
  obtain ⟨c7, i7, k7⟩ := u_known (C := RX7) (T := TX7) (N := 5) (n := 5) hts inX7 (hts _ (tI (w := Cond.instantiable RX7 5) 64 (by decide +kernel) rfl))
  obtain ⟨c8, i8, k8⟩ := u_known (C := RX8) (T := TX8) (N := 5) (n := 5) hts inX8 (hts _ (tI (w := Cond.instantiable RX8 5) 158 (by decide +kernel) rfl))
  obtain ⟨c9, i9, k9⟩ := u_known (C := RX9) (T := TX9) (N := 7) (n := 7) hts inX9 (hts _ (tI (w := Cond.instantiable RX9 7) 17 (by decide +kernel) rfl))
  obtain ⟨c10, i10, k10⟩ := u_known (C := RX10) (T := TX10) (N := 36) (n := 36) hts inX10 (hts _ (tI (w := Cond.instantiable RX10 36) 595 (by decide +kernel) rfl))
  obtain ⟨dC, dI, hKc⟩ : ∃ (dC : Nat → ClassId) (dI : Nat → Nat → Nat), ∀ (k : Nat) (q : vw_C), vwCl[k]? = some q → u_Kn s q.1 q.2.1 q.2.2 (dC k) (dI k) := by
    refine ⟨fun k => [c0, c1, c2, c3, c4, c5, c6, c7, c8, c9, c10].getD k c0, fun k => [i0, i1, i2, i3, i4, i5, i6, i7, i8, i9, i10].getD k i0, ?_⟩
    intro k q hq
    match k, hq with
    | 0, hq => cases hq; exact k0
    | 1, hq => cases hq; exact k1
    | 2, hq => cases hq; exact k2
    | 3, hq => cases hq; exact k3
    | 4, hq => cases hq; exact k4
    | 5, hq => cases hq; exact k5
    | 6, hq => cases hq; exact k6
    | 7, hq => cases hq; exact k7
    | 8, hq => cases hq; exact k8
    | 9, hq => cases hq; exact k9
    | 10, hq => cases hq; exact k10
    | k + 11, hq => simp [vwCl] at hq
  obtain ⟨a0, ha0⟩ := ca_ex (ty := .int) (Or.inl rfl) (hts _ ac_I)
  obtain ⟨a1, ha1⟩ := ca_ex (ty := .boolean) (Or.inr (Or.inl rfl)) (hts _ ac_Z)
  obtain ⟨a2, ha2⟩ := ca_ex (ty := .long) (Or.inr (Or.inr rfl)) (hts _ ac_L)
  obtain ⟨a3, ha3⟩ := ca_ex2 (tT (Cond.arrayOver (.array .int)) 191 (by decide +kernel))
  obtain ⟨ca, hK⟩ : ∃ ca : Nat → ClassId, va_K (dC, dI) vwCl (tysOf ca) s := by
    refine ⟨fun k => [a0, a1, a2, a3].getD k a0, hKc, fun k q h => ?_⟩
    match k, h with
    | 0, h => cases h; exact ha0
    | 1, h => cases h; exact ha1
    | 2, h => cases h; exact ha2
    | 3, h => cases h; exact ha3
    | k + 4, h => simp [tysOf] at h
  have hNW : NW s := by
    intro q hq
    simp only [nestL, List.mem_cons, List.not_mem_nil, or_false] at hq
    rcases hq with rfl | rfl | rfl | rfl | rfl | rfl
    · exact va_Nw.of rfl (tT (Cond.methodLinkNest "TickGarden$Flow" 172 ⟨"TickGarden", "sum", "([I)I"⟩ "TickGarden") 371 (by decide +kernel))
    · exact va_Nw.of rfl (tT (Cond.methodLinkNest "TickGarden$Spells" 22 ⟨"TickGarden", "within", "(III)Z"⟩ "TickGarden") 388 (by decide +kernel))
    · exact va_Nw.of rfl (tT (Cond.methodLinkNest "TickGarden$Spouts" 28 ⟨"TickGarden", "goesInto", "(II)Z"⟩ "TickGarden") 393 (by decide +kernel))
    · exact va_Nw.of rfl (tT (Cond.methodLinkNest "TickGarden$Flow" 67 ⟨"TickGarden", "goesInto", "(II)Z"⟩ "TickGarden") 415 (by decide +kernel))
    · exact va_Nw.of rfl (tT (Cond.methodLinkNest "TickGarden$Plan" 47 ⟨"TickGarden", "goesInto", "(II)Z"⟩ "TickGarden") 468 (by decide +kernel))
    · exact va_Nw.of rfl (tT (Cond.methodLinkNest "TickGarden$Twist" 29 ⟨"TickGarden", "within", "(III)Z"⟩ "TickGarden") 545 (by decide +kernel))
  have hNC : NC s := by
    refine ⟨fun q hq => ?_, tT (Cond.arrayOver (.array .int)) 191 (by decide +kernel)⟩
    simp only [nestC, List.mem_cons, List.not_mem_nil, or_false] at hq
    rcases hq with rfl | rfl | rfl | rfl | rfl | rfl | rfl | rfl
    · exact va_Nw.of rfl (tT (Cond.methodLinkNest "TickGarden" 11 ⟨"TickGarden$Plan", "<init>", "()V"⟩ "TickGarden") 26 (by decide +kernel))
    · exact va_Nw.of rfl (tT (Cond.methodLinkNest "TickGarden$Plan" 11 ⟨"TickGarden$Buckets", "<init>", "()V"⟩ "TickGarden") 32 (by decide +kernel))
    · exact va_Nw.of rfl (tT (Cond.methodLinkNest "TickGarden$Plan" 20 ⟨"TickGarden$Spouts", "<init>", "()V"⟩ "TickGarden") 65 (by decide +kernel))
    · exact va_Nw.of rfl (tT (Cond.methodLinkNest "TickGarden$Plan" 27 ⟨"TickGarden$Frogs", "<init>", "()V"⟩ "TickGarden") 94 (by decide +kernel))
    · exact va_Nw.of rfl (tT (Cond.methodLinkNest "TickGarden$Plan" 34 ⟨"TickGarden$Spells", "<init>", "()V"⟩ "TickGarden") 114 (by decide +kernel))
    · exact va_Nw.of rfl (tT (Cond.methodLinkNest "TickGarden" 20 ⟨"TickGarden$Twist", "<init>", "()V"⟩ "TickGarden") 159 (by decide +kernel))
    · exact va_Nw.of rfl (tT (Cond.methodLinkNest "TickGarden" 40 ⟨"TickGarden$Heard", "<init>", "()V"⟩ "TickGarden") 240 (by decide +kernel))
    · exact va_Nw.of rfl (tT (Cond.methodLinkNest "TickGarden" 47 ⟨"TickGarden$Blame", "<init>", "()V"⟩ "TickGarden") 258 (by decide +kernel))
  have hS : va_S A s.heap s.heap [] := va_S.rf
  have hP : va_P (dC, dI) vwCl [] s.heap := fun k q h => by simp at h
  have hD : va_D A [] := ⟨fun i j p q h => by simp at h, fun k q h => by simp at h⟩
  have hl := lv_entry ([.ref b]) (n := 4) (Nat.le_of_ble_eq_true rfl)
  rw [lg_entry_eq]
  generalize (lg_sl ([.ref b]) ++ List.replicate (4 - (lg_sl ([.ref b])).length) Slot.unset).toArray = ls at hl ⊢
  have hl : lv_has ls 4 [(0, .ref b)] := hl
  refine va_new (ci := 9) (fs := [.null, .null, .null, .null, .null, .null, .null]) (C := RX9) (T := TX9) (N := 7) hx hb hts inX9 tyX9 tyX9_ok hown (hts _ (tI (w := Cond.classLink RL 7 RX9) 16 (by decide +kernel) rfl)) (hts _ (tI (w := Cond.instantiable RX9 7) 17 (by decide +kernel) rfl)) (hts _ (tI (w := Cond.initialized RX9) 1 (by decide +kernel) rfl)) hK hP hD hS hA rfl bl_X9 (Nat.le_of_ble_eq_true rfl) (Nat.le_of_ble_eq_true rfl) dL_law_0 (fun h0 H hP hD hS => ?_)
  have hP : va_P (dC, dI) vwCl [(h0, .inr (9, [.null, .null, .null, .null, .null, .null, .null]))] H := hP
  have hD : va_D A [(h0, .inr (9, [.null, .null, .null, .null, .null, .null, .null]))] := hD
  refine lv_dup hx hb dL_law_3 rfl ?_
  have hPc := hP.sub (ws' := [(h0, .inr (9, [.null, .null, .null, .null, .null, .null, .null]))]) [0] rfl
  have hDc := hD.sub (ws' := [(h0, .inr (9, [.null, .null, .null, .null, .null, .null, .null]))]) [0] (by decide) rfl
  have hFc := va_free (wc := [(h0, .inr (9, [.null, .null, .null, .null, .null, .null, .null]))]) hD hS hA [0] rfl
  refine va_callv (va_runI (As := []) (rest := [.ref h0]) ⟨hx, hb, hml, hown, hts⟩ (k_X9 l dC dI ca h0 H.size) (cwI 0 hts (mWs_good mwX9_init) rfl rfl rfl (hts _ mwX9_init.1) (hts _ (tI (w := Cond.methodLink RL 9 (mName mX9_init)) 18 (by decide +kernel) rfl)) (hts _ (tI (w := Cond.instanceMethod (mName mX9_init)) 19 (by decide +kernel) rfl)) rfl ⟨mwX9_init.2.2.1.1, mwX9_init.2.2.1.2, mwX9_init.2.2.2.1⟩ ⟨Nat.le_of_ble_eq_true rfl, Nat.le_of_ble_eq_true rfl⟩) ⟨fun a U g mk q => by obtain ⟨q0, q1, qP, qK, qD, qO⟩ := q; exact ⟨q0, q1, qP, va_K.moved (u := U) (U := U.calling g mk a) (Vm.Alike.refl U.vm) qK, qD, NC.same (s := U) (U := U.calling g mk a) rfl qO⟩, fun U hU hW => ⟨rfl, by rw [hU], by rw [hU]; exact hPc, va_K.moved hW.alike hK, hDc.weaken (fun _ _ _ _ => trivial), NC.warm hW hNC⟩⟩ rfl rfl hl.1 rfl (lv_room (Nat.le_of_ble_eq_true rfl)) dL_law_4 ⟨Nat.le_of_ble_eq_true rfl, Nat.le_of_ble_eq_true rfl⟩) hS (fun q _ h => hFc q h) hFc (fun u t H1 locs ht hvm _ hB hz1 hk1 hS => ?_)
  obtain ⟨hP1, hD1⟩ := hB
  rw [ht] at hP1
  obtain ⟨hP, hD⟩ := va_join (wr := []) (w1 := wX9 ca h0 u) hP hD [0] [] rfl rfl (by decide) (by decide) hk1 hFc hP1 hD1
  generalize H1 = H at hP hS ⊢
  have hP : va_P (dC, dI) vwCl (wX9 ca h0 u) H := hP
  have hD : va_D A (wX9 ca h0 u) := hD
  refine lv_astore_n (lv' := [(1, .ref h0), (0, .ref b)]) hx hb dL_law_7 rfl hl (by decide) rfl (fun ls hl => ?_)
  refine va_new (ci := 10) (fs := [.int 0, .null, .null, .null, .null, .int 0, .null, .null, .null, .null, .int 0, .null, .null, .null, .int 0, .null, .null, .int 0, .null, .null, .null, .int 0, .int 0, .int 0, .int 0, .int 0, .null, .null, .int 0, .int 0, .null, .null, .null, .null, .null, .null]) (C := RX10) (T := TX10) (N := 36) hx hb hts inX10 tyX10 tyX10_ok hown (hts _ (tI (w := Cond.classLink RL 10 RX10) 594 (by decide +kernel) rfl)) (hts _ (tI (w := Cond.instantiable RX10 36) 595 (by decide +kernel) rfl)) (hts _ (tI (w := Cond.initialized RX10) 12 (by decide +kernel) rfl)) hK hP hD hS hA rfl bl_X10 (Nat.le_of_ble_eq_true rfl) (Nat.le_of_ble_eq_true rfl) dL_law_8 (fun h1 H hP hD hS => ?_)
  have hP : va_P (dC, dI) vwCl (wX9 ca h0 u ++ [(h1, .inr (10, [.int 0, .null, .null, .null, .null, .int 0, .null, .null, .null, .null, .int 0, .null, .null, .null, .int 0, .null, .null, .int 0, .null, .null, .null, .int 0, .int 0, .int 0, .int 0, .int 0, .null, .null, .int 0, .int 0, .null, .null, .null, .null, .null, .null]))]) H := hP
  have hD : va_D A (wX9 ca h0 u ++ [(h1, .inr (10, [.int 0, .null, .null, .null, .null, .int 0, .null, .null, .null, .null, .int 0, .null, .null, .null, .int 0, .null, .null, .int 0, .null, .null, .null, .int 0, .int 0, .int 0, .int 0, .int 0, .null, .null, .int 0, .int 0, .null, .null, .null, .null, .null, .null]))]) := hD
  refine lv_dup hx hb dL_law_11 rfl ?_
  have hPc := hP.sub (ws' := [(h1, .inr (10, [.int 0, .null, .null, .null, .null, .int 0, .null, .null, .null, .null, .int 0, .null, .null, .null, .int 0, .null, .null, .int 0, .null, .null, .null, .int 0, .int 0, .int 0, .int 0, .int 0, .null, .null, .int 0, .int 0, .null, .null, .null, .null, .null, .null]))]) [75] rfl
  have hDc := hD.sub (ws' := [(h1, .inr (10, [.int 0, .null, .null, .null, .null, .int 0, .null, .null, .null, .null, .int 0, .null, .null, .null, .int 0, .null, .null, .int 0, .null, .null, .null, .int 0, .int 0, .int 0, .int 0, .int 0, .null, .null, .int 0, .int 0, .null, .null, .null, .null, .null, .null]))]) [75] (by decide) rfl
  have hFc := va_free (wc := [(h1, .inr (10, [.int 0, .null, .null, .null, .null, .int 0, .null, .null, .null, .null, .int 0, .null, .null, .null, .int 0, .null, .null, .int 0, .null, .null, .null, .int 0, .int 0, .int 0, .int 0, .int 0, .null, .null, .int 0, .int 0, .null, .null, .null, .null, .null, .null]))]) hD hS hA [75] rfl
  refine va_callv (va_runI (As := []) (rest := [.ref h1]) ⟨hx, hb, hml, hown, hts⟩ (k_X10 l dC dI ca h1 H.size) (cwI 0 hts (mWs_good mwX10_init) rfl rfl rfl (hts _ mwX10_init.1) (hts _ (tI (w := Cond.methodLink RL 12 (mName mX10_init)) 596 (by decide +kernel) rfl)) (hts _ (tI (w := Cond.instanceMethod (mName mX10_init)) 597 (by decide +kernel) rfl)) rfl ⟨mwX10_init.2.2.1.1, mwX10_init.2.2.1.2, mwX10_init.2.2.2.1⟩ ⟨Nat.le_of_ble_eq_true rfl, Nat.le_of_ble_eq_true rfl⟩) ⟨fun a U g mk q => by obtain ⟨q0, q1, qP, qK, qD, qO⟩ := q; exact ⟨q0, q1, qP, va_K.moved (u := U) (U := U.calling g mk a) (Vm.Alike.refl U.vm) qK, qD, NC.same (s := U) (U := U.calling g mk a) rfl qO⟩, fun U hU hW => ⟨rfl, by rw [hU], by rw [hU]; exact hPc, va_K.moved hW.alike hK, hDc.weaken (fun _ _ _ _ => trivial), NC.warm hW hNC⟩⟩ rfl rfl hl.1 rfl (lv_room (Nat.le_of_ble_eq_true rfl)) dL_law_12 ⟨Nat.le_of_ble_eq_true rfl, Nat.le_of_ble_eq_true rfl⟩) hS (fun q _ h => hFc q h) hFc (fun v t H1 locs ht hvm _ hB hz1 hk1 hS => ?_)
  obtain ⟨hP1, hD1⟩ := hB
  rw [ht] at hP1
  obtain ⟨hP, hD⟩ := va_join (wr := wX9 ca h0 u) (w1 := wX10 ca h1 v) hP hD [75] [0, 1, 2, 3, 4, 5, 6, 7, 8, 9, 10, 11, 12, 13, 14, 15, 16, 17, 18, 19, 20, 21, 22, 23, 24, 25, 26, 27, 28, 29, 30, 31, 32, 33, 34, 35, 36, 37, 38, 39, 40, 41, 42, 43, 44, 45, 46, 47, 48, 49, 50, 51, 52, 53, 54, 55, 56, 57, 58, 59, 60, 61, 62, 63, 64, 65, 66, 67, 68, 69, 70, 71, 72, 73, 74] rfl rfl (by decide) (by decide) hk1 hFc hP1 hD1
  generalize H1 = H at hP hS ⊢
  have hP : va_P (dC, dI) vwCl (wAll ca u v h0 h1) H := hP
  have hD : va_D A (wAll ca u v h0 h1) := hD
  refine lv_astore_n (lv' := [(2, .ref h1), (1, .ref h0), (0, .ref b)]) hx hb dL_law_15 rfl hl (by decide) rfl (fun ls hl => ?_)
  refine hAW trivial (ad := adF u v h0 h1 b) (dC := dC) (dI := dI) (ca := ca) (A := A) ⟨⟨hx, hb, hml, hown, hts⟩, hK, hA, ⟨Nat.le_of_ble_eq_true rfl, Nat.le_of_ble_eq_true rfl, Nat.le_of_ble_eq_true rfl, Nat.le_of_ble_eq_true rfl⟩, ?_, ?_, hNW⟩ ⟨net_P b hP, net_D b hD, hS⟩ ⟨hl.1, hl.2.1, ?_⟩
  · intro pc lsC v' μ ν H locs hret hP' hWd'
    have hv' := hPo _ _ _ hP'
    subst hv'
    rcases hret with ⟨hd, x, rt, hv, hrt, hn⟩ | ⟨hd, x, hv, hrt⟩ | ⟨hd, hv, hrt⟩
    · refine va_forget (fun q hq => hAd _ (hWd'.2.2.2.2 q hq)) ?_
      refine W.widen (k := 600000) (n := 7302250) (Nat.le_of_ble_eq_true rfl) (Nat.le_of_ble_eq_true rfl) ?_
      exact lw_ret hx hb hr hlocks hd
    · cases hv
    · cases hv
  · intro L' xs' h
    cases h
    exact ⟨hX, hbl, hbA⟩
  · intro i w hw
    match i, hw with
    | 0, hw => cases hw; exact lv_at hl 2 rfl
    | 1, hw => cases hw; exact lv_at hl 1 rfl
    | 2, hw => cases hw; exact lv_at hl 0 rfl
    | 3, hw => cases hw
    | k + 4, hw => simp at hw
