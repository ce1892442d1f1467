/-! ===== the constructors: cells are made ===== -/
theorem va_AOA.moved {ty : FieldType} {u U : State} (hvm : u.vm.Alike U.vm) (h : va_AOA ty u) : va_AOA ty U := by
  have e := Cond.arrayOver_setVmC (args := #[]) hvm (.array ty)
  have h2 : (Cond.arrayOver (.array ty)).before #[] (u.setVm U.vm) = true := e.trans h
  simp only [Cond.before, Cond.holds, Cond.value, State.vm_setVm] at h2
  unfold va_AOA
  simp only [Cond.before, Cond.holds, Cond.value]
  exact h2
def nestC : List (String × Nat × MethodName × String) := [("TickGarden", 11, ⟨"TickGarden$Plan", "<init>", "()V"⟩, "TickGarden"), ("TickGarden$Plan", 11, ⟨"TickGarden$Buckets", "<init>", "()V"⟩, "TickGarden"), ("TickGarden$Plan", 20, ⟨"TickGarden$Spouts", "<init>", "()V"⟩, "TickGarden"), ("TickGarden$Plan", 27, ⟨"TickGarden$Frogs", "<init>", "()V"⟩, "TickGarden"), ("TickGarden$Plan", 34, ⟨"TickGarden$Spells", "<init>", "()V"⟩, "TickGarden"), ("TickGarden", 20, ⟨"TickGarden$Twist", "<init>", "()V"⟩, "TickGarden"), ("TickGarden", 40, ⟨"TickGarden$Heard", "<init>", "()V"⟩, "TickGarden"), ("TickGarden", 47, ⟨"TickGarden$Blame", "<init>", "()V"⟩, "TickGarden")]
/-- the nest mates' constructors: their words, by that road too; and that int[][] can be made -/
def NC (U : State) : Prop := (∀ q ∈ nestC, va_Nw (.methodLinkNest q.1 q.2.1 q.2.2.1 q.2.2.2) U) ∧ va_AOA .int U
theorem NC.warm {s U : State} (hW : s.WarmedH U.vm) (h : NC s) : NC U := ⟨fun q hq => va_Nw.warmM hW (h.1 q hq), va_AOA.moved hW.alike h.2⟩
theorem NC.same {s U : State} (hv : s.vm = U.vm) (h : NC s) : NC U := ⟨fun q hq => va_Nw.same rfl hv (h.1 q hq), va_AOA.moved (hv ▸ Vm.Alike.refl s.vm) h.2⟩
theorem oi_i : Cond.instanceMethod Lib.objectInit ∈ lw_g := tI 22 (by decide +kernel) rfl
theorem oi_c : Cond.code Lib.objectInit ⟨#[0xb1]⟩ 1 none ∈ lw_g := tI 23 (by decide +kernel) rfl
theorem ac_I : Cond.arrayClass .int ∈ lw_g := tI 62 (by decide +kernel) rfl
theorem ac_Z : Cond.arrayClass .boolean ∈ lw_g := tI 185 (by decide +kernel) rfl
theorem ac_L : Cond.arrayClass .long ∈ lw_g := tI 255 (by decide +kernel) rfl
section VB
variable {p : Program} {l : Launch} {e : Env} {R : Room} {s : State} {m : MethodId} {args : Array Value} {below : List Frame} {meth : Method} {c : Code} {H : Heap} {locs : List Loc} {cells slots : Nat} {Q : State → Prop}
variable {cc : ByteArray} {pc : Nat} {ls : Array Slot} {rest : List Value} {D : va_G} {cl : List vw_C} {A : Nat → Prop} {ws : va_W} {H0 : Heap} {ca : Nat → ClassId}
theorem vb_newaI (hx : p.tables.exec = Jvm.exec) (hb : c.code = cc) (harr : (Cond.arrayClass .int).before args s = true) (hK : va_K D cl (tysOf ca) s) (hP : va_P D cl ws H) (hD : va_D A ws) (hS : va_S A H0 H locs) (hA : ∀ q, H0.size ≤ q → A q) {n : Int32} {N : Nat} (hn : ¬ n < 0) (hN : n.toNatClampNeg = N) (hbytes : N * 4 ≤ 536870912) (hcells : cells + 1 ≤ R.cells) (hslots : slots + N ≤ R.slots) (hdg : decode cc pc = .ok (.newarray .int, 2)) (kk : ∀ (q : Nat) (H1 : Heap), va_P D cl (ws ++ [(q, .inl (ca 0, N, .inl (fun _ => 0)))]) H1 → va_D A (ws ++ [(q, .inl (ca 0, N, .inl (fun _ => 0)))]) → va_S A H0 H1 locs → W p l e R s m args below meth c H1 locs (cells + 1) (slots + N) Q (F0 m (pc + 2) ls (.ref q :: rest))) : W p l e R s m args below meth c H locs cells slots Q (F0 m pc ls (.int n :: rest)) := by
  refine va_newa (atype := .int) (ty := .int) (a0 := (N, .inl (fun _ => 0))) hx hb harr rfl hK hP hD hS hA (fun _ => rfl) hn hN hbytes hcells hslots hdg (fun q cA H1 hK1 hP1 hD1 hS1 => ?_)
  have e : cA = ca 0 := by
    have h1 : va_RA s cA .int := (hK1.2 4 _ rfl).2
    have h2 : va_RA s (ca 0) .int := (hK.2 0 _ rfl).2
    unfold va_RA at h1 h2
    exact Option.some.inj (h1.symm.trans h2)
  rw [e] at hP1 hD1
  exact kk q H1 hP1 hD1 hS1
theorem vb_newaZ (hx : p.tables.exec = Jvm.exec) (hb : c.code = cc) (harr : (Cond.arrayClass .boolean).before args s = true) (hK : va_K D cl (tysOf ca) s) (hP : va_P D cl ws H) (hD : va_D A ws) (hS : va_S A H0 H locs) (hA : ∀ q, H0.size ≤ q → A q) {n : Int32} {N : Nat} (hn : ¬ n < 0) (hN : n.toNatClampNeg = N) (hbytes : N * 1 ≤ 536870912) (hcells : cells + 1 ≤ R.cells) (hslots : slots + N ≤ R.slots) (hdg : decode cc pc = .ok (.newarray .boolean, 2)) (kk : ∀ (q : Nat) (H1 : Heap), va_P D cl (ws ++ [(q, .inl (ca 1, N, .inl (fun _ => 0)))]) H1 → va_D A (ws ++ [(q, .inl (ca 1, N, .inl (fun _ => 0)))]) → va_S A H0 H1 locs → W p l e R s m args below meth c H1 locs (cells + 1) (slots + N) Q (F0 m (pc + 2) ls (.ref q :: rest))) : W p l e R s m args below meth c H locs cells slots Q (F0 m pc ls (.int n :: rest)) := by
  refine va_newa (atype := .boolean) (ty := .boolean) (a0 := (N, .inl (fun _ => 0))) hx hb harr rfl hK hP hD hS hA (fun _ => rfl) hn hN hbytes hcells hslots hdg (fun q cA H1 hK1 hP1 hD1 hS1 => ?_)
  have e : cA = ca 1 := by
    have h1 : va_RA s cA .boolean := (hK1.2 4 _ rfl).2
    have h2 : va_RA s (ca 1) .boolean := (hK.2 1 _ rfl).2
    unfold va_RA at h1 h2
    exact Option.some.inj (h1.symm.trans h2)
  rw [e] at hP1 hD1
  exact kk q H1 hP1 hD1 hS1
theorem vb_newaL (hx : p.tables.exec = Jvm.exec) (hb : c.code = cc) (harr : (Cond.arrayClass .long).before args s = true) (hK : va_K D cl (tysOf ca) s) (hP : va_P D cl ws H) (hD : va_D A ws) (hS : va_S A H0 H locs) (hA : ∀ q, H0.size ≤ q → A q) {n : Int32} {N : Nat} (hn : ¬ n < 0) (hN : n.toNatClampNeg = N) (hbytes : N * 8 ≤ 536870912) (hcells : cells + 1 ≤ R.cells) (hslots : slots + N ≤ R.slots) (hdg : decode cc pc = .ok (.newarray .long, 2)) (kk : ∀ (q : Nat) (H1 : Heap), va_P D cl (ws ++ [(q, .inl (ca 2, N, .inr (.inl (fun _ => 0))))]) H1 → va_D A (ws ++ [(q, .inl (ca 2, N, .inr (.inl (fun _ => 0))))]) → va_S A H0 H1 locs → W p l e R s m args below meth c H1 locs (cells + 1) (slots + N) Q (F0 m (pc + 2) ls (.ref q :: rest))) : W p l e R s m args below meth c H locs cells slots Q (F0 m pc ls (.int n :: rest)) := by
  refine va_newa (atype := .long) (ty := .long) (a0 := (N, .inr (.inl (fun _ => 0)))) hx hb harr rfl hK hP hD hS hA (fun _ => rfl) hn hN hbytes hcells hslots hdg (fun q cA H1 hK1 hP1 hD1 hS1 => ?_)
  have e : cA = ca 2 := by
    have h1 : va_RA s cA .long := (hK1.2 4 _ rfl).2
    have h2 : va_RA s (ca 2) .long := (hK.2 2 _ rfl).2
    unfold va_RA at h1 h2
    exact Option.some.inj (h1.symm.trans h2)
  rw [e] at hP1 hD1
  exact kk q H1 hP1 hD1 hS1
end VB
theorem pl_up (l : List Nat) (f : Nat → va_E) (e : va_E) : va_pl l (vr_up f l e) = l.map (fun a => (a, e)) := List.map_congr_left (fun a ha => by rw [vr_up_in ha])
/-- eight rows -/
def RW8 (r : Nat → Nat) : Nat → Option Nat := fun i => if i < 8 then some (r i) else none
theorem RW8_c {r r' : Nat → Nat} (h : ∀ i, i < 8 → r i = r' i) : RW8 r = RW8 r' := by
  funext i
  unfold RW8
  by_cases q : i < 8
  · rw [if_pos q, if_pos q, h i q]
  · rw [if_neg q, if_neg q]
def M1 (n : Nat) : Nat → Int32 := fun j => if j < n then -1 else 0
set_option maxHeartbeats 4000000 in
set_option maxRecDepth 100000 in
theorem k_fill (l : Launch) (dC : Nat → ClassId) (dI : Nat → Nat → Nat) (ca : Nat → ClassId) (h0 sz N : Nat) (x : Int32) (f : Nat → Int32) (hN31 : N < 2 ^ 31) : Met l (mName mJ7_fill_53178) (mWs mJ7_fill_53178) ({ frames := 0, cells := 0, slots := 0, locals := 0 } : Room) (va_Pc [.ref h0, .int x] (fun U => U.heap.size = sz ∧ va_P (dC, dI) vwCl [(h0, .inl (ca 0, N, .inl f))] U.heap ∧ va_K (dC, dI) vwCl (tysOf ca) U ∧ va_D (fun _ => True) [(h0, .inl (ca 0, N, .inl f))] ∧ NC U)) (va_Qv (fun (_ : Unit) => True) (fun _ t => va_P (dC, dI) vwCl [(h0, .inl (ca 0, N, .inl (fun j => if j < N then x else f j)))] t.heap ∧ va_D (va_A [(h0, .inl (ca 0, N, .inl f))] sz) [(h0, .inl (ca 0, N, .inl (fun j => if j < N then x else f j)))]) (va_A [(h0, .inl (ca 0, N, .inl f))] sz)) 0 0 (va_A [(h0, .inl (ca 0, N, .inl f))] sz) := by
  refine Met.ofW (cc := mCode mJ7_fill_53178) (maxL := 4) (ret := none) (by decide) rfl ?_
  intro p e s m args below meth c s₁ B hml hv
  obtain ⟨rfl, hsz, hP, hK, hD0, hNC⟩ := hv
  have hx := B.exec
  have hb := B.bytes
  have hr := B.returns
  have hts0 := atoms_spec (ws := mWs mJ7_fill_53178) B.pre
  have hlocks := B.notSynchronized
  subst hsz
  have hD := hD0.self (sz := s.heap.size)
  generalize hAe : va_A [(h0, .inl (ca 0, N, .inl f))] s.heap.size = A at hD ⊢
  have hA : ∀ q : Nat, s.heap.size ≤ q → A q := fun q h => by rw [← hAe]; exact Or.inr h
  have hS : va_S A s.heap s.heap [] := va_S.rf
  have hl := lv_entry ([.ref h0, .int x]) (n := 4) (Nat.le_of_ble_eq_true rfl)
  rw [lg_entry_eq]
  generalize (lg_sl ([.ref h0, .int x]) ++ List.replicate (4 - (lg_sl ([.ref h0, .int x])).length) Slot.unset).toArray = ls at hl ⊢
  have hl : lv_has ls 4 [(0, .ref h0), (1, .int x)] := hl
  refine lv_iconst (v := 0) hx hb dJ7_fill_53178_0 (by decide) ?_
  refine lv_istore_n (lv' := [(2, .int 0), (0, .ref h0), (1, .int x)]) hx hb dJ7_fill_53178_1 rfl hl (by decide) rfl (fun ls hl => ?_)
  refine lv_aload_n hx hb dJ7_fill_53178_2 rfl (lv_at hl 1 rfl) ?_
  refine va_alen (D := (dC, dI)) hx hb hK hP 0 0 rfl (ty := .int) rfl rfl dJ7_fill_53178_3 ?_
  refine lv_istore_n (lv' := [(3, .int (nI N)), (2, .int 0), (0, .ref h0), (1, .int x)]) hx hb dJ7_fill_53178_4 rfl hl (by decide) rfl (fun ls hl => ?_)
  have loop : ∀ (n i : Nat) (H : Heap) (locs : List Loc) (ls : Array Slot), N - i < n → i ≤ N → va_P (dC, dI) vwCl [(h0, .inl (ca 0, N, .inl (fun j => if j < i then x else f j)))] H → va_D A [(h0, .inl (ca 0, N, .inl (fun j => if j < i then x else f j)))] → va_S A s.heap H locs → lv_has ls 4 [(2, .int (nI i)), (3, .int (nI N)), (0, .ref h0), (1, .int x)] → W p l e (headSpec (mWs mJ7_fill_53178) ({ frames := 0, cells := 0, slots := 0, locals := 0 } : Room)).room s m ([.ref h0, .int x] : List Value).toArray below meth c H locs 0 0 (MQ below (va_Qv (fun (_ : Unit) => True) (fun _ t => va_P (dC, dI) vwCl [(h0, .inl (ca 0, N, .inl (fun j => if j < N then x else f j)))] t.heap ∧ va_D A [(h0, .inl (ca 0, N, .inl (fun j => if j < N then x else f j)))]) A) ([.ref h0, .int x] : List Value).toArray s 0 0 A) (F0 m 5 ls []) := by
    intro n
    induction n with
    | zero => intro i H locs ls h; omega
    | succ n ih =>
      intro i H locs ls hn hi hP hD hS hl
      refine lv_iload_n hx hb dJ7_fill_53178_5 rfl (lv_at hl 0 rfl) ?_
      refine lv_iload_n hx hb dJ7_fill_53178_6 rfl (lv_at hl 1 rfl) ?_
      refine lv_icmp_ge (tgt := 20) hx hb dJ7_fill_53178_7 (by decide) (fun b7 => ?_) (fun b7 => ?_)
      · have hiN : i = N := by
          have := (nI_leI (by omega) (by omega)).mp b7
          omega
        subst hiN
        exact W.vret hx hb (by rw [hr]) (fun t ht hW => ⟨⟨(), rfl, trivial, by rw [ht]; exact hP, hD⟩, hS.F ht⟩) hS.2.2 dJ7_fill_53178_20
      · have hiN : i < N := by
          rcases Nat.lt_or_ge i N with q | q
          · exact q
          · exact absurd ((nI_leI (by omega) (by omega)).mpr q) b7
        refine lv_aload_n hx hb dJ7_fill_53178_10 rfl (lv_at hl 2 rfl) ?_
        refine lv_iload_n hx hb dJ7_fill_53178_11 rfl (lv_at hl 0 rfl) ?_
        refine lv_iload_n hx hb dJ7_fill_53178_12 rfl (lv_at hl 3 rfl) ?_
        refine va_iast (D := (dC, dI)) hx hb hK hP hD hS 0 0 rfl rfl (vp_in_nI hiN (by omega)) dJ7_fill_53178_13 (fun H1 locs1 hP1 hD1 hS1 => ?_)
        have ef : upd (fun j => if j < i then x else f j) (nI i).toNatClampNeg x = (fun j => if j < i + 1 then x else f j) := by
          rw [nI_clamp (by omega)]
          funext j
          by_cases q : j = i
          · subst q
            rw [pk_us, if_pos (Nat.lt_succ_self j)]
          · rw [pk_un q]
            by_cases q2 : j < i
            · rw [if_pos q2, if_pos (by omega)]
            · rw [if_neg q2, if_neg (by omega)]
        rw [ef] at hP1 hD1
        refine lv_iinc (lv' := [(2, .int (nI (i + 1))), (3, .int (nI N)), (0, .ref h0), (1, .int x)]) (v := nI (i + 1)) (k := 0) hx hb dJ7_fill_53178_14 hl rfl (by rw [show Int32.ofInt 1 = (1 : Int32) by decide +kernel]; exact nI_1 i) (by decide) rfl (fun ls hl => ?_)
        refine lv_goto (tgt := 5) hx hb dJ7_fill_53178_17 (by decide) ?_
        exact ih (i + 1) H1 locs1 ls (by omega) (by omega) hP1 hD1 hS1 hl
  have e0 : f = (fun j => if j < 0 then x else f j) := by
    funext j
    rw [if_neg (by omega)]
  subst hAe
  rw [show [(h0, (Sum.inl (ca 0, N, Sum.inl f) : va_E))] = [(h0, .inl (ca 0, N, .inl (fun j => if j < 0 then x else f j)))] by rw [← e0]] at hP
  refine loop (N + 1) 0 s.heap [] ls (by omega) (by omega) hP ?_ va_S.rf ?_
  · rw [← e0]
    exact hD
  · exact lv_sub hl [1, 0, 2, 3] rfl
theorem bl_X0 : ∀ j, j < 3 → defaultValue (tyX0 j) = vp_V [.int 0, .int 0, .int 0] j := fun j hj => by
  rcases (show j = 0 ∨ j = 1 ∨ j = 2 by omega) with rfl | rfl | rfl <;> rfl
theorem bl_X1 : ∀ j, j < 5 → defaultValue (tyX1 j) = vp_V [.int 0, .null, .null, .null, .null] j := fun j hj => by
  rcases (show j = 0 ∨ j = 1 ∨ j = 2 ∨ j = 3 ∨ j = 4 by omega) with rfl | rfl | rfl | rfl | rfl <;> rfl
theorem bl_X2 : ∀ j, j < 11 → defaultValue (tyX2 j) = vp_V [.null, .null, .int 0, .int 0, .int 0, .int 0, .null, .null, .null, .null, .null] j := fun j hj => by
  rcases (show j = 0 ∨ j = 1 ∨ j = 2 ∨ j = 3 ∨ j = 4 ∨ j = 5 ∨ j = 6 ∨ j = 7 ∨ j = 8 ∨ j = 9 ∨ j = 10 by omega) with rfl | rfl | rfl | rfl | rfl | rfl | rfl | rfl | rfl | rfl | rfl <;> rfl
theorem bl_X3 : ∀ j, j < 4 → defaultValue (tyX3 j) = vp_V [.int 0, .null, .null, .null] j := fun j hj => by
  rcases (show j = 0 ∨ j = 1 ∨ j = 2 ∨ j = 3 by omega) with rfl | rfl | rfl | rfl <;> rfl
theorem bl_X4 : ∀ j, j < 3 → defaultValue (tyX4 j) = vp_V [.int 0, .null, .null] j := fun j hj => by
  rcases (show j = 0 ∨ j = 1 ∨ j = 2 by omega) with rfl | rfl | rfl <;> rfl
theorem bl_X5 : ∀ j, j < 5 → defaultValue (tyX5 j) = vp_V [.null, .null, .null, .null, .int 0] j := fun j hj => by
  rcases (show j = 0 ∨ j = 1 ∨ j = 2 ∨ j = 3 ∨ j = 4 by omega) with rfl | rfl | rfl | rfl | rfl <;> rfl
theorem bl_X6 : ∀ j, j < 3 → defaultValue (tyX6 j) = vp_V [.int 0, .null, .null] j := fun j hj => by
  rcases (show j = 0 ∨ j = 1 ∨ j = 2 by omega) with rfl | rfl | rfl <;> rfl
theorem bl_X7 : ∀ j, j < 5 → defaultValue (tyX7 j) = vp_V [.int 0, .null, .null, .null, .null] j := fun j hj => by
  rcases (show j = 0 ∨ j = 1 ∨ j = 2 ∨ j = 3 ∨ j = 4 by omega) with rfl | rfl | rfl | rfl | rfl <;> rfl
theorem bl_X8 : ∀ j, j < 5 → defaultValue (tyX8 j) = vp_V [.int 0, .null, .null, .null, .null] j := fun j hj => by
  rcases (show j = 0 ∨ j = 1 ∨ j = 2 ∨ j = 3 ∨ j = 4 by omega) with rfl | rfl | rfl | rfl | rfl <;> rfl
theorem bl_X9 : ∀ j, j < 7 → defaultValue (tyX9 j) = vp_V [.null, .null, .null, .null, .null, .null, .null] j := fun j hj => by
  rcases (show j = 0 ∨ j = 1 ∨ j = 2 ∨ j = 3 ∨ j = 4 ∨ j = 5 ∨ j = 6 by omega) with rfl | rfl | rfl | rfl | rfl | rfl | rfl <;> rfl
theorem bl_X10 : ∀ j, j < 36 → defaultValue (tyX10 j) = vp_V [.int 0, .null, .null, .null, .null, .int 0, .null, .null, .null, .null, .int 0, .null, .null, .null, .int 0, .null, .null, .int 0, .null, .null, .null, .int 0, .int 0, .int 0, .int 0, .int 0, .null, .null, .int 0, .int 0, .null, .null, .null, .null, .null, .null] j := fun j hj => by
  rcases (show j = 0 ∨ j = 1 ∨ j = 2 ∨ j = 3 ∨ j = 4 ∨ j = 5 ∨ j = 6 ∨ j = 7 ∨ j = 8 ∨ j = 9 ∨ j = 10 ∨ j = 11 ∨ j = 12 ∨ j = 13 ∨ j = 14 ∨ j = 15 ∨ j = 16 ∨ j = 17 ∨ j = 18 ∨ j = 19 ∨ j = 20 ∨ j = 21 ∨ j = 22 ∨ j = 23 ∨ j = 24 ∨ j = 25 ∨ j = 26 ∨ j = 27 ∨ j = 28 ∨ j = 29 ∨ j = 30 ∨ j = 31 ∨ j = 32 ∨ j = 33 ∨ j = 34 ∨ j = 35 by omega) with rfl | rfl | rfl | rfl | rfl | rfl | rfl | rfl | rfl | rfl | rfl | rfl | rfl | rfl | rfl | rfl | rfl | rfl | rfl | rfl | rfl | rfl | rfl | rfl | rfl | rfl | rfl | rfl | rfl | rfl | rfl | rfl | rfl | rfl | rfl | rfl <;> rfl
theorem mna_l : Cond.classLink RX2 24 ("[" ++ (FieldType.array .int).toString) ∈ lw_g := tI 190 (by decide +kernel) rfl
abbrev wX0 (ca : Nat → ClassId) (h0 : Nat) (qs : Nat → Nat) : va_W := [(h0, .inr (0, [.int 0, .int 0, .int 0]))]
set_option maxHeartbeats 8000000 in
set_option maxRecDepth 100000 in
theorem k_X0 (l : Launch) (dC : Nat → ClassId) (dI : Nat → Nat → Nat) (ca : Nat → ClassId) (h0 sz : Nat) : Met l (mName mX0_init) (mWs mX0_init) ({ frames := 1, cells := 0, slots := 0, locals := 36 } : Room) (va_Pc [.ref h0] (fun U => U.heap.size = sz ∧ va_P (dC, dI) vwCl [(h0, .inr (0, [.int 0, .int 0, .int 0]))] U.heap ∧ va_K (dC, dI) vwCl (tysOf ca) U ∧ va_D (fun _ => True) [(h0, .inr (0, [.int 0, .int 0, .int 0]))] ∧ NC U)) (va_Qv (fun (_ : Nat → Nat) => True) (fun (qs : Nat → Nat) t => va_P (dC, dI) vwCl (wX0 ca h0 qs) t.heap ∧ va_D (va_A [(h0, .inr (0, [.int 0, .int 0, .int 0]))] sz) (wX0 ca h0 qs)) (va_A [(h0, .inr (0, [.int 0, .int 0, .int 0]))] sz)) 0 0 (va_A [(h0, .inr (0, [.int 0, .int 0, .int 0]))] sz) := by
  refine Met.ofW (cc := mCode mX0_init) (maxL := 1) (ret := none) (by decide) rfl ?_
  intro p e s m args below meth c s₁ B hml hv
  obtain ⟨rfl, hsz, hP, hK, hD0, hNC⟩ := hv
  have hx := B.exec
  have hb := B.bytes
  have hr := B.returns
  have hts0 := atoms_spec (ws := mWs mX0_init) B.pre
  have hts : ∀ w ∈ lw_g, w.before ([.ref h0] : List Value).toArray s = true := fun w hw => hts0 w (List.mem_cons_of_mem _ hw)
  have hown : s.vm.findClass RX0 = some m.cls := findClass_of_methodNamed B.named
  have hlocks := B.notSynchronized
  have hin : meth.name = "<init>" := (name_of_methodNamed B.named B.method).1
  subst hsz
  have hD := hD0.self (sz := s.heap.size)
  generalize hAe : va_A [(h0, .inr (0, [.int 0, .int 0, .int 0]))] s.heap.size = A at hD ⊢
  have hA : ∀ q : Nat, s.heap.size ≤ q → A q := fun q h => by rw [← hAe]; exact Or.inr h
  have hS : va_S A s.heap s.heap [] := va_S.rf
  have hl := lv_entry ([.ref h0]) (n := 1) (Nat.le_of_ble_eq_true rfl)
  rw [lg_entry_eq]
  generalize (lg_sl ([.ref h0]) ++ List.replicate (1 - (lg_sl ([.ref h0])).length) Slot.unset).toArray = ls at hl ⊢
  have hl : lv_has ls 1 [(0, .ref h0)] := hl
  refine lv_aload_n hx hb dX0_init_0 rfl (lv_at hl 0 rfl) ?_
  refine W.objInit hx hb hown (hts _ (tI (w := Cond.methodLink RX0 3 Lib.objectInit) 261 (by decide +kernel) rfl)) (hts _ oi_i) (hts _ oi_c) rfl (by rw [hml]; exact hl.1) rfl dX0_init_1 (Nat.le_of_ble_eq_true rfl) (Nat.le_of_ble_eq_true rfl) ?_
  refine W.eq (g2 := F0 m 4 ls []) rfl ?_
  exact W.vret hx hb (by rw [hr]) (fun t ht hW => ⟨⟨(fun i => [].getD i 0), rfl, trivial, by rw [ht]; exact hP, hD⟩, hS.F ht⟩) hS.2.2 dX0_init_4
abbrev wX1 (ca : Nat → ClassId) (h0 : Nat) (qs : Nat → Nat) : va_W := [(h0, .inr (1, [.int 0, .ref (qs 0), .ref (qs 1), .ref (qs 2), .ref (qs 3)])), ((qs 0), .inl (ca 0, 8, .inl (fun _ => 0))), ((qs 1), .inl (ca 0, 8, .inl (fun _ => 0))), ((qs 2), .inl (ca 0, 8, .inl (fun _ => 0))), ((qs 3), .inl (ca 0, 8, .inl (fun _ => 0)))]
set_option maxHeartbeats 8000000 in
set_option maxRecDepth 100000 in
theorem k_X1 (l : Launch) (dC : Nat → ClassId) (dI : Nat → Nat → Nat) (ca : Nat → ClassId) (h0 sz : Nat) : Met l (mName mX1_init) (mWs mX1_init) ({ frames := 1, cells := 4, slots := 32, locals := 36 } : Room) (va_Pc [.ref h0] (fun U => U.heap.size = sz ∧ va_P (dC, dI) vwCl [(h0, .inr (1, [.int 0, .null, .null, .null, .null]))] U.heap ∧ va_K (dC, dI) vwCl (tysOf ca) U ∧ va_D (fun _ => True) [(h0, .inr (1, [.int 0, .null, .null, .null, .null]))] ∧ NC U)) (va_Qv (fun (_ : Nat → Nat) => True) (fun (qs : Nat → Nat) t => va_P (dC, dI) vwCl (wX1 ca h0 qs) t.heap ∧ va_D (va_A [(h0, .inr (1, [.int 0, .null, .null, .null, .null]))] sz) (wX1 ca h0 qs)) (va_A [(h0, .inr (1, [.int 0, .null, .null, .null, .null]))] sz)) 4 32 (va_A [(h0, .inr (1, [.int 0, .null, .null, .null, .null]))] sz) := by
  refine Met.ofW (cc := mCode mX1_init) (maxL := 1) (ret := none) (by decide) rfl ?_
  intro p e s m args below meth c s₁ B hml hv
  obtain ⟨rfl, hsz, hP, hK, hD0, hNC⟩ := hv
  have hx := B.exec
  have hb := B.bytes
  have hr := B.returns
  have hts0 := atoms_spec (ws := mWs mX1_init) B.pre
  have hts : ∀ w ∈ lw_g, w.before ([.ref h0] : List Value).toArray s = true := fun w hw => hts0 w (List.mem_cons_of_mem _ hw)
  have hown : s.vm.findClass RX1 = some m.cls := findClass_of_methodNamed B.named
  have hlocks := B.notSynchronized
  have hin : meth.name = "<init>" := (name_of_methodNamed B.named B.method).1
  subst hsz
  have hD := hD0.self (sz := s.heap.size)
  generalize hAe : va_A [(h0, .inr (1, [.int 0, .null, .null, .null, .null]))] s.heap.size = A at hD ⊢
  have hA : ∀ q : Nat, s.heap.size ≤ q → A q := fun q h => by rw [← hAe]; exact Or.inr h
  have hS : va_S A s.heap s.heap [] := va_S.rf
  have hl := lv_entry ([.ref h0]) (n := 1) (Nat.le_of_ble_eq_true rfl)
  rw [lg_entry_eq]
  generalize (lg_sl ([.ref h0]) ++ List.replicate (1 - (lg_sl ([.ref h0])).length) Slot.unset).toArray = ls at hl ⊢
  have hl : lv_has ls 1 [(0, .ref h0)] := hl
  refine lv_aload_n hx hb dX1_init_0 rfl (lv_at hl 0 rfl) ?_
  refine W.objInit hx hb hown (hts _ (tI (w := Cond.methodLink RX1 3 Lib.objectInit) 35 (by decide +kernel) rfl)) (hts _ oi_i) (hts _ oi_c) rfl (by rw [hml]; exact hl.1) rfl dX1_init_1 (Nat.le_of_ble_eq_true rfl) (Nat.le_of_ble_eq_true rfl) ?_
  refine W.eq (g2 := F0 m 4 ls []) rfl ?_
  refine lv_aload_n hx hb dX1_init_4 rfl (lv_at hl 0 rfl) ?_
  refine lv_bipush (v := nI 8) hx hb dX1_init_5 (by decide +kernel) ?_
  refine vb_newaI (N := 8) hx hb (hts _ ac_I) hK hP hD hS hA (by decide +kernel) (by decide +kernel) (Nat.le_of_ble_eq_true rfl) (Nat.le_of_ble_eq_true rfl) (Nat.le_of_ble_eq_true rfl) dX1_init_7 (fun q7 H hP hD hS => ?_)
  have hP : va_P (dC, dI) vwCl [(h0, .inr (1, [.int 0, .null, .null, .null, .null])), (q7, .inl (ca 0, 8, .inl (fun _ => 0)))] H := hP
  have hD : va_D A [(h0, .inr (1, [.int 0, .null, .null, .null, .null])), (q7, .inl (ca 0, 8, .inl (fun _ => 0)))] := hD
  refine va_putF (D := (dC, dI)) (ci := 1) (v := .ref q7) (ty := .array .int) (C := RX1) (T := TX1) (N := 5) hx hb hts inX1 tyX1 tyX1_ok nmX1 hown hK hP hD hS 0 rfl rfl 1 (by decide) (hts _ (tI (w := Cond.fieldLink RX1 9 RX1 "size" "[I") 39 (by decide +kernel) rfl)) (fun _ h9 => h9) rfl hin rfl (by decide +kernel) rfl rfl (Nat.le_of_ble_eq_true rfl) dX1_init_9 (fun H locs hP hD hS => ?_)
  have hP : va_P (dC, dI) vwCl [(h0, .inr (1, [.int 0, .ref q7, .null, .null, .null])), (q7, .inl (ca 0, 8, .inl (fun _ => 0)))] H := hP
  have hD : va_D A [(h0, .inr (1, [.int 0, .ref q7, .null, .null, .null])), (q7, .inl (ca 0, 8, .inl (fun _ => 0)))] := hD
  refine lv_aload_n hx hb dX1_init_12 rfl (lv_at hl 0 rfl) ?_
  refine lv_bipush (v := nI 8) hx hb dX1_init_13 (by decide +kernel) ?_
  refine vb_newaI (N := 8) hx hb (hts _ ac_I) hK hP hD hS hA (by decide +kernel) (by decide +kernel) (Nat.le_of_ble_eq_true rfl) (Nat.le_of_ble_eq_true rfl) (Nat.le_of_ble_eq_true rfl) dX1_init_15 (fun q15 H hP hD hS => ?_)
  have hP : va_P (dC, dI) vwCl [(h0, .inr (1, [.int 0, .ref q7, .null, .null, .null])), (q7, .inl (ca 0, 8, .inl (fun _ => 0))), (q15, .inl (ca 0, 8, .inl (fun _ => 0)))] H := hP
  have hD : va_D A [(h0, .inr (1, [.int 0, .ref q7, .null, .null, .null])), (q7, .inl (ca 0, 8, .inl (fun _ => 0))), (q15, .inl (ca 0, 8, .inl (fun _ => 0)))] := hD
  refine va_putF (D := (dC, dI)) (ci := 1) (v := .ref q15) (ty := .array .int) (C := RX1) (T := TX1) (N := 5) hx hb hts inX1 tyX1 tyX1_ok nmX1 hown hK hP hD hS 0 rfl rfl 2 (by decide) (hts _ (tI (w := Cond.fieldLink RX1 15 RX1 "rest" "[I") 42 (by decide +kernel) rfl)) (fun _ h9 => h9) rfl hin rfl (by decide +kernel) rfl rfl (Nat.le_of_ble_eq_true rfl) dX1_init_17 (fun H locs hP hD hS => ?_)
  have hP : va_P (dC, dI) vwCl [(h0, .inr (1, [.int 0, .ref q7, .ref q15, .null, .null])), (q7, .inl (ca 0, 8, .inl (fun _ => 0))), (q15, .inl (ca 0, 8, .inl (fun _ => 0)))] H := hP
  have hD : va_D A [(h0, .inr (1, [.int 0, .ref q7, .ref q15, .null, .null])), (q7, .inl (ca 0, 8, .inl (fun _ => 0))), (q15, .inl (ca 0, 8, .inl (fun _ => 0)))] := hD
  refine lv_aload_n hx hb dX1_init_20 rfl (lv_at hl 0 rfl) ?_
  refine lv_bipush (v := nI 8) hx hb dX1_init_21 (by decide +kernel) ?_
  refine vb_newaI (N := 8) hx hb (hts _ ac_I) hK hP hD hS hA (by decide +kernel) (by decide +kernel) (Nat.le_of_ble_eq_true rfl) (Nat.le_of_ble_eq_true rfl) (Nat.le_of_ble_eq_true rfl) dX1_init_23 (fun q23 H hP hD hS => ?_)
  have hP : va_P (dC, dI) vwCl [(h0, .inr (1, [.int 0, .ref q7, .ref q15, .null, .null])), (q7, .inl (ca 0, 8, .inl (fun _ => 0))), (q15, .inl (ca 0, 8, .inl (fun _ => 0))), (q23, .inl (ca 0, 8, .inl (fun _ => 0)))] H := hP
  have hD : va_D A [(h0, .inr (1, [.int 0, .ref q7, .ref q15, .null, .null])), (q7, .inl (ca 0, 8, .inl (fun _ => 0))), (q15, .inl (ca 0, 8, .inl (fun _ => 0))), (q23, .inl (ca 0, 8, .inl (fun _ => 0)))] := hD
  refine va_putF (D := (dC, dI)) (ci := 1) (v := .ref q23) (ty := .array .int) (C := RX1) (T := TX1) (N := 5) hx hb hts inX1 tyX1 tyX1_ok nmX1 hown hK hP hD hS 0 rfl rfl 3 (by decide) (hts _ (tI (w := Cond.fieldLink RX1 18 RX1 "leads" "[I") 45 (by decide +kernel) rfl)) (fun _ h9 => h9) rfl hin rfl (by decide +kernel) rfl rfl (Nat.le_of_ble_eq_true rfl) dX1_init_25 (fun H locs hP hD hS => ?_)
  have hP : va_P (dC, dI) vwCl [(h0, .inr (1, [.int 0, .ref q7, .ref q15, .ref q23, .null])), (q7, .inl (ca 0, 8, .inl (fun _ => 0))), (q15, .inl (ca 0, 8, .inl (fun _ => 0))), (q23, .inl (ca 0, 8, .inl (fun _ => 0)))] H := hP
  have hD : va_D A [(h0, .inr (1, [.int 0, .ref q7, .ref q15, .ref q23, .null])), (q7, .inl (ca 0, 8, .inl (fun _ => 0))), (q15, .inl (ca 0, 8, .inl (fun _ => 0))), (q23, .inl (ca 0, 8, .inl (fun _ => 0)))] := hD
  refine lv_aload_n hx hb dX1_init_28 rfl (lv_at hl 0 rfl) ?_
  refine lv_bipush (v := nI 8) hx hb dX1_init_29 (by decide +kernel) ?_
  refine vb_newaI (N := 8) hx hb (hts _ ac_I) hK hP hD hS hA (by decide +kernel) (by decide +kernel) (Nat.le_of_ble_eq_true rfl) (Nat.le_of_ble_eq_true rfl) (Nat.le_of_ble_eq_true rfl) dX1_init_31 (fun q31 H hP hD hS => ?_)
  have hP : va_P (dC, dI) vwCl [(h0, .inr (1, [.int 0, .ref q7, .ref q15, .ref q23, .null])), (q7, .inl (ca 0, 8, .inl (fun _ => 0))), (q15, .inl (ca 0, 8, .inl (fun _ => 0))), (q23, .inl (ca 0, 8, .inl (fun _ => 0))), (q31, .inl (ca 0, 8, .inl (fun _ => 0)))] H := hP
  have hD : va_D A [(h0, .inr (1, [.int 0, .ref q7, .ref q15, .ref q23, .null])), (q7, .inl (ca 0, 8, .inl (fun _ => 0))), (q15, .inl (ca 0, 8, .inl (fun _ => 0))), (q23, .inl (ca 0, 8, .inl (fun _ => 0))), (q31, .inl (ca 0, 8, .inl (fun _ => 0)))] := hD
  refine va_putF (D := (dC, dI)) (ci := 1) (v := .ref q31) (ty := .array .int) (C := RX1) (T := TX1) (N := 5) hx hb hts inX1 tyX1 tyX1_ok nmX1 hown hK hP hD hS 0 rfl rfl 4 (by decide) (hts _ (tI (w := Cond.fieldLink RX1 21 RX1 "delay" "[I") 48 (by decide +kernel) rfl)) (fun _ h9 => h9) rfl hin rfl (by decide +kernel) rfl rfl (Nat.le_of_ble_eq_true rfl) dX1_init_33 (fun H locs hP hD hS => ?_)
  have hP : va_P (dC, dI) vwCl [(h0, .inr (1, [.int 0, .ref q7, .ref q15, .ref q23, .ref q31])), (q7, .inl (ca 0, 8, .inl (fun _ => 0))), (q15, .inl (ca 0, 8, .inl (fun _ => 0))), (q23, .inl (ca 0, 8, .inl (fun _ => 0))), (q31, .inl (ca 0, 8, .inl (fun _ => 0)))] H := hP
  have hD : va_D A [(h0, .inr (1, [.int 0, .ref q7, .ref q15, .ref q23, .ref q31])), (q7, .inl (ca 0, 8, .inl (fun _ => 0))), (q15, .inl (ca 0, 8, .inl (fun _ => 0))), (q23, .inl (ca 0, 8, .inl (fun _ => 0))), (q31, .inl (ca 0, 8, .inl (fun _ => 0)))] := hD
  exact W.vret hx hb (by rw [hr]) (fun t ht hW => ⟨⟨(fun i => [q7, q15, q23, q31].getD i 0), rfl, trivial, by rw [ht]; exact hP, hD⟩, hS.F ht⟩) hS.2.2 dX1_init_36
abbrev wX3 (ca : Nat → ClassId) (h0 : Nat) (qs : Nat → Nat) : va_W := [(h0, .inr (3, [.int 0, .ref (qs 0), .ref (qs 1), .ref (qs 2)])), ((qs 0), .inl (ca 0, 10, .inl (fun _ => 0))), ((qs 1), .inl (ca 0, 10, .inl (fun _ => 0))), ((qs 2), .inl (ca 0, 10, .inl (fun _ => 0)))]
set_option maxHeartbeats 8000000 in
set_option maxRecDepth 100000 in
theorem k_X3 (l : Launch) (dC : Nat → ClassId) (dI : Nat → Nat → Nat) (ca : Nat → ClassId) (h0 sz : Nat) : Met l (mName mX3_init) (mWs mX3_init) ({ frames := 1, cells := 3, slots := 30, locals := 36 } : Room) (va_Pc [.ref h0] (fun U => U.heap.size = sz ∧ va_P (dC, dI) vwCl [(h0, .inr (3, [.int 0, .null, .null, .null]))] U.heap ∧ va_K (dC, dI) vwCl (tysOf ca) U ∧ va_D (fun _ => True) [(h0, .inr (3, [.int 0, .null, .null, .null]))] ∧ NC U)) (va_Qv (fun (_ : Nat → Nat) => True) (fun (qs : Nat → Nat) t => va_P (dC, dI) vwCl (wX3 ca h0 qs) t.heap ∧ va_D (va_A [(h0, .inr (3, [.int 0, .null, .null, .null]))] sz) (wX3 ca h0 qs)) (va_A [(h0, .inr (3, [.int 0, .null, .null, .null]))] sz)) 3 30 (va_A [(h0, .inr (3, [.int 0, .null, .null, .null]))] sz) := by
  refine Met.ofW (cc := mCode mX3_init) (maxL := 1) (ret := none) (by decide) rfl ?_
  intro p e s m args below meth c s₁ B hml hv
  obtain ⟨rfl, hsz, hP, hK, hD0, hNC⟩ := hv
  have hx := B.exec
  have hb := B.bytes
  have hr := B.returns
  have hts0 := atoms_spec (ws := mWs mX3_init) B.pre
  have hts : ∀ w ∈ lw_g, w.before ([.ref h0] : List Value).toArray s = true := fun w hw => hts0 w (List.mem_cons_of_mem _ hw)
  have hown : s.vm.findClass RX3 = some m.cls := findClass_of_methodNamed B.named
  have hlocks := B.notSynchronized
  have hin : meth.name = "<init>" := (name_of_methodNamed B.named B.method).1
  subst hsz
  have hD := hD0.self (sz := s.heap.size)
  generalize hAe : va_A [(h0, .inr (3, [.int 0, .null, .null, .null]))] s.heap.size = A at hD ⊢
  have hA : ∀ q : Nat, s.heap.size ≤ q → A q := fun q h => by rw [← hAe]; exact Or.inr h
  have hS : va_S A s.heap s.heap [] := va_S.rf
  have hl := lv_entry ([.ref h0]) (n := 1) (Nat.le_of_ble_eq_true rfl)
  rw [lg_entry_eq]
  generalize (lg_sl ([.ref h0]) ++ List.replicate (1 - (lg_sl ([.ref h0])).length) Slot.unset).toArray = ls at hl ⊢
  have hl : lv_has ls 1 [(0, .ref h0)] := hl
  refine lv_aload_n hx hb dX3_init_0 rfl (lv_at hl 0 rfl) ?_
  refine W.objInit hx hb hown (hts _ (tI (w := Cond.methodLink RX3 3 Lib.objectInit) 97 (by decide +kernel) rfl)) (hts _ oi_i) (hts _ oi_c) rfl (by rw [hml]; exact hl.1) rfl dX3_init_1 (Nat.le_of_ble_eq_true rfl) (Nat.le_of_ble_eq_true rfl) ?_
  refine W.eq (g2 := F0 m 4 ls []) rfl ?_
  refine lv_aload_n hx hb dX3_init_4 rfl (lv_at hl 0 rfl) ?_
  refine lv_bipush (v := nI 10) hx hb dX3_init_5 (by decide +kernel) ?_
  refine vb_newaI (N := 10) hx hb (hts _ ac_I) hK hP hD hS hA (by decide +kernel) (by decide +kernel) (Nat.le_of_ble_eq_true rfl) (Nat.le_of_ble_eq_true rfl) (Nat.le_of_ble_eq_true rfl) dX3_init_7 (fun q7 H hP hD hS => ?_)
  have hP : va_P (dC, dI) vwCl [(h0, .inr (3, [.int 0, .null, .null, .null])), (q7, .inl (ca 0, 10, .inl (fun _ => 0)))] H := hP
  have hD : va_D A [(h0, .inr (3, [.int 0, .null, .null, .null])), (q7, .inl (ca 0, 10, .inl (fun _ => 0)))] := hD
  refine va_putF (D := (dC, dI)) (ci := 3) (v := .ref q7) (ty := .array .int) (C := RX3) (T := TX3) (N := 4) hx hb hts inX3 tyX3 tyX3_ok nmX3 hown hK hP hD hS 0 rfl rfl 1 (by decide) (hts _ (tI (w := Cond.fieldLink RX3 9 RX3 "seat" "[I") 100 (by decide +kernel) rfl)) (fun _ h9 => h9) rfl hin rfl (by decide +kernel) rfl rfl (Nat.le_of_ble_eq_true rfl) dX3_init_9 (fun H locs hP hD hS => ?_)
  have hP : va_P (dC, dI) vwCl [(h0, .inr (3, [.int 0, .ref q7, .null, .null])), (q7, .inl (ca 0, 10, .inl (fun _ => 0)))] H := hP
  have hD : va_D A [(h0, .inr (3, [.int 0, .ref q7, .null, .null])), (q7, .inl (ca 0, 10, .inl (fun _ => 0)))] := hD
  refine lv_aload_n hx hb dX3_init_12 rfl (lv_at hl 0 rfl) ?_
  refine lv_bipush (v := nI 10) hx hb dX3_init_13 (by decide +kernel) ?_
  refine vb_newaI (N := 10) hx hb (hts _ ac_I) hK hP hD hS hA (by decide +kernel) (by decide +kernel) (Nat.le_of_ble_eq_true rfl) (Nat.le_of_ble_eq_true rfl) (Nat.le_of_ble_eq_true rfl) dX3_init_15 (fun q15 H hP hD hS => ?_)
  have hP : va_P (dC, dI) vwCl [(h0, .inr (3, [.int 0, .ref q7, .null, .null])), (q7, .inl (ca 0, 10, .inl (fun _ => 0))), (q15, .inl (ca 0, 10, .inl (fun _ => 0)))] H := hP
  have hD : va_D A [(h0, .inr (3, [.int 0, .ref q7, .null, .null])), (q7, .inl (ca 0, 10, .inl (fun _ => 0))), (q15, .inl (ca 0, 10, .inl (fun _ => 0)))] := hD
  refine va_putF (D := (dC, dI)) (ci := 3) (v := .ref q15) (ty := .array .int) (C := RX3) (T := TX3) (N := 4) hx hb hts inX3 tyX3 tyX3_ok nmX3 hown hK hP hD hS 0 rfl rfl 2 (by decide) (hts _ (tI (w := Cond.fieldLink RX3 15 RX3 "from" "[I") 101 (by decide +kernel) rfl)) (fun _ h9 => h9) rfl hin rfl (by decide +kernel) rfl rfl (Nat.le_of_ble_eq_true rfl) dX3_init_17 (fun H locs hP hD hS => ?_)
  have hP : va_P (dC, dI) vwCl [(h0, .inr (3, [.int 0, .ref q7, .ref q15, .null])), (q7, .inl (ca 0, 10, .inl (fun _ => 0))), (q15, .inl (ca 0, 10, .inl (fun _ => 0)))] H := hP
  have hD : va_D A [(h0, .inr (3, [.int 0, .ref q7, .ref q15, .null])), (q7, .inl (ca 0, 10, .inl (fun _ => 0))), (q15, .inl (ca 0, 10, .inl (fun _ => 0)))] := hD
  refine lv_aload_n hx hb dX3_init_20 rfl (lv_at hl 0 rfl) ?_
  refine lv_bipush (v := nI 10) hx hb dX3_init_21 (by decide +kernel) ?_
  refine vb_newaI (N := 10) hx hb (hts _ ac_I) hK hP hD hS hA (by decide +kernel) (by decide +kernel) (Nat.le_of_ble_eq_true rfl) (Nat.le_of_ble_eq_true rfl) (Nat.le_of_ble_eq_true rfl) dX3_init_23 (fun q23 H hP hD hS => ?_)
  have hP : va_P (dC, dI) vwCl [(h0, .inr (3, [.int 0, .ref q7, .ref q15, .null])), (q7, .inl (ca 0, 10, .inl (fun _ => 0))), (q15, .inl (ca 0, 10, .inl (fun _ => 0))), (q23, .inl (ca 0, 10, .inl (fun _ => 0)))] H := hP
  have hD : va_D A [(h0, .inr (3, [.int 0, .ref q7, .ref q15, .null])), (q7, .inl (ca 0, 10, .inl (fun _ => 0))), (q15, .inl (ca 0, 10, .inl (fun _ => 0))), (q23, .inl (ca 0, 10, .inl (fun _ => 0)))] := hD
  refine va_putF (D := (dC, dI)) (ci := 3) (v := .ref q23) (ty := .array .int) (C := RX3) (T := TX3) (N := 4) hx hb hts inX3 tyX3 tyX3_ok nmX3 hown hK hP hD hS 0 rfl rfl 3 (by decide) (hts _ (tI (w := Cond.fieldLink RX3 18 RX3 "to" "[I") 102 (by decide +kernel) rfl)) (fun _ h9 => h9) rfl hin rfl (by decide +kernel) rfl rfl (Nat.le_of_ble_eq_true rfl) dX3_init_25 (fun H locs hP hD hS => ?_)
  have hP : va_P (dC, dI) vwCl [(h0, .inr (3, [.int 0, .ref q7, .ref q15, .ref q23])), (q7, .inl (ca 0, 10, .inl (fun _ => 0))), (q15, .inl (ca 0, 10, .inl (fun _ => 0))), (q23, .inl (ca 0, 10, .inl (fun _ => 0)))] H := hP
  have hD : va_D A [(h0, .inr (3, [.int 0, .ref q7, .ref q15, .ref q23])), (q7, .inl (ca 0, 10, .inl (fun _ => 0))), (q15, .inl (ca 0, 10, .inl (fun _ => 0))), (q23, .inl (ca 0, 10, .inl (fun _ => 0)))] := hD
  exact W.vret hx hb (by rw [hr]) (fun t ht hW => ⟨⟨(fun i => [q7, q15, q23].getD i 0), rfl, trivial, by rw [ht]; exact hP, hD⟩, hS.F ht⟩) hS.2.2 dX3_init_28
abbrev wX4 (ca : Nat → ClassId) (h0 : Nat) (qs : Nat → Nat) : va_W := [(h0, .inr (4, [.int 0, .ref (qs 0), .ref (qs 1)])), ((qs 0), .inl (ca 1, 8, .inl (fun _ => 0))), ((qs 1), .inl (ca 2, 8, .inr (.inl (fun _ => 0))))]
set_option maxHeartbeats 8000000 in
set_option maxRecDepth 100000 in
theorem k_X4 (l : Launch) (dC : Nat → ClassId) (dI : Nat → Nat → Nat) (ca : Nat → ClassId) (h0 sz : Nat) : Met l (mName mX4_init) (mWs mX4_init) ({ frames := 1, cells := 2, slots := 16, locals := 36 } : Room) (va_Pc [.ref h0] (fun U => U.heap.size = sz ∧ va_P (dC, dI) vwCl [(h0, .inr (4, [.int 0, .null, .null]))] U.heap ∧ va_K (dC, dI) vwCl (tysOf ca) U ∧ va_D (fun _ => True) [(h0, .inr (4, [.int 0, .null, .null]))] ∧ NC U)) (va_Qv (fun (_ : Nat → Nat) => True) (fun (qs : Nat → Nat) t => va_P (dC, dI) vwCl (wX4 ca h0 qs) t.heap ∧ va_D (va_A [(h0, .inr (4, [.int 0, .null, .null]))] sz) (wX4 ca h0 qs)) (va_A [(h0, .inr (4, [.int 0, .null, .null]))] sz)) 2 16 (va_A [(h0, .inr (4, [.int 0, .null, .null]))] sz) := by
  refine Met.ofW (cc := mCode mX4_init) (maxL := 1) (ret := none) (by decide) rfl ?_
  intro p e s m args below meth c s₁ B hml hv
  obtain ⟨rfl, hsz, hP, hK, hD0, hNC⟩ := hv
  have hx := B.exec
  have hb := B.bytes
  have hr := B.returns
  have hts0 := atoms_spec (ws := mWs mX4_init) B.pre
  have hts : ∀ w ∈ lw_g, w.before ([.ref h0] : List Value).toArray s = true := fun w hw => hts0 w (List.mem_cons_of_mem _ hw)
  have hown : s.vm.findClass RX4 = some m.cls := findClass_of_methodNamed B.named
  have hlocks := B.notSynchronized
  have hin : meth.name = "<init>" := (name_of_methodNamed B.named B.method).1
  subst hsz
  have hD := hD0.self (sz := s.heap.size)
  generalize hAe : va_A [(h0, .inr (4, [.int 0, .null, .null]))] s.heap.size = A at hD ⊢
  have hA : ∀ q : Nat, s.heap.size ≤ q → A q := fun q h => by rw [← hAe]; exact Or.inr h
  have hS : va_S A s.heap s.heap [] := va_S.rf
  have hl := lv_entry ([.ref h0]) (n := 1) (Nat.le_of_ble_eq_true rfl)
  rw [lg_entry_eq]
  generalize (lg_sl ([.ref h0]) ++ List.replicate (1 - (lg_sl ([.ref h0])).length) Slot.unset).toArray = ls at hl ⊢
  have hl : lv_has ls 1 [(0, .ref h0)] := hl
  refine lv_aload_n hx hb dX4_init_0 rfl (lv_at hl 0 rfl) ?_
  refine W.objInit hx hb hown (hts _ (tI (w := Cond.methodLink RX4 3 Lib.objectInit) 243 (by decide +kernel) rfl)) (hts _ oi_i) (hts _ oi_c) rfl (by rw [hml]; exact hl.1) rfl dX4_init_1 (Nat.le_of_ble_eq_true rfl) (Nat.le_of_ble_eq_true rfl) ?_
  refine W.eq (g2 := F0 m 4 ls []) rfl ?_
  refine lv_aload_n hx hb dX4_init_4 rfl (lv_at hl 0 rfl) ?_
  refine lv_bipush (v := nI 8) hx hb dX4_init_5 (by decide +kernel) ?_
  refine vb_newaZ (N := 8) hx hb (hts _ ac_Z) hK hP hD hS hA (by decide +kernel) (by decide +kernel) (Nat.le_of_ble_eq_true rfl) (Nat.le_of_ble_eq_true rfl) (Nat.le_of_ble_eq_true rfl) dX4_init_7 (fun q7 H hP hD hS => ?_)
  have hP : va_P (dC, dI) vwCl [(h0, .inr (4, [.int 0, .null, .null])), (q7, .inl (ca 1, 8, .inl (fun _ => 0)))] H := hP
  have hD : va_D A [(h0, .inr (4, [.int 0, .null, .null])), (q7, .inl (ca 1, 8, .inl (fun _ => 0)))] := hD
  refine va_putF (D := (dC, dI)) (ci := 4) (v := .ref q7) (ty := .array .boolean) (C := RX4) (T := TX4) (N := 3) hx hb hts inX4 tyX4 tyX4_ok nmX4 hown hK hP hD hS 0 rfl rfl 1 (by decide) (hts _ (tI (w := Cond.fieldLink RX4 9 RX4 "known" "[Z") 246 (by decide +kernel) rfl)) (fun _ h9 => h9) rfl hin rfl (by decide +kernel) rfl rfl (Nat.le_of_ble_eq_true rfl) dX4_init_9 (fun H locs hP hD hS => ?_)
  have hP : va_P (dC, dI) vwCl [(h0, .inr (4, [.int 0, .ref q7, .null])), (q7, .inl (ca 1, 8, .inl (fun _ => 0)))] H := hP
  have hD : va_D A [(h0, .inr (4, [.int 0, .ref q7, .null])), (q7, .inl (ca 1, 8, .inl (fun _ => 0)))] := hD
  refine lv_aload_n hx hb dX4_init_12 rfl (lv_at hl 0 rfl) ?_
  refine lv_bipush (v := nI 8) hx hb dX4_init_13 (by decide +kernel) ?_
  refine vb_newaL (N := 8) hx hb (hts _ ac_L) hK hP hD hS hA (by decide +kernel) (by decide +kernel) (Nat.le_of_ble_eq_true rfl) (Nat.le_of_ble_eq_true rfl) (Nat.le_of_ble_eq_true rfl) dX4_init_15 (fun q15 H hP hD hS => ?_)
  have hP : va_P (dC, dI) vwCl [(h0, .inr (4, [.int 0, .ref q7, .null])), (q7, .inl (ca 1, 8, .inl (fun _ => 0))), (q15, .inl (ca 2, 8, .inr (.inl (fun _ => 0))))] H := hP
  have hD : va_D A [(h0, .inr (4, [.int 0, .ref q7, .null])), (q7, .inl (ca 1, 8, .inl (fun _ => 0))), (q15, .inl (ca 2, 8, .inr (.inl (fun _ => 0))))] := hD
  refine va_putF (D := (dC, dI)) (ci := 4) (v := .ref q15) (ty := .array .long) (C := RX4) (T := TX4) (N := 3) hx hb hts inX4 tyX4 tyX4_ok nmX4 hown hK hP hD hS 0 rfl rfl 2 (by decide) (hts _ (tI (w := Cond.fieldLink RX4 15 RX4 "rows" "[J") 247 (by decide +kernel) rfl)) (fun _ h9 => h9) rfl hin rfl (by decide +kernel) rfl rfl (Nat.le_of_ble_eq_true rfl) dX4_init_17 (fun H locs hP hD hS => ?_)
  have hP : va_P (dC, dI) vwCl [(h0, .inr (4, [.int 0, .ref q7, .ref q15])), (q7, .inl (ca 1, 8, .inl (fun _ => 0))), (q15, .inl (ca 2, 8, .inr (.inl (fun _ => 0))))] H := hP
  have hD : va_D A [(h0, .inr (4, [.int 0, .ref q7, .ref q15])), (q7, .inl (ca 1, 8, .inl (fun _ => 0))), (q15, .inl (ca 2, 8, .inr (.inl (fun _ => 0))))] := hD
  exact W.vret hx hb (by rw [hr]) (fun t ht hW => ⟨⟨(fun i => [q7, q15].getD i 0), rfl, trivial, by rw [ht]; exact hP, hD⟩, hS.F ht⟩) hS.2.2 dX4_init_20
abbrev wX6 (ca : Nat → ClassId) (h0 : Nat) (qs : Nat → Nat) : va_W := [(h0, .inr (6, [.int 0, .ref (qs 0), .ref (qs 1)])), ((qs 0), .inl (ca 0, 10, .inl (fun _ => 0))), ((qs 1), .inl (ca 0, 10, .inl (fun _ => 0)))]
set_option maxHeartbeats 8000000 in
set_option maxRecDepth 100000 in
theorem k_X6 (l : Launch) (dC : Nat → ClassId) (dI : Nat → Nat → Nat) (ca : Nat → ClassId) (h0 sz : Nat) : Met l (mName mX6_init) (mWs mX6_init) ({ frames := 1, cells := 2, slots := 20, locals := 36 } : Room) (va_Pc [.ref h0] (fun U => U.heap.size = sz ∧ va_P (dC, dI) vwCl [(h0, .inr (6, [.int 0, .null, .null]))] U.heap ∧ va_K (dC, dI) vwCl (tysOf ca) U ∧ va_D (fun _ => True) [(h0, .inr (6, [.int 0, .null, .null]))] ∧ NC U)) (va_Qv (fun (_ : Nat → Nat) => True) (fun (qs : Nat → Nat) t => va_P (dC, dI) vwCl (wX6 ca h0 qs) t.heap ∧ va_D (va_A [(h0, .inr (6, [.int 0, .null, .null]))] sz) (wX6 ca h0 qs)) (va_A [(h0, .inr (6, [.int 0, .null, .null]))] sz)) 2 20 (va_A [(h0, .inr (6, [.int 0, .null, .null]))] sz) := by
  refine Met.ofW (cc := mCode mX6_init) (maxL := 1) (ret := none) (by decide) rfl ?_
  intro p e s m args below meth c s₁ B hml hv
  obtain ⟨rfl, hsz, hP, hK, hD0, hNC⟩ := hv
  have hx := B.exec
  have hb := B.bytes
  have hr := B.returns
  have hts0 := atoms_spec (ws := mWs mX6_init) B.pre
  have hts : ∀ w ∈ lw_g, w.before ([.ref h0] : List Value).toArray s = true := fun w hw => hts0 w (List.mem_cons_of_mem _ hw)
  have hown : s.vm.findClass RX6 = some m.cls := findClass_of_methodNamed B.named
  have hlocks := B.notSynchronized
  have hin : meth.name = "<init>" := (name_of_methodNamed B.named B.method).1
  subst hsz
  have hD := hD0.self (sz := s.heap.size)
  generalize hAe : va_A [(h0, .inr (6, [.int 0, .null, .null]))] s.heap.size = A at hD ⊢
  have hA : ∀ q : Nat, s.heap.size ≤ q → A q := fun q h => by rw [← hAe]; exact Or.inr h
  have hS : va_S A s.heap s.heap [] := va_S.rf
  have hl := lv_entry ([.ref h0]) (n := 1) (Nat.le_of_ble_eq_true rfl)
  rw [lg_entry_eq]
  generalize (lg_sl ([.ref h0]) ++ List.replicate (1 - (lg_sl ([.ref h0])).length) Slot.unset).toArray = ls at hl ⊢
  have hl : lv_has ls 1 [(0, .ref h0)] := hl
  refine lv_aload_n hx hb dX6_init_0 rfl (lv_at hl 0 rfl) ?_
  refine W.objInit hx hb hown (hts _ (tI (w := Cond.methodLink RX6 3 Lib.objectInit) 117 (by decide +kernel) rfl)) (hts _ oi_i) (hts _ oi_c) rfl (by rw [hml]; exact hl.1) rfl dX6_init_1 (Nat.le_of_ble_eq_true rfl) (Nat.le_of_ble_eq_true rfl) ?_
  refine W.eq (g2 := F0 m 4 ls []) rfl ?_
  refine lv_aload_n hx hb dX6_init_4 rfl (lv_at hl 0 rfl) ?_
  refine lv_bipush (v := nI 10) hx hb dX6_init_5 (by decide +kernel) ?_
  refine vb_newaI (N := 10) hx hb (hts _ ac_I) hK hP hD hS hA (by decide +kernel) (by decide +kernel) (Nat.le_of_ble_eq_true rfl) (Nat.le_of_ble_eq_true rfl) (Nat.le_of_ble_eq_true rfl) dX6_init_7 (fun q7 H hP hD hS => ?_)
  have hP : va_P (dC, dI) vwCl [(h0, .inr (6, [.int 0, .null, .null])), (q7, .inl (ca 0, 10, .inl (fun _ => 0)))] H := hP
  have hD : va_D A [(h0, .inr (6, [.int 0, .null, .null])), (q7, .inl (ca 0, 10, .inl (fun _ => 0)))] := hD
  refine va_putF (D := (dC, dI)) (ci := 6) (v := .ref q7) (ty := .array .int) (C := RX6) (T := TX6) (N := 3) hx hb hts inX6 tyX6 tyX6_ok nmX6 hown hK hP hD hS 0 rfl rfl 1 (by decide) (hts _ (tI (w := Cond.fieldLink RX6 9 RX6 "from" "[I") 120 (by decide +kernel) rfl)) (fun _ h9 => h9) rfl hin rfl (by decide +kernel) rfl rfl (Nat.le_of_ble_eq_true rfl) dX6_init_9 (fun H locs hP hD hS => ?_)
  have hP : va_P (dC, dI) vwCl [(h0, .inr (6, [.int 0, .ref q7, .null])), (q7, .inl (ca 0, 10, .inl (fun _ => 0)))] H := hP
  have hD : va_D A [(h0, .inr (6, [.int 0, .ref q7, .null])), (q7, .inl (ca 0, 10, .inl (fun _ => 0)))] := hD
  refine lv_aload_n hx hb dX6_init_12 rfl (lv_at hl 0 rfl) ?_
  refine lv_bipush (v := nI 10) hx hb dX6_init_13 (by decide +kernel) ?_
  refine vb_newaI (N := 10) hx hb (hts _ ac_I) hK hP hD hS hA (by decide +kernel) (by decide +kernel) (Nat.le_of_ble_eq_true rfl) (Nat.le_of_ble_eq_true rfl) (Nat.le_of_ble_eq_true rfl) dX6_init_15 (fun q15 H hP hD hS => ?_)
  have hP : va_P (dC, dI) vwCl [(h0, .inr (6, [.int 0, .ref q7, .null])), (q7, .inl (ca 0, 10, .inl (fun _ => 0))), (q15, .inl (ca 0, 10, .inl (fun _ => 0)))] H := hP
  have hD : va_D A [(h0, .inr (6, [.int 0, .ref q7, .null])), (q7, .inl (ca 0, 10, .inl (fun _ => 0))), (q15, .inl (ca 0, 10, .inl (fun _ => 0)))] := hD
  refine va_putF (D := (dC, dI)) (ci := 6) (v := .ref q15) (ty := .array .int) (C := RX6) (T := TX6) (N := 3) hx hb hts inX6 tyX6 tyX6_ok nmX6 hown hK hP hD hS 0 rfl rfl 2 (by decide) (hts _ (tI (w := Cond.fieldLink RX6 15 RX6 "wet" "[I") 121 (by decide +kernel) rfl)) (fun _ h9 => h9) rfl hin rfl (by decide +kernel) rfl rfl (Nat.le_of_ble_eq_true rfl) dX6_init_17 (fun H locs hP hD hS => ?_)
  have hP : va_P (dC, dI) vwCl [(h0, .inr (6, [.int 0, .ref q7, .ref q15])), (q7, .inl (ca 0, 10, .inl (fun _ => 0))), (q15, .inl (ca 0, 10, .inl (fun _ => 0)))] H := hP
  have hD : va_D A [(h0, .inr (6, [.int 0, .ref q7, .ref q15])), (q7, .inl (ca 0, 10, .inl (fun _ => 0))), (q15, .inl (ca 0, 10, .inl (fun _ => 0)))] := hD
  exact W.vret hx hb (by rw [hr]) (fun t ht hW => ⟨⟨(fun i => [q7, q15].getD i 0), rfl, trivial, by rw [ht]; exact hP, hD⟩, hS.F ht⟩) hS.2.2 dX6_init_20
abbrev wX7 (ca : Nat → ClassId) (h0 : Nat) (qs : Nat → Nat) : va_W := [(h0, .inr (7, [.int 0, .ref (qs 0), .ref (qs 1), .ref (qs 2), .ref (qs 3)])), ((qs 0), .inl (ca 0, 4, .inl (fun _ => 0))), ((qs 1), .inl (ca 0, 4, .inl (fun _ => 0))), ((qs 2), .inl (ca 0, 4, .inl (fun _ => 0))), ((qs 3), .inl (ca 0, 4, .inl (fun _ => 0)))]
set_option maxHeartbeats 8000000 in
set_option maxRecDepth 100000 in
theorem k_X7 (l : Launch) (dC : Nat → ClassId) (dI : Nat → Nat → Nat) (ca : Nat → ClassId) (h0 sz : Nat) : Met l (mName mX7_init) (mWs mX7_init) ({ frames := 1, cells := 4, slots := 16, locals := 36 } : Room) (va_Pc [.ref h0] (fun U => U.heap.size = sz ∧ va_P (dC, dI) vwCl [(h0, .inr (7, [.int 0, .null, .null, .null, .null]))] U.heap ∧ va_K (dC, dI) vwCl (tysOf ca) U ∧ va_D (fun _ => True) [(h0, .inr (7, [.int 0, .null, .null, .null, .null]))] ∧ NC U)) (va_Qv (fun (_ : Nat → Nat) => True) (fun (qs : Nat → Nat) t => va_P (dC, dI) vwCl (wX7 ca h0 qs) t.heap ∧ va_D (va_A [(h0, .inr (7, [.int 0, .null, .null, .null, .null]))] sz) (wX7 ca h0 qs)) (va_A [(h0, .inr (7, [.int 0, .null, .null, .null, .null]))] sz)) 4 16 (va_A [(h0, .inr (7, [.int 0, .null, .null, .null, .null]))] sz) := by
  refine Met.ofW (cc := mCode mX7_init) (maxL := 1) (ret := none) (by decide) rfl ?_
  intro p e s m args below meth c s₁ B hml hv
  obtain ⟨rfl, hsz, hP, hK, hD0, hNC⟩ := hv
  have hx := B.exec
  have hb := B.bytes
  have hr := B.returns
  have hts0 := atoms_spec (ws := mWs mX7_init) B.pre
  have hts : ∀ w ∈ lw_g, w.before ([.ref h0] : List Value).toArray s = true := fun w hw => hts0 w (List.mem_cons_of_mem _ hw)
  have hown : s.vm.findClass RX7 = some m.cls := findClass_of_methodNamed B.named
  have hlocks := B.notSynchronized
  have hin : meth.name = "<init>" := (name_of_methodNamed B.named B.method).1
  subst hsz
  have hD := hD0.self (sz := s.heap.size)
  generalize hAe : va_A [(h0, .inr (7, [.int 0, .null, .null, .null, .null]))] s.heap.size = A at hD ⊢
  have hA : ∀ q : Nat, s.heap.size ≤ q → A q := fun q h => by rw [← hAe]; exact Or.inr h
  have hS : va_S A s.heap s.heap [] := va_S.rf
  have hl := lv_entry ([.ref h0]) (n := 1) (Nat.le_of_ble_eq_true rfl)
  rw [lg_entry_eq]
  generalize (lg_sl ([.ref h0]) ++ List.replicate (1 - (lg_sl ([.ref h0])).length) Slot.unset).toArray = ls at hl ⊢
  have hl : lv_has ls 1 [(0, .ref h0)] := hl
  refine lv_aload_n hx hb dX7_init_0 rfl (lv_at hl 0 rfl) ?_
  refine W.objInit hx hb hown (hts _ (tI (w := Cond.methodLink RX7 3 Lib.objectInit) 68 (by decide +kernel) rfl)) (hts _ oi_i) (hts _ oi_c) rfl (by rw [hml]; exact hl.1) rfl dX7_init_1 (Nat.le_of_ble_eq_true rfl) (Nat.le_of_ble_eq_true rfl) ?_
  refine W.eq (g2 := F0 m 4 ls []) rfl ?_
  refine lv_aload_n hx hb dX7_init_4 rfl (lv_at hl 0 rfl) ?_
  refine lv_iconst (v := nI 4) hx hb dX7_init_5 (by decide +kernel) ?_
  refine vb_newaI (N := 4) hx hb (hts _ ac_I) hK hP hD hS hA (by decide +kernel) (by decide +kernel) (Nat.le_of_ble_eq_true rfl) (Nat.le_of_ble_eq_true rfl) (Nat.le_of_ble_eq_true rfl) dX7_init_6 (fun q6 H hP hD hS => ?_)
  have hP : va_P (dC, dI) vwCl [(h0, .inr (7, [.int 0, .null, .null, .null, .null])), (q6, .inl (ca 0, 4, .inl (fun _ => 0)))] H := hP
  have hD : va_D A [(h0, .inr (7, [.int 0, .null, .null, .null, .null])), (q6, .inl (ca 0, 4, .inl (fun _ => 0)))] := hD
  refine va_putF (D := (dC, dI)) (ci := 7) (v := .ref q6) (ty := .array .int) (C := RX7) (T := TX7) (N := 5) hx hb hts inX7 tyX7 tyX7_ok nmX7 hown hK hP hD hS 0 rfl rfl 1 (by decide) (hts _ (tI (w := Cond.fieldLink RX7 9 RX7 "leads" "[I") 73 (by decide +kernel) rfl)) (fun _ h9 => h9) rfl hin rfl (by decide +kernel) rfl rfl (Nat.le_of_ble_eq_true rfl) dX7_init_8 (fun H locs hP hD hS => ?_)
  have hP : va_P (dC, dI) vwCl [(h0, .inr (7, [.int 0, .ref q6, .null, .null, .null])), (q6, .inl (ca 0, 4, .inl (fun _ => 0)))] H := hP
  have hD : va_D A [(h0, .inr (7, [.int 0, .ref q6, .null, .null, .null])), (q6, .inl (ca 0, 4, .inl (fun _ => 0)))] := hD
  refine lv_aload_n hx hb dX7_init_11 rfl (lv_at hl 0 rfl) ?_
  refine lv_iconst (v := nI 4) hx hb dX7_init_12 (by decide +kernel) ?_
  refine vb_newaI (N := 4) hx hb (hts _ ac_I) hK hP hD hS hA (by decide +kernel) (by decide +kernel) (Nat.le_of_ble_eq_true rfl) (Nat.le_of_ble_eq_true rfl) (Nat.le_of_ble_eq_true rfl) dX7_init_13 (fun q13 H hP hD hS => ?_)
  have hP : va_P (dC, dI) vwCl [(h0, .inr (7, [.int 0, .ref q6, .null, .null, .null])), (q6, .inl (ca 0, 4, .inl (fun _ => 0))), (q13, .inl (ca 0, 4, .inl (fun _ => 0)))] H := hP
  have hD : va_D A [(h0, .inr (7, [.int 0, .ref q6, .null, .null, .null])), (q6, .inl (ca 0, 4, .inl (fun _ => 0))), (q13, .inl (ca 0, 4, .inl (fun _ => 0)))] := hD
  refine va_putF (D := (dC, dI)) (ci := 7) (v := .ref q13) (ty := .array .int) (C := RX7) (T := TX7) (N := 5) hx hb hts inX7 tyX7 tyX7_ok nmX7 hown hK hP hD hS 0 rfl rfl 2 (by decide) (hts _ (tI (w := Cond.fieldLink RX7 15 RX7 "drop" "[I") 75 (by decide +kernel) rfl)) (fun _ h9 => h9) rfl hin rfl (by decide +kernel) rfl rfl (Nat.le_of_ble_eq_true rfl) dX7_init_15 (fun H locs hP hD hS => ?_)
  have hP : va_P (dC, dI) vwCl [(h0, .inr (7, [.int 0, .ref q6, .ref q13, .null, .null])), (q6, .inl (ca 0, 4, .inl (fun _ => 0))), (q13, .inl (ca 0, 4, .inl (fun _ => 0)))] H := hP
  have hD : va_D A [(h0, .inr (7, [.int 0, .ref q6, .ref q13, .null, .null])), (q6, .inl (ca 0, 4, .inl (fun _ => 0))), (q13, .inl (ca 0, 4, .inl (fun _ => 0)))] := hD
  refine lv_aload_n hx hb dX7_init_18 rfl (lv_at hl 0 rfl) ?_
  refine lv_iconst (v := nI 4) hx hb dX7_init_19 (by decide +kernel) ?_
  refine vb_newaI (N := 4) hx hb (hts _ ac_I) hK hP hD hS hA (by decide +kernel) (by decide +kernel) (Nat.le_of_ble_eq_true rfl) (Nat.le_of_ble_eq_true rfl) (Nat.le_of_ble_eq_true rfl) dX7_init_20 (fun q20 H hP hD hS => ?_)
  have hP : va_P (dC, dI) vwCl [(h0, .inr (7, [.int 0, .ref q6, .ref q13, .null, .null])), (q6, .inl (ca 0, 4, .inl (fun _ => 0))), (q13, .inl (ca 0, 4, .inl (fun _ => 0))), (q20, .inl (ca 0, 4, .inl (fun _ => 0)))] H := hP
  have hD : va_D A [(h0, .inr (7, [.int 0, .ref q6, .ref q13, .null, .null])), (q6, .inl (ca 0, 4, .inl (fun _ => 0))), (q13, .inl (ca 0, 4, .inl (fun _ => 0))), (q20, .inl (ca 0, 4, .inl (fun _ => 0)))] := hD
  refine va_putF (D := (dC, dI)) (ci := 7) (v := .ref q20) (ty := .array .int) (C := RX7) (T := TX7) (N := 5) hx hb hts inX7 tyX7 tyX7_ok nmX7 hown hK hP hD hS 0 rfl rfl 3 (by decide) (hts _ (tI (w := Cond.fieldLink RX7 18 RX7 "every" "[I") 78 (by decide +kernel) rfl)) (fun _ h9 => h9) rfl hin rfl (by decide +kernel) rfl rfl (Nat.le_of_ble_eq_true rfl) dX7_init_22 (fun H locs hP hD hS => ?_)
  have hP : va_P (dC, dI) vwCl [(h0, .inr (7, [.int 0, .ref q6, .ref q13, .ref q20, .null])), (q6, .inl (ca 0, 4, .inl (fun _ => 0))), (q13, .inl (ca 0, 4, .inl (fun _ => 0))), (q20, .inl (ca 0, 4, .inl (fun _ => 0)))] H := hP
  have hD : va_D A [(h0, .inr (7, [.int 0, .ref q6, .ref q13, .ref q20, .null])), (q6, .inl (ca 0, 4, .inl (fun _ => 0))), (q13, .inl (ca 0, 4, .inl (fun _ => 0))), (q20, .inl (ca 0, 4, .inl (fun _ => 0)))] := hD
  refine lv_aload_n hx hb dX7_init_25 rfl (lv_at hl 0 rfl) ?_
  refine lv_iconst (v := nI 4) hx hb dX7_init_26 (by decide +kernel) ?_
  refine vb_newaI (N := 4) hx hb (hts _ ac_I) hK hP hD hS hA (by decide +kernel) (by decide +kernel) (Nat.le_of_ble_eq_true rfl) (Nat.le_of_ble_eq_true rfl) (Nat.le_of_ble_eq_true rfl) dX7_init_27 (fun q27 H hP hD hS => ?_)
  have hP : va_P (dC, dI) vwCl [(h0, .inr (7, [.int 0, .ref q6, .ref q13, .ref q20, .null])), (q6, .inl (ca 0, 4, .inl (fun _ => 0))), (q13, .inl (ca 0, 4, .inl (fun _ => 0))), (q20, .inl (ca 0, 4, .inl (fun _ => 0))), (q27, .inl (ca 0, 4, .inl (fun _ => 0)))] H := hP
  have hD : va_D A [(h0, .inr (7, [.int 0, .ref q6, .ref q13, .ref q20, .null])), (q6, .inl (ca 0, 4, .inl (fun _ => 0))), (q13, .inl (ca 0, 4, .inl (fun _ => 0))), (q20, .inl (ca 0, 4, .inl (fun _ => 0))), (q27, .inl (ca 0, 4, .inl (fun _ => 0)))] := hD
  refine va_putF (D := (dC, dI)) (ci := 7) (v := .ref q27) (ty := .array .int) (C := RX7) (T := TX7) (N := 5) hx hb hts inX7 tyX7 tyX7_ok nmX7 hown hK hP hD hS 0 rfl rfl 4 (by decide) (hts _ (tI (w := Cond.fieldLink RX7 21 RX7 "first" "[I") 80 (by decide +kernel) rfl)) (fun _ h9 => h9) rfl hin rfl (by decide +kernel) rfl rfl (Nat.le_of_ble_eq_true rfl) dX7_init_29 (fun H locs hP hD hS => ?_)
  have hP : va_P (dC, dI) vwCl [(h0, .inr (7, [.int 0, .ref q6, .ref q13, .ref q20, .ref q27])), (q6, .inl (ca 0, 4, .inl (fun _ => 0))), (q13, .inl (ca 0, 4, .inl (fun _ => 0))), (q20, .inl (ca 0, 4, .inl (fun _ => 0))), (q27, .inl (ca 0, 4, .inl (fun _ => 0)))] H := hP
  have hD : va_D A [(h0, .inr (7, [.int 0, .ref q6, .ref q13, .ref q20, .ref q27])), (q6, .inl (ca 0, 4, .inl (fun _ => 0))), (q13, .inl (ca 0, 4, .inl (fun _ => 0))), (q20, .inl (ca 0, 4, .inl (fun _ => 0))), (q27, .inl (ca 0, 4, .inl (fun _ => 0)))] := hD
  exact W.vret hx hb (by rw [hr]) (fun t ht hW => ⟨⟨(fun i => [q6, q13, q20, q27].getD i 0), rfl, trivial, by rw [ht]; exact hP, hD⟩, hS.F ht⟩) hS.2.2 dX7_init_32
abbrev wX8 (ca : Nat → ClassId) (h0 : Nat) (qs : Nat → Nat) : va_W := [(h0, .inr (8, [.int 0, .ref (qs 0), .ref (qs 1), .ref (qs 2), .ref (qs 3)])), ((qs 0), .inl (ca 0, 4, .inl (fun _ => 0))), ((qs 1), .inl (ca 1, 4, .inl (fun _ => 0))), ((qs 2), .inl (ca 1, 8, .inl (fun _ => 0))), ((qs 3), .inl (ca 1, 8, .inl (fun _ => 0)))]
set_option maxHeartbeats 8000000 in
set_option maxRecDepth 100000 in
theorem k_X8 (l : Launch) (dC : Nat → ClassId) (dI : Nat → Nat → Nat) (ca : Nat → ClassId) (h0 sz : Nat) : Met l (mName mX8_init) (mWs mX8_init) ({ frames := 1, cells := 4, slots := 24, locals := 36 } : Room) (va_Pc [.ref h0] (fun U => U.heap.size = sz ∧ va_P (dC, dI) vwCl [(h0, .inr (8, [.int 0, .null, .null, .null, .null]))] U.heap ∧ va_K (dC, dI) vwCl (tysOf ca) U ∧ va_D (fun _ => True) [(h0, .inr (8, [.int 0, .null, .null, .null, .null]))] ∧ NC U)) (va_Qv (fun (_ : Nat → Nat) => True) (fun (qs : Nat → Nat) t => va_P (dC, dI) vwCl (wX8 ca h0 qs) t.heap ∧ va_D (va_A [(h0, .inr (8, [.int 0, .null, .null, .null, .null]))] sz) (wX8 ca h0 qs)) (va_A [(h0, .inr (8, [.int 0, .null, .null, .null, .null]))] sz)) 4 24 (va_A [(h0, .inr (8, [.int 0, .null, .null, .null, .null]))] sz) := by
  refine Met.ofW (cc := mCode mX8_init) (maxL := 1) (ret := none) (by decide) rfl ?_
  intro p e s m args below meth c s₁ B hml hv
  obtain ⟨rfl, hsz, hP, hK, hD0, hNC⟩ := hv
  have hx := B.exec
  have hb := B.bytes
  have hr := B.returns
  have hts0 := atoms_spec (ws := mWs mX8_init) B.pre
  have hts : ∀ w ∈ lw_g, w.before ([.ref h0] : List Value).toArray s = true := fun w hw => hts0 w (List.mem_cons_of_mem _ hw)
  have hown : s.vm.findClass RX8 = some m.cls := findClass_of_methodNamed B.named
  have hlocks := B.notSynchronized
  have hin : meth.name = "<init>" := (name_of_methodNamed B.named B.method).1
  subst hsz
  have hD := hD0.self (sz := s.heap.size)
  generalize hAe : va_A [(h0, .inr (8, [.int 0, .null, .null, .null, .null]))] s.heap.size = A at hD ⊢
  have hA : ∀ q : Nat, s.heap.size ≤ q → A q := fun q h => by rw [← hAe]; exact Or.inr h
  have hS : va_S A s.heap s.heap [] := va_S.rf
  have hl := lv_entry ([.ref h0]) (n := 1) (Nat.le_of_ble_eq_true rfl)
  rw [lg_entry_eq]
  generalize (lg_sl ([.ref h0]) ++ List.replicate (1 - (lg_sl ([.ref h0])).length) Slot.unset).toArray = ls at hl ⊢
  have hl : lv_has ls 1 [(0, .ref h0)] := hl
  refine lv_aload_n hx hb dX8_init_0 rfl (lv_at hl 0 rfl) ?_
  refine W.objInit hx hb hown (hts _ (tI (w := Cond.methodLink RX8 3 Lib.objectInit) 162 (by decide +kernel) rfl)) (hts _ oi_i) (hts _ oi_c) rfl (by rw [hml]; exact hl.1) rfl dX8_init_1 (Nat.le_of_ble_eq_true rfl) (Nat.le_of_ble_eq_true rfl) ?_
  refine W.eq (g2 := F0 m 4 ls []) rfl ?_
  refine lv_aload_n hx hb dX8_init_4 rfl (lv_at hl 0 rfl) ?_
  refine lv_iconst (v := nI 4) hx hb dX8_init_5 (by decide +kernel) ?_
  refine vb_newaI (N := 4) hx hb (hts _ ac_I) hK hP hD hS hA (by decide +kernel) (by decide +kernel) (Nat.le_of_ble_eq_true rfl) (Nat.le_of_ble_eq_true rfl) (Nat.le_of_ble_eq_true rfl) dX8_init_6 (fun q6 H hP hD hS => ?_)
  have hP : va_P (dC, dI) vwCl [(h0, .inr (8, [.int 0, .null, .null, .null, .null])), (q6, .inl (ca 0, 4, .inl (fun _ => 0)))] H := hP
  have hD : va_D A [(h0, .inr (8, [.int 0, .null, .null, .null, .null])), (q6, .inl (ca 0, 4, .inl (fun _ => 0)))] := hD
  refine va_putF (D := (dC, dI)) (ci := 8) (v := .ref q6) (ty := .array .int) (C := RX8) (T := TX8) (N := 5) hx hb hts inX8 tyX8 tyX8_ok nmX8 hown hK hP hD hS 0 rfl rfl 1 (by decide) (hts _ (tI (w := Cond.fieldLink RX8 9 RX8 "change" "[I") 165 (by decide +kernel) rfl)) (fun _ h9 => h9) rfl hin rfl (by decide +kernel) rfl rfl (Nat.le_of_ble_eq_true rfl) dX8_init_8 (fun H locs hP hD hS => ?_)
  have hP : va_P (dC, dI) vwCl [(h0, .inr (8, [.int 0, .ref q6, .null, .null, .null])), (q6, .inl (ca 0, 4, .inl (fun _ => 0)))] H := hP
  have hD : va_D A [(h0, .inr (8, [.int 0, .ref q6, .null, .null, .null])), (q6, .inl (ca 0, 4, .inl (fun _ => 0)))] := hD
  refine lv_aload_n hx hb dX8_init_11 rfl (lv_at hl 0 rfl) ?_
  refine lv_iconst (v := nI 4) hx hb dX8_init_12 (by decide +kernel) ?_
  refine vb_newaZ (N := 4) hx hb (hts _ ac_Z) hK hP hD hS hA (by decide +kernel) (by decide +kernel) (Nat.le_of_ble_eq_true rfl) (Nat.le_of_ble_eq_true rfl) (Nat.le_of_ble_eq_true rfl) dX8_init_13 (fun q13 H hP hD hS => ?_)
  have hP : va_P (dC, dI) vwCl [(h0, .inr (8, [.int 0, .ref q6, .null, .null, .null])), (q6, .inl (ca 0, 4, .inl (fun _ => 0))), (q13, .inl (ca 1, 4, .inl (fun _ => 0)))] H := hP
  have hD : va_D A [(h0, .inr (8, [.int 0, .ref q6, .null, .null, .null])), (q6, .inl (ca 0, 4, .inl (fun _ => 0))), (q13, .inl (ca 1, 4, .inl (fun _ => 0)))] := hD
  refine va_putF (D := (dC, dI)) (ci := 8) (v := .ref q13) (ty := .array .boolean) (C := RX8) (T := TX8) (N := 5) hx hb hts inX8 tyX8 tyX8_ok nmX8 hown hK hP hD hS 0 rfl rfl 2 (by decide) (hts _ (tI (w := Cond.fieldLink RX8 15 RX8 "stopped" "[Z") 168 (by decide +kernel) rfl)) (fun _ h9 => h9) rfl hin rfl (by decide +kernel) rfl rfl (Nat.le_of_ble_eq_true rfl) dX8_init_15 (fun H locs hP hD hS => ?_)
  have hP : va_P (dC, dI) vwCl [(h0, .inr (8, [.int 0, .ref q6, .ref q13, .null, .null])), (q6, .inl (ca 0, 4, .inl (fun _ => 0))), (q13, .inl (ca 1, 4, .inl (fun _ => 0)))] H := hP
  have hD : va_D A [(h0, .inr (8, [.int 0, .ref q6, .ref q13, .null, .null])), (q6, .inl (ca 0, 4, .inl (fun _ => 0))), (q13, .inl (ca 1, 4, .inl (fun _ => 0)))] := hD
  refine lv_aload_n hx hb dX8_init_18 rfl (lv_at hl 0 rfl) ?_
  refine lv_bipush (v := nI 8) hx hb dX8_init_19 (by decide +kernel) ?_
  refine vb_newaZ (N := 8) hx hb (hts _ ac_Z) hK hP hD hS hA (by decide +kernel) (by decide +kernel) (Nat.le_of_ble_eq_true rfl) (Nat.le_of_ble_eq_true rfl) (Nat.le_of_ble_eq_true rfl) dX8_init_21 (fun q21 H hP hD hS => ?_)
  have hP : va_P (dC, dI) vwCl [(h0, .inr (8, [.int 0, .ref q6, .ref q13, .null, .null])), (q6, .inl (ca 0, 4, .inl (fun _ => 0))), (q13, .inl (ca 1, 4, .inl (fun _ => 0))), (q21, .inl (ca 1, 8, .inl (fun _ => 0)))] H := hP
  have hD : va_D A [(h0, .inr (8, [.int 0, .ref q6, .ref q13, .null, .null])), (q6, .inl (ca 0, 4, .inl (fun _ => 0))), (q13, .inl (ca 1, 4, .inl (fun _ => 0))), (q21, .inl (ca 1, 8, .inl (fun _ => 0)))] := hD
  refine va_putF (D := (dC, dI)) (ci := 8) (v := .ref q21) (ty := .array .boolean) (C := RX8) (T := TX8) (N := 5) hx hb hts inX8 tyX8 tyX8_ok nmX8 hown hK hP hD hS 0 rfl rfl 3 (by decide) (hts _ (tI (w := Cond.fieldLink RX8 19 RX8 "mute" "[Z") 170 (by decide +kernel) rfl)) (fun _ h9 => h9) rfl hin rfl (by decide +kernel) rfl rfl (Nat.le_of_ble_eq_true rfl) dX8_init_23 (fun H locs hP hD hS => ?_)
  have hP : va_P (dC, dI) vwCl [(h0, .inr (8, [.int 0, .ref q6, .ref q13, .ref q21, .null])), (q6, .inl (ca 0, 4, .inl (fun _ => 0))), (q13, .inl (ca 1, 4, .inl (fun _ => 0))), (q21, .inl (ca 1, 8, .inl (fun _ => 0)))] H := hP
  have hD : va_D A [(h0, .inr (8, [.int 0, .ref q6, .ref q13, .ref q21, .null])), (q6, .inl (ca 0, 4, .inl (fun _ => 0))), (q13, .inl (ca 1, 4, .inl (fun _ => 0))), (q21, .inl (ca 1, 8, .inl (fun _ => 0)))] := hD
  refine lv_aload_n hx hb dX8_init_26 rfl (lv_at hl 0 rfl) ?_
  refine lv_bipush (v := nI 8) hx hb dX8_init_27 (by decide +kernel) ?_
  refine vb_newaZ (N := 8) hx hb (hts _ ac_Z) hK hP hD hS hA (by decide +kernel) (by decide +kernel) (Nat.le_of_ble_eq_true rfl) (Nat.le_of_ble_eq_true rfl) (Nat.le_of_ble_eq_true rfl) dX8_init_29 (fun q29 H hP hD hS => ?_)
  have hP : va_P (dC, dI) vwCl [(h0, .inr (8, [.int 0, .ref q6, .ref q13, .ref q21, .null])), (q6, .inl (ca 0, 4, .inl (fun _ => 0))), (q13, .inl (ca 1, 4, .inl (fun _ => 0))), (q21, .inl (ca 1, 8, .inl (fun _ => 0))), (q29, .inl (ca 1, 8, .inl (fun _ => 0)))] H := hP
  have hD : va_D A [(h0, .inr (8, [.int 0, .ref q6, .ref q13, .ref q21, .null])), (q6, .inl (ca 0, 4, .inl (fun _ => 0))), (q13, .inl (ca 1, 4, .inl (fun _ => 0))), (q21, .inl (ca 1, 8, .inl (fun _ => 0))), (q29, .inl (ca 1, 8, .inl (fun _ => 0)))] := hD
  refine va_putF (D := (dC, dI)) (ci := 8) (v := .ref q29) (ty := .array .boolean) (C := RX8) (T := TX8) (N := 5) hx hb hts inX8 tyX8 tyX8_ok nmX8 hown hK hP hD hS 0 rfl rfl 4 (by decide) (hts _ (tI (w := Cond.fieldLink RX8 22 RX8 "cut" "[Z") 172 (by decide +kernel) rfl)) (fun _ h9 => h9) rfl hin rfl (by decide +kernel) rfl rfl (Nat.le_of_ble_eq_true rfl) dX8_init_31 (fun H locs hP hD hS => ?_)
  have hP : va_P (dC, dI) vwCl [(h0, .inr (8, [.int 0, .ref q6, .ref q13, .ref q21, .ref q29])), (q6, .inl (ca 0, 4, .inl (fun _ => 0))), (q13, .inl (ca 1, 4, .inl (fun _ => 0))), (q21, .inl (ca 1, 8, .inl (fun _ => 0))), (q29, .inl (ca 1, 8, .inl (fun _ => 0)))] H := hP
  have hD : va_D A [(h0, .inr (8, [.int 0, .ref q6, .ref q13, .ref q21, .ref q29])), (q6, .inl (ca 0, 4, .inl (fun _ => 0))), (q13, .inl (ca 1, 4, .inl (fun _ => 0))), (q21, .inl (ca 1, 8, .inl (fun _ => 0))), (q29, .inl (ca 1, 8, .inl (fun _ => 0)))] := hD
  exact W.vret hx hb (by rw [hr]) (fun t ht hW => ⟨⟨(fun i => [q6, q13, q21, q29].getD i 0), rfl, trivial, by rw [ht]; exact hP, hD⟩, hS.F ht⟩) hS.2.2 dX8_init_34
