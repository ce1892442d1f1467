section
-- ===== PART A: goes FIRST, ahead of the names: the tables' words, and 'selects' of the private methods out of them =====
/-- a private method of a class that the tables say can be made, by its rows of tables_1 -/
def lw_okq (q : MethodName × Nat) : Prop := (q.1.cls ≠ "java/lang/invoke/MethodHandle" ∧ q.1.cls ≠ "java/lang/invoke/VarHandle") ∧ Cond.instantiable q.1.cls q.2 ∈ tables_1 ∧ Cond.privateMethod q.1 ∈ tables_1 ∧ Cond.instanceMethod q.1 ∈ tables_1
theorem lw_p0 : lw_okq (⟨"TickGarden$Flow", "takeDrips", "()V"⟩, 11) := ⟨⟨by decide +kernel, by decide +kernel⟩, List.mem_of_getElem? (i := 156) (by decide +kernel), List.mem_of_getElem? (i := 381) (by decide +kernel), List.mem_of_getElem? (i := 382) (by decide +kernel)⟩
theorem lw_p1 : lw_okq (⟨"TickGarden$Flow", "isHeldBack", "(I)Z"⟩, 11) := ⟨⟨by decide +kernel, by decide +kernel⟩, List.mem_of_getElem? (i := 156) (by decide +kernel), List.mem_of_getElem? (i := 397) (by decide +kernel), List.mem_of_getElem? (i := 398) (by decide +kernel)⟩
theorem lw_p2 : lw_okq (⟨"TickGarden$Flow", "pour", "(II)V"⟩, 11) := ⟨⟨by decide +kernel, by decide +kernel⟩, List.mem_of_getElem? (i := 156) (by decide +kernel), List.mem_of_getElem? (i := 408) (by decide +kernel), List.mem_of_getElem? (i := 409) (by decide +kernel)⟩
theorem lw_p3 : lw_okq (⟨"TickGarden$Flow", "takeFromPipes", "()V"⟩, 11) := ⟨⟨by decide +kernel, by decide +kernel⟩, List.mem_of_getElem? (i := 156) (by decide +kernel), List.mem_of_getElem? (i := 412) (by decide +kernel), List.mem_of_getElem? (i := 413) (by decide +kernel)⟩
theorem lw_p4 : lw_okq (⟨"TickGarden$Flow", "dryUp", "()V"⟩, 11) := ⟨⟨by decide +kernel, by decide +kernel⟩, List.mem_of_getElem? (i := 156) (by decide +kernel), List.mem_of_getElem? (i := 417) (by decide +kernel), List.mem_of_getElem? (i := 418) (by decide +kernel)⟩
theorem lw_p5 : lw_okq (⟨"TickGarden$Flow", "tipAll", "()I"⟩, 11) := ⟨⟨by decide +kernel, by decide +kernel⟩, List.mem_of_getElem? (i := 156) (by decide +kernel), List.mem_of_getElem? (i := 421) (by decide +kernel), List.mem_of_getElem? (i := 422) (by decide +kernel)⟩
theorem lw_p6 : lw_okq (⟨"TickGarden$Flow", "tip", "(I)V"⟩, 11) := ⟨⟨by decide +kernel, by decide +kernel⟩, List.mem_of_getElem? (i := 156) (by decide +kernel), List.mem_of_getElem? (i := 425) (by decide +kernel), List.mem_of_getElem? (i := 426) (by decide +kernel)⟩
theorem lw_p7 : lw_okq (⟨"TickGarden", "roundLength", "()I"⟩, 7) := ⟨⟨by decide +kernel, by decide +kernel⟩, List.mem_of_getElem? (i := 17) (by decide +kernel), List.mem_of_getElem? (i := 457) (by decide +kernel), List.mem_of_getElem? (i := 458) (by decide +kernel)⟩
theorem lw_p8 : lw_okq (⟨"TickGarden", "runPlain", "(LTickGarden$Flow;I)V"⟩, 7) := ⟨⟨by decide +kernel, by decide +kernel⟩, List.mem_of_getElem? (i := 17) (by decide +kernel), List.mem_of_getElem? (i := 461) (by decide +kernel), List.mem_of_getElem? (i := 462) (by decide +kernel)⟩
theorem lw_p9 : lw_okq (⟨"TickGarden$Flow", "hasComing", "(ILTickGarden$Flow;)Z"⟩, 11) := ⟨⟨by decide +kernel, by decide +kernel⟩, List.mem_of_getElem? (i := 156) (by decide +kernel), List.mem_of_getElem? (i := 474) (by decide +kernel), List.mem_of_getElem? (i := 475) (by decide +kernel)⟩
theorem lw_p10 : lw_okq (⟨"TickGarden", "roundStart", "(I)I"⟩, 7) := ⟨⟨by decide +kernel, by decide +kernel⟩, List.mem_of_getElem? (i := 17) (by decide +kernel), List.mem_of_getElem? (i := 478) (by decide +kernel), List.mem_of_getElem? (i := 479) (by decide +kernel)⟩
theorem lw_p11 : lw_okq (⟨"TickGarden", "tryFaults", "(II)V"⟩, 7) := ⟨⟨by decide +kernel, by decide +kernel⟩, List.mem_of_getElem? (i := 17) (by decide +kernel), List.mem_of_getElem? (i := 538) (by decide +kernel), List.mem_of_getElem? (i := 539) (by decide +kernel)⟩
theorem lw_p12 : lw_okq (⟨"TickGarden", "trySingleFaults", "()V"⟩, 7) := ⟨⟨by decide +kernel, by decide +kernel⟩, List.mem_of_getElem? (i := 17) (by decide +kernel), List.mem_of_getElem? (i := 555) (by decide +kernel), List.mem_of_getElem? (i := 556) (by decide +kernel)⟩
theorem lw_p13 : lw_okq (⟨"TickGarden", "tryPairsOfFaults", "()V"⟩, 7) := ⟨⟨by decide +kernel, by decide +kernel⟩, List.mem_of_getElem? (i := 17) (by decide +kernel), List.mem_of_getElem? (i := 565) (by decide +kernel), List.mem_of_getElem? (i := 566) (by decide +kernel)⟩
theorem lw_p14 : lw_okq (⟨"TickGarden", "leastWay", "(III)I"⟩, 7) := ⟨⟨by decide +kernel, by decide +kernel⟩, List.mem_of_getElem? (i := 17) (by decide +kernel), List.mem_of_getElem? (i := 577) (by decide +kernel), List.mem_of_getElem? (i := 578) (by decide +kernel)⟩
theorem lw_p15 : lw_okq (⟨"TickGarden", "isOpen", "(I)Z"⟩, 7) := ⟨⟨by decide +kernel, by decide +kernel⟩, List.mem_of_getElem? (i := 17) (by decide +kernel), List.mem_of_getElem? (i := 587) (by decide +kernel), List.mem_of_getElem? (i := 588) (by decide +kernel)⟩
def lw_privs_1 : List (MethodName × Nat) := [(⟨"TickGarden$Flow", "takeDrips", "()V"⟩, 11), (⟨"TickGarden$Flow", "isHeldBack", "(I)Z"⟩, 11), (⟨"TickGarden$Flow", "pour", "(II)V"⟩, 11), (⟨"TickGarden$Flow", "takeFromPipes", "()V"⟩, 11), (⟨"TickGarden$Flow", "dryUp", "()V"⟩, 11), (⟨"TickGarden$Flow", "tipAll", "()I"⟩, 11), (⟨"TickGarden$Flow", "tip", "(I)V"⟩, 11), (⟨"TickGarden", "roundLength", "()I"⟩, 7), (⟨"TickGarden", "runPlain", "(LTickGarden$Flow;I)V"⟩, 7), (⟨"TickGarden$Flow", "hasComing", "(ILTickGarden$Flow;)Z"⟩, 11), (⟨"TickGarden", "roundStart", "(I)I"⟩, 7), (⟨"TickGarden", "tryFaults", "(II)V"⟩, 7), (⟨"TickGarden", "trySingleFaults", "()V"⟩, 7), (⟨"TickGarden", "tryPairsOfFaults", "()V"⟩, 7), (⟨"TickGarden", "leastWay", "(III)I"⟩, 7), (⟨"TickGarden", "isOpen", "(I)Z"⟩, 7)]
theorem lw_r1 : ∀ q ∈ lw_privs_1, lw_okq q := List.forall_mem_cons.mpr ⟨lw_p0, List.forall_mem_cons.mpr ⟨lw_p1, List.forall_mem_cons.mpr ⟨lw_p2, List.forall_mem_cons.mpr ⟨lw_p3, List.forall_mem_cons.mpr ⟨lw_p4, List.forall_mem_cons.mpr ⟨lw_p5, List.forall_mem_cons.mpr ⟨lw_p6, List.forall_mem_cons.mpr ⟨lw_p7, List.forall_mem_cons.mpr ⟨lw_p8, List.forall_mem_cons.mpr ⟨lw_p9, List.forall_mem_cons.mpr ⟨lw_p10, List.forall_mem_cons.mpr ⟨lw_p11, List.forall_mem_cons.mpr ⟨lw_p12, List.forall_mem_cons.mpr ⟨lw_p13, List.forall_mem_cons.mpr ⟨lw_p14, List.forall_mem_cons.mpr ⟨lw_p15, fun _ h => absurd h List.not_mem_nil⟩⟩⟩⟩⟩⟩⟩⟩⟩⟩⟩⟩⟩⟩⟩⟩
theorem lw_p16 : lw_okq (⟨"TickGarden", "knocksJust", "(IIII)Z"⟩, 7) := ⟨⟨by decide +kernel, by decide +kernel⟩, List.mem_of_getElem? (i := 17) (by decide +kernel), List.mem_of_getElem? (i := 591) (by decide +kernel), List.mem_of_getElem? (i := 592) (by decide +kernel)⟩
theorem lw_p17 : lw_okq (⟨"TickGardenModel", "noBucket", "(I)Z"⟩, 36) := ⟨⟨by decide +kernel, by decide +kernel⟩, List.mem_of_getElem? (i := 595) (by decide +kernel), List.mem_of_getElem? (i := 724) (by decide +kernel), List.mem_of_getElem? (i := 725) (by decide +kernel)⟩
theorem lw_p18 : lw_okq (⟨"TickGardenModel", "noSpout", "(I)Z"⟩, 36) := ⟨⟨by decide +kernel, by decide +kernel⟩, List.mem_of_getElem? (i := 595) (by decide +kernel), List.mem_of_getElem? (i := 737) (by decide +kernel), List.mem_of_getElem? (i := 738) (by decide +kernel)⟩
theorem lw_p19 : lw_okq (⟨"TickGardenModel", "onTheWay", "(I)I"⟩, 36) := ⟨⟨by decide +kernel, by decide +kernel⟩, List.mem_of_getElem? (i := 595) (by decide +kernel), List.mem_of_getElem? (i := 760) (by decide +kernel), List.mem_of_getElem? (i := 761) (by decide +kernel)⟩
theorem lw_p20 : lw_okq (⟨"TickGardenModel", "step", "(IIZ)I"⟩, 36) := ⟨⟨by decide +kernel, by decide +kernel⟩, List.mem_of_getElem? (i := 595) (by decide +kernel), List.mem_of_getElem? (i := 773) (by decide +kernel), List.mem_of_getElem? (i := 774) (by decide +kernel)⟩
theorem lw_p21 : lw_okq (⟨"TickGardenModel", "dripOf", "(IIIZ)I"⟩, 36) := ⟨⟨by decide +kernel, by decide +kernel⟩, List.mem_of_getElem? (i := 595) (by decide +kernel), List.mem_of_getElem? (i := 777) (by decide +kernel), List.mem_of_getElem? (i := 778) (by decide +kernel)⟩
theorem lw_p22 : lw_okq (⟨"TickGardenModel", "hasFrog", "(II)Z"⟩, 36) := ⟨⟨by decide +kernel, by decide +kernel⟩, List.mem_of_getElem? (i := 595) (by decide +kernel), List.mem_of_getElem? (i := 781) (by decide +kernel), List.mem_of_getElem? (i := 782) (by decide +kernel)⟩
theorem lw_p23 : lw_okq (⟨"TickGardenModel", "isFault", "(I)Z"⟩, 36) := ⟨⟨by decide +kernel, by decide +kernel⟩, List.mem_of_getElem? (i := 595) (by decide +kernel), List.mem_of_getElem? (i := 785) (by decide +kernel), List.mem_of_getElem? (i := 786) (by decide +kernel)⟩
theorem lw_p24 : lw_okq (⟨"TickGardenModel", "wetAt", "(I)I"⟩, 36) := ⟨⟨by decide +kernel, by decide +kernel⟩, List.mem_of_getElem? (i := 595) (by decide +kernel), List.mem_of_getElem? (i := 789) (by decide +kernel), List.mem_of_getElem? (i := 790) (by decide +kernel)⟩
theorem lw_p25 : lw_okq (⟨"TickGardenModel", "come", "(IIII)V"⟩, 36) := ⟨⟨by decide +kernel, by decide +kernel⟩, List.mem_of_getElem? (i := 595) (by decide +kernel), List.mem_of_getElem? (i := 793) (by decide +kernel), List.mem_of_getElem? (i := 794) (by decide +kernel)⟩
theorem lw_p26 : lw_okq (⟨"TickGardenModel", "knock", "(III)Z"⟩, 36) := ⟨⟨by decide +kernel, by decide +kernel⟩, List.mem_of_getElem? (i := 595) (by decide +kernel), List.mem_of_getElem? (i := 797) (by decide +kernel), List.mem_of_getElem? (i := 798) (by decide +kernel)⟩
theorem lw_p27 : lw_okq (⟨"TickGardenModel", "begin", "(I)V"⟩, 36) := ⟨⟨by decide +kernel, by decide +kernel⟩, List.mem_of_getElem? (i := 595) (by decide +kernel), List.mem_of_getElem? (i := 805) (by decide +kernel), List.mem_of_getElem? (i := 806) (by decide +kernel)⟩
theorem lw_p28 : lw_okq (⟨"TickGardenModel", "run", "(IZ)V"⟩, 36) := ⟨⟨by decide +kernel, by decide +kernel⟩, List.mem_of_getElem? (i := 595) (by decide +kernel), List.mem_of_getElem? (i := 814) (by decide +kernel), List.mem_of_getElem? (i := 815) (by decide +kernel)⟩
theorem lw_p29 : lw_okq (⟨"TickGardenModel", "keep", "(I)V"⟩, 36) := ⟨⟨by decide +kernel, by decide +kernel⟩, List.mem_of_getElem? (i := 595) (by decide +kernel), List.mem_of_getElem? (i := 822) (by decide +kernel), List.mem_of_getElem? (i := 823) (by decide +kernel)⟩
theorem lw_p30 : lw_okq (⟨"TickGardenModel", "goesInto", "(I)Z"⟩, 36) := ⟨⟨by decide +kernel, by decide +kernel⟩, List.mem_of_getElem? (i := 595) (by decide +kernel), List.mem_of_getElem? (i := 826) (by decide +kernel), List.mem_of_getElem? (i := 827) (by decide +kernel)⟩
theorem lw_p31 : lw_okq (⟨"TickGardenModel", "isLike", "(II)Z"⟩, 36) := ⟨⟨by decide +kernel, by decide +kernel⟩, List.mem_of_getElem? (i := 595) (by decide +kernel), List.mem_of_getElem? (i := 830) (by decide +kernel), List.mem_of_getElem? (i := 831) (by decide +kernel)⟩
def lw_privs_2 : List (MethodName × Nat) := [(⟨"TickGarden", "knocksJust", "(IIII)Z"⟩, 7), (⟨"TickGardenModel", "noBucket", "(I)Z"⟩, 36), (⟨"TickGardenModel", "noSpout", "(I)Z"⟩, 36), (⟨"TickGardenModel", "onTheWay", "(I)I"⟩, 36), (⟨"TickGardenModel", "step", "(IIZ)I"⟩, 36), (⟨"TickGardenModel", "dripOf", "(IIIZ)I"⟩, 36), (⟨"TickGardenModel", "hasFrog", "(II)Z"⟩, 36), (⟨"TickGardenModel", "isFault", "(I)Z"⟩, 36), (⟨"TickGardenModel", "wetAt", "(I)I"⟩, 36), (⟨"TickGardenModel", "come", "(IIII)V"⟩, 36), (⟨"TickGardenModel", "knock", "(III)Z"⟩, 36), (⟨"TickGardenModel", "begin", "(I)V"⟩, 36), (⟨"TickGardenModel", "run", "(IZ)V"⟩, 36), (⟨"TickGardenModel", "keep", "(I)V"⟩, 36), (⟨"TickGardenModel", "goesInto", "(I)Z"⟩, 36), (⟨"TickGardenModel", "isLike", "(II)Z"⟩, 36)]
theorem lw_r2 : ∀ q ∈ lw_privs_2, lw_okq q := List.forall_mem_cons.mpr ⟨lw_p16, List.forall_mem_cons.mpr ⟨lw_p17, List.forall_mem_cons.mpr ⟨lw_p18, List.forall_mem_cons.mpr ⟨lw_p19, List.forall_mem_cons.mpr ⟨lw_p20, List.forall_mem_cons.mpr ⟨lw_p21, List.forall_mem_cons.mpr ⟨lw_p22, List.forall_mem_cons.mpr ⟨lw_p23, List.forall_mem_cons.mpr ⟨lw_p24, List.forall_mem_cons.mpr ⟨lw_p25, List.forall_mem_cons.mpr ⟨lw_p26, List.forall_mem_cons.mpr ⟨lw_p27, List.forall_mem_cons.mpr ⟨lw_p28, List.forall_mem_cons.mpr ⟨lw_p29, List.forall_mem_cons.mpr ⟨lw_p30, List.forall_mem_cons.mpr ⟨lw_p31, fun _ h => absurd h List.not_mem_nil⟩⟩⟩⟩⟩⟩⟩⟩⟩⟩⟩⟩⟩⟩⟩⟩
theorem lw_p32 : lw_okq (⟨"TickGardenModel", "fits", "(II)Z"⟩, 36) := ⟨⟨by decide +kernel, by decide +kernel⟩, List.mem_of_getElem? (i := 595) (by decide +kernel), List.mem_of_getElem? (i := 870) (by decide +kernel), List.mem_of_getElem? (i := 871) (by decide +kernel)⟩
theorem lw_p33 : lw_okq (⟨"TickGardenModel", "isFaulty", "(I)Z"⟩, 36) := ⟨⟨by decide +kernel, by decide +kernel⟩, List.mem_of_getElem? (i := 595) (by decide +kernel), List.mem_of_getElem? (i := 874) (by decide +kernel), List.mem_of_getElem? (i := 875) (by decide +kernel)⟩
theorem lw_p34 : lw_okq (⟨"TickGardenModel", "findTurn", "(III)I"⟩, 36) := ⟨⟨by decide +kernel, by decide +kernel⟩, List.mem_of_getElem? (i := 595) (by decide +kernel), List.mem_of_getElem? (i := 882) (by decide +kernel), List.mem_of_getElem? (i := 883) (by decide +kernel)⟩
theorem lw_p35 : lw_okq (⟨"TickGardenModel", "knocksOf", "(II)I"⟩, 36) := ⟨⟨by decide +kernel, by decide +kernel⟩, List.mem_of_getElem? (i := 595) (by decide +kernel), List.mem_of_getElem? (i := 886) (by decide +kernel), List.mem_of_getElem? (i := 887) (by decide +kernel)⟩
def lw_privs_3 : List (MethodName × Nat) := [(⟨"TickGardenModel", "fits", "(II)Z"⟩, 36), (⟨"TickGardenModel", "isFaulty", "(I)Z"⟩, 36), (⟨"TickGardenModel", "findTurn", "(III)I"⟩, 36), (⟨"TickGardenModel", "knocksOf", "(II)I"⟩, 36)]
theorem lw_r3 : ∀ q ∈ lw_privs_3, lw_okq q := List.forall_mem_cons.mpr ⟨lw_p32, List.forall_mem_cons.mpr ⟨lw_p33, List.forall_mem_cons.mpr ⟨lw_p34, List.forall_mem_cons.mpr ⟨lw_p35, fun _ h => absurd h List.not_mem_nil⟩⟩⟩⟩
def lw_privs : List (MethodName × Nat) := lw_privs_1 ++ (lw_privs_2 ++ (lw_privs_3))
def lw_tbl : List Cond := k2_sels lw_privs ++ tables_1
theorem lw_privs_ok : ∀ q ∈ lw_privs, lw_okq q := by
  show ∀ q ∈ lw_privs_1 ++ (lw_privs_2 ++ (lw_privs_3)), lw_okq q
  exact List.forall_mem_append.mpr ⟨lw_r1, List.forall_mem_append.mpr ⟨lw_r2, lw_r3⟩⟩
def va_AOA (ty : FieldType) (U : State) : Prop := (Cond.arrayOver (.array ty)).before #[] U = true
theorem va_AOA.use {ty : FieldType} {A : Array Value} {U : State} (h : va_AOA ty U) : (Cond.arrayOver (.array ty)).before A U = true := h
/-! ===== BEGIN words of one list among another's, by their places ===== -/
theorem goodIn_r {big : List Cond} (ws : List Cond) (ps : List Nat) (hp : ws = ps.filterMap (fun i => big[i]?)) (h : ws.all goodWord = true) : GoodIn big ws := by
  intro w hw
  have h1 := List.all_eq_true.mp h w hw
  rw [hp] at hw
  obtain ⟨i, -, hi⟩ := List.mem_filterMap.mp hw
  have hm : w ∈ big := by first | exact List.mem_of_getElem? hi | exact List.getElem?_mem hi
  exact ⟨hm, good_of_word h1⟩
theorem goodIn_app {big a b : List Cond} (ha : GoodIn big a) (hb : GoodIn big b) : GoodIn big (a ++ b) := fun w h => (List.mem_append.mp h).elim (ha w) (hb w)
theorem goodIn_ca {big a b : List Cond} {c : Cond} (ha : GoodIn big (c :: a)) (hb : GoodIn big b) : GoodIn big (c :: (a ++ b)) := fun w h => (List.mem_cons.mp h).elim (fun e => ha w (List.mem_cons.mpr (Or.inl e))) (fun h => (List.mem_append.mp h).elim (fun h => ha w (List.mem_cons.mpr (Or.inr h))) (hb w))
theorem goodIn_sub {big ws : List Cond} (hm : ∀ w ∈ ws, w ∈ big) (h : ws.all goodWord = true) : GoodIn big ws := fun w hw => ⟨hm w hw, good_of_word (List.all_eq_true.mp h w hw)⟩
/-! ===== END ===== -/

/-! ===== BEGIN new T[n][m]: the outer array a place, the inner ones among the pooled ===== -/
/-- f, but v at every address of l -/
def vr_up {α : Type} (f : Nat → α) (l : List Nat) (v : α) : Nat → α := fun a => if a ∈ l then v else f a
theorem vr_up_in {α : Type} {f : Nat → α} {l : List Nat} {v : α} {a : Nat} (h : a ∈ l) : vr_up f l v a = v := if_pos h
theorem vr_up_ne {α : Type} {f : Nat → α} {l : List Nat} {v : α} {a : Nat} (h : a ∉ l) : vr_up f l v a = f a := if_neg h
theorem vr_rows {L l : List Nat} {f : Nat → va_E} {e : va_E} (h : ∀ a, a ∈ l → a ∉ L) : va_pl L f ++ l.map (fun a => (a, e)) = va_pl (L ++ l) (vr_up f l e) := by
  unfold va_pl
  rw [List.map_append]
  congr 1
  · apply List.map_congr_left
    intro a ha
    rw [vr_up_ne (fun q => h a q ha)]
  · apply List.map_congr_left
    intro a ha
    rw [vr_up_in ha]
theorem vr_lay {X rows : va_W} {x : Nat × va_E} {pl : va_W} {D : va_G} {cl : List vw_C} {H : Heap} (hP : va_P D cl (((X ++ pl) ++ [x]) ++ rows) H) : va_P D cl ((X ++ [x]) ++ (pl ++ rows)) H := by
  rw [List.append_assoc (X ++ pl)] at hP
  have h := va_P.swap hP
  rw [← List.append_assoc X] at h
  have h2 := va_P.swap h
  rw [List.append_assoc (X ++ [x])] at h2
  exact h2
theorem vr_layD {X rows : va_W} {x : Nat × va_E} {pl : va_W} {A : Nat → Prop} (hD : va_D A (((X ++ pl) ++ [x]) ++ rows)) : va_D A ((X ++ [x]) ++ (pl ++ rows)) := by
  rw [List.append_assoc (X ++ pl)] at hD
  have h := va_D.swap hD
  rw [← List.append_assoc X] at h
  have h2 := va_D.swap h
  rw [List.append_assoc (X ++ [x])] at h2
  exact h2
theorem vr_outer (c : ClassId) (N h0 : Nat) : ∀ i : Nat, Jvm.Free.Multi.outerC c N h0 i = arrV c N (fun j => va_rf (if j < i then some (h0 + 1 + j) else none))
  | 0 => by
    show ({ cls := c, slots := Array.replicate N .null, vm := .none } : Cell) = _
    rw [arrV_new]
    refine congrArg (arrV c N) (funext fun j => ?_)
    simp [va_rf]
  | i + 1 => by
    show (Jvm.Free.Multi.outerC c N h0 i).setSlot i (.ref (h0 + 1 + i)) = _
    rw [vr_outer c N h0 i, arrV_store]
    refine congrArg (arrV c N) (funext fun j => ?_)
    by_cases e : j = i
    · subst e
      simp [updV, va_rf]
    · by_cases h : j < i
      · simp [updV, e, h, Nat.lt_succ_of_lt h]
      · simp [updV, e, h, show ¬ j < i + 1 by omega]
section VGM
variable {p : Program} {l : Launch} {e : Env} {R : Room} {s : State} {m : MethodId} {args : Array Value} {below : List Frame} {meth : Method} {c : Code} {H : Heap} {locs : List Loc} {cells slots : Nat} {Q : State → Prop}
variable {cc : ByteArray} {pc : Nat} {ls : Array Slot} {rest : List Value} {D : va_G} {cl : List vw_C} {A : Nat → Prop} {a : Nat} {tys : List (ClassId × FieldType)} {ws : va_W} {H0 : Heap}
theorem va_mna {X : va_W} {L : List Nat} {f : Nat → va_E} {cc : ByteArray} (hexec : p.tables.exec = Jvm.exec) (hb : c.code = cc) {own : String} {index : Nat} {ty : FieldType} {cy : ClassId} (hown : s.vm.findClass own = some m.cls) (hclink : (Cond.classLink own index ("[" ++ (FieldType.array ty).toString)).before args s = true) (hover : va_AOA ty s) (harr : (Cond.arrayClass ty).before args s = true) (hcy : s.vm.findClass (FieldType.array ty).toString = some cy)
    (hK : va_K D cl tys s) (hP : va_P D cl (X ++ va_pl L f) H) (hD : va_D A (X ++ va_pl L f)) (hS : va_S A H0 H locs) (hA : ∀ q, H0.size ≤ q → A q) {n k : Int32} {N' K' : Nat} {z : vp_A} (hn : ¬ n < 0) (hk : ¬ k < 0) (hN : n.toNatClampNeg = N') (hM : k.toNatClampNeg = K')
    (hb1 : N' * 4 ≤ 536870912) (hb2 : K' * componentBytes ty ≤ 536870912) (hb3 : K' ≤ 536870912) (hdf : fits ty (defaultValue ty) = true) (hdd : (defaultValue ty).isDefault = true) (hcells : cells + (1 + N') ≤ R.cells) (hslots : slots + (N' + N' * K') ≤ R.slots) (hz : ∀ c : ClassId, Jvm.Free.Multi.innerC c K' (defaultValue ty) = vp_cell c z) (hdg : decode cc pc = .ok (.multianewarray index 2, 4))
    (kk : ∀ (q : Nat) (r : Nat → Nat) (cA : ClassId) (H1 : Heap), (∀ i j : Nat, i < N' → j < N' → r i = r j → i = j) → (∀ i : Nat, i < N' → r i ∉ L) → va_K D cl (tys ++ [(cA, .array ty)]) s →
      va_P D cl ((X ++ [(q, .inl (cA, N', .inr (.inr (.inr (.inr (fun i => if i < N' then some (r i) else none))))))]) ++ va_pl (L ++ (List.range N').map r) (vr_up f ((List.range N').map r) (.inl (cy, z)))) H1 → va_D A ((X ++ [(q, .inl (cA, N', .inr (.inr (.inr (.inr (fun i => if i < N' then some (r i) else none))))))]) ++ va_pl (L ++ (List.range N').map r) (vr_up f ((List.range N').map r) (.inl (cy, z)))) → va_S A H0 H1 locs →
      W p l e R s m args below meth c H1 locs (cells + 1 + N') (slots + N' + N' * K') Q (F0 m (pc + 4) ls (.ref q :: rest))) : W p l e R s m args below meth c H locs cells slots Q (F0 m pc ls (.int k :: .int n :: rest)) := by
  subst hN
  subst hM
  intro T hT Xs
  obtain ⟨vm₁, cA, comp, -, fA, fC, hO, -, X', step⟩ := Xs.multianewarray2F hexec hown hclink (va_AOA.use hover) harr (g := F0 m pc ls (.int k :: .int n :: rest)) rfl (by rw [hb]; exact hdg) rfl hn hk hb1 hb2 hb3 hdf hdd hcells hslots
  have ec : some cy = some comp := hcy.symm.trans fC
  cases ec
  generalize hF : Jvm.Free.Multi.fill (T.setVm vm₁) cA cy n.toNatClampNeg k.toNatClampNeg (defaultValue ty) n.toNatClampNeg = F at X' step
  have hTh : (T.setVm vm₁).heap = H := hT
  obtain ⟨f1, f2, -, -⟩ := Jvm.Free.Multi.fill_facts (T.setVm vm₁) cA cy n.toNatClampNeg k.toNatClampNeg (defaultValue ty) n.toNatClampNeg
  rw [hF, hTh] at f1 f2
  have hold : ∀ x : Nat, x < H.size → F.heap[x]? = H[x]? := fun x hx => by
    have := Jvm.Free.Multi.fill_old (T.setVm vm₁) cA cy n.toNatClampNeg k.toNatClampNeg (defaultValue ty) (a := x) (by rw [hTh]; exact hx) n.toNatClampNeg
    rw [hF, hTh] at this
    exact this
  have hrow : ∀ j : Nat, j < n.toNatClampNeg → F.heap[H.size + 1 + j]? = some (vp_cell cy z) := fun j hj => by
    have := Jvm.Free.Multi.fill_inner (T.setVm vm₁) cA cy n.toNatClampNeg k.toNatClampNeg (defaultValue ty) n.toNatClampNeg j hj
    rw [hF, hTh, hz] at this
    exact this
  have hout : Jvm.Free.Multi.outerC cA n.toNatClampNeg H.size n.toNatClampNeg = vp_cell cA (n.toNatClampNeg, .inr (.inr (.inr (.inr (fun i => if i < n.toNatClampNeg then some (H.size + 1 + i) else none))))) := by
    rw [vp_cell_q]
    exact vr_outer cA n.toNatClampNeg H.size n.toNatClampNeg
  rw [hout] at f2
  have hlt : ∀ a, a ∈ L → a < H.size := fun a ha => by
    obtain ⟨k9, hk9⟩ := va_pl_get (X := X) (f := f) ha
    exact (hP k9 _ hk9).lt
  have hnl : ∀ i : Nat, i < n.toNatClampNeg → H.size + 1 + i ∉ L := fun i _ h => by
    have := hlt _ h
    omega
  have hnm : ∀ a, a ∈ (List.range n.toNatClampNeg).map (fun i => H.size + 1 + i) → a ∉ L := fun a ha h => by
    obtain ⟨i, -, rfl⟩ := List.mem_map.mp ha
    have := hlt _ h
    omega
  have hP0 : va_P D cl (X ++ va_pl L f) F.heap := hP.kept (fun k9 x hx => hold x.1 ((hP k9 x hx).lt))
  have hP1 : va_P D cl ((X ++ va_pl L f) ++ [(H.size, .inl (cA, n.toNatClampNeg, .inr (.inr (.inr (.inr (fun i => if i < n.toNatClampNeg then some (H.size + 1 + i) else none))))))]) F.heap := hP0.app (fun k9 x hx => by
    have h0 : k9 < 1 := (List.getElem?_eq_some_iff.mp hx).1
    rw [show k9 = 0 by omega] at hx
    cases hx
    exact f2)
  have hP2 : va_P D cl (((X ++ va_pl L f) ++ [(H.size, .inl (cA, n.toNatClampNeg, .inr (.inr (.inr (.inr (fun i => if i < n.toNatClampNeg then some (H.size + 1 + i) else none))))))]) ++ ((List.range n.toNatClampNeg).map (fun i => H.size + 1 + i)).map (fun a => (a, .inl (cy, z)))) F.heap := hP1.app (fun k9 x hx => by
    obtain ⟨a, ha, rfl⟩ := List.mem_map.mp (List.mem_of_getElem? hx)
    obtain ⟨i, hi, rfl⟩ := List.mem_map.mp ha
    exact hrow i (List.mem_range.mp hi))
  have hD2 : va_D A (((X ++ va_pl L f) ++ [(H.size, .inl (cA, n.toNatClampNeg, .inr (.inr (.inr (.inr (fun i => if i < n.toNatClampNeg then some (H.size + 1 + i) else none))))))]) ++ ((List.range n.toNatClampNeg).map (fun i => H.size + 1 + i)).map (fun a => (a, .inl (cy, z)))) := by
    have hD1 := hD.push (e := .inl (cA, n.toNatClampNeg, .inr (.inr (.inr (.inr (fun i => if i < n.toNatClampNeg then some (H.size + 1 + i) else none)))))) hP rfl (hA _ hS.1)
    generalize hW1 : (X ++ va_pl L f) ++ [(H.size, .inl (cA, n.toNatClampNeg, .inr (.inr (.inr (.inr (fun i => if i < n.toNatClampNeg then some (H.size + 1 + i) else none))))))] = W1 at hD1 hP1 ⊢
    have hle : ∀ (k9 : Nat) (x : Nat × va_E), W1[k9]? = some x → x.1 ≤ H.size := fun k9 x hx => by
      rw [← hW1] at hx
      by_cases hl : k9 < (X ++ va_pl L f).length
      · rw [List.getElem?_append_left hl] at hx
        exact Nat.le_of_lt ((hP k9 x hx).lt)
      · rw [List.getElem?_append_right (by omega)] at hx
        have h0 : k9 - (X ++ va_pl L f).length < 1 := (List.getElem?_eq_some_iff.mp hx).1
        rw [show k9 - (X ++ va_pl L f).length = 0 by omega] at hx
        cases hx
        exact Nat.le_refl _
    have hr : ∀ (k9 : Nat) (x : Nat × va_E), (((List.range n.toNatClampNeg).map (fun i => H.size + 1 + i)).map (fun a => ((a, .inl (cy, z)) : Nat × va_E)))[k9]? = some x → x.1 = H.size + 1 + k9 := fun k9 x hx => by
      rw [List.getElem?_map, List.getElem?_map] at hx
      by_cases h9 : k9 < n.toNatClampNeg
      · rw [List.getElem?_range h9] at hx
        cases hx
        rfl
      · have hn0 : (List.range n.toNatClampNeg)[k9]? = none := List.getElem?_eq_none (by rw [List.length_range]; omega)
        rw [hn0] at hx
        cases hx
    refine ⟨fun i j x y hi hj hxy => ?_, fun k9 x hx => ?_⟩
    · by_cases h1 : i < W1.length <;> by_cases h2 : j < W1.length
      · rw [List.getElem?_append_left h1] at hi
        rw [List.getElem?_append_left h2] at hj
        exact hD1.1 i j x y hi hj hxy
      · rw [List.getElem?_append_left h1] at hi
        rw [List.getElem?_append_right (by omega)] at hj
        have := hle _ _ hi
        have := hr _ _ hj
        omega
      · rw [List.getElem?_append_right (by omega)] at hi
        rw [List.getElem?_append_left h2] at hj
        have := hle _ _ hj
        have := hr _ _ hi
        omega
      · rw [List.getElem?_append_right (by omega)] at hi hj
        have := hr _ _ hi
        have := hr _ _ hj
        omega
    · by_cases h1 : k9 < W1.length
      · rw [List.getElem?_append_left h1] at hx
        exact hD1.2 k9 x hx
      · rw [List.getElem?_append_right (by omega)] at hx
        have := hr _ _ hx
        exact hA _ (by have := hS.1; omega)
  have hAr : ArrOfT s cA (.array ty) := fun N9 z9 => by
    obtain ⟨-, k9, hk9, cm9, hkk9⟩ := (hO 0 0 0).1
    exact ⟨(fun q hq => by cases hq), k9, hk9, cm9, hkk9⟩
  have hK2 : va_K D cl (tys ++ [(cA, .array ty)]) s := ⟨hK.1, fun k9 x hx => by
    by_cases hl : k9 < tys.length
    · rw [List.getElem?_append_left hl] at hx
      exact hK.2 k9 x hx
    · rw [List.getElem?_append_right (by omega)] at hx
      have h0 : k9 - tys.length < 1 := (List.getElem?_eq_some_iff.mp hx).1
      rw [show k9 - tys.length = 0 by omega] at hx
      cases hx
      exact ⟨hAr, fA⟩⟩
  obtain ⟨t, a1, b1⟩ := kk H.size (fun i => H.size + 1 + i) cA F.heap (fun i j _ _ h => by have h9 : H.size + 1 + i = H.size + 1 + j := h; omega) hnl hK2 (by rw [← vr_rows hnm]; exact vr_lay hP2) (by rw [← vr_rows hnm]; exact vr_layD hD2) ⟨by rw [f1]; have := hS.1; omega, fun x h1 h2 => (hold x (Nat.lt_of_lt_of_le h1 hS.1)).trans (hS.2.1 x h1 h2), hS.2.2⟩ F rfl X'
  refine ⟨t, step t ?_, b1⟩
  have e : T.heap.size = H.size := by rw [hT]
  rw [e]
  exact a1
end VGM
/-! ===== END ===== -/
/-- the tables' words that stay over every call -/
def lw_g : List Cond := lw_tbl.filter goodWord
theorem gI {w : Cond} (h : w ∈ lw_tbl) (hg : goodWord w = true) : w ∈ lw_g := List.mem_filter.mpr ⟨h, hg⟩
theorem gT {w : Cond} (h : w ∈ lw_g) : w ∈ lw_tbl := (List.mem_filter.mp h).1
theorem tI {w : Cond} (i : Nat) (h : tables_1[i]? = some w) (hg : goodWord w = true) : w ∈ lw_g := gI (List.mem_append_right _ (List.mem_of_getElem? h)) hg
theorem sI {w : Cond} (i : Nat) (h : (k2_sels lw_privs)[i]? = some w) (hg : goodWord w = true) : w ∈ lw_g := gI (List.mem_append_left _ (List.mem_of_getElem? h)) hg
theorem lw_good : ∀ w ∈ lw_g, (w.onTables && w.keeps) = true ∨ ∃ ty, w = .arrayClass ty := fun w h => good_of_word (List.mem_filter.mp h).2
def RX0 : String := "TickGarden$Blame"
def TX0 : u_T := fun k => match k with
  | 0 => ("TickGarden$Blame", "many", "I", false)
  | 1 => ("TickGarden$Blame", "first", "I", false)
  | _ => ("TickGarden$Blame", "second", "I", false)
def tyX0 : Nat → FieldType := fun k => match k with
  | 0 => .int
  | 1 => .int
  | _ => .int
theorem nmX0 : ∀ a, a < 3 → ∀ b, b < 3 → a ≠ b → (TX0 a).2.1 ≠ (TX0 b).2.1 := by decide +kernel
theorem tyX0_ok : ∀ k, k < 3 → parseFieldDescriptor (TX0 k).2.2.1 = some (tyX0 k) := by decide +kernel
abbrev wsX00 : List Cond := u_ws RX0 TX0 3
theorem tinX0 : ∀ w ∈ wsX00, w ∈ lw_tbl := by decide +kernel
theorem inX0 : ∀ w ∈ wsX00, w ∈ lw_g := fun w h => gI (tinX0 w h) (List.all_eq_true.mp (show wsX00.all goodWord = true by decide +kernel) w h)
def RX1 : String := "TickGarden$Buckets"
def TX1 : u_T := fun k => match k with
  | 0 => ("TickGarden$Buckets", "many", "I", false)
  | 1 => ("TickGarden$Buckets", "size", "[I", true)
  | 2 => ("TickGarden$Buckets", "rest", "[I", true)
  | 3 => ("TickGarden$Buckets", "leads", "[I", true)
  | _ => ("TickGarden$Buckets", "delay", "[I", true)
def tyX1 : Nat → FieldType := fun k => match k with
  | 0 => .int
  | 1 => .array .int
  | 2 => .array .int
  | 3 => .array .int
  | _ => .array .int
theorem nmX1 : ∀ a, a < 5 → ∀ b, b < 5 → a ≠ b → (TX1 a).2.1 ≠ (TX1 b).2.1 := by decide +kernel
theorem tyX1_ok : ∀ k, k < 5 → parseFieldDescriptor (TX1 k).2.2.1 = some (tyX1 k) := by decide +kernel
abbrev wsX10 : List Cond := u_ws RX1 TX1 5
theorem tinX1 : ∀ w ∈ wsX10, w ∈ lw_tbl := by decide +kernel
theorem inX1 : ∀ w ∈ wsX10, w ∈ lw_g := fun w h => gI (tinX1 w h) (List.all_eq_true.mp (show wsX10.all goodWord = true by decide +kernel) w h)
def RX2 : String := "TickGarden$Flow"
def TX2 : u_T := fun k => match k with
  | 0 => ("TickGarden$Flow", "plan", "LTickGarden$Plan;", true)
  | 1 => ("TickGarden$Flow", "twist", "LTickGarden$Twist;", true)
  | 2 => ("TickGarden$Flow", "now", "I", false)
  | 3 => ("TickGarden$Flow", "dripped", "I", false)
  | 4 => ("TickGarden$Flow", "brook", "I", false)
  | 5 => ("TickGarden$Flow", "lost", "I", false)
  | 6 => ("TickGarden$Flow", "holds", "[I", true)
  | 7 => ("TickGarden$Flow", "down", "[I", true)
  | 8 => ("TickGarden$Flow", "knocks", "[I", true)
  | 9 => ("TickGarden$Flow", "lastKnock", "[I", true)
  | _ => ("TickGarden$Flow", "coming", "[[I", true)
def tyX2 : Nat → FieldType := fun k => match k with
  | 0 => .object "TickGarden$Plan"
  | 1 => .object "TickGarden$Twist"
  | 2 => .int
  | 3 => .int
  | 4 => .int
  | 5 => .int
  | 6 => .array .int
  | 7 => .array .int
  | 8 => .array .int
  | 9 => .array .int
  | _ => .array (.array .int)
theorem nmX2 : ∀ a, a < 11 → ∀ b, b < 11 → a ≠ b → (TX2 a).2.1 ≠ (TX2 b).2.1 := by decide +kernel
theorem tyX2_ok : ∀ k, k < 11 → parseFieldDescriptor (TX2 k).2.2.1 = some (tyX2 k) := by decide +kernel
abbrev wsX20 : List Cond := u_ws RX2 TX2 11
theorem tinX2 : ∀ w ∈ wsX20, w ∈ lw_tbl := by decide +kernel
theorem inX2 : ∀ w ∈ wsX20, w ∈ lw_g := fun w h => gI (tinX2 w h) (List.all_eq_true.mp (show wsX20.all goodWord = true by decide +kernel) w h)
def RX3 : String := "TickGarden$Frogs"
def TX3 : u_T := fun k => match k with
  | 0 => ("TickGarden$Frogs", "many", "I", false)
  | 1 => ("TickGarden$Frogs", "seat", "[I", true)
  | 2 => ("TickGarden$Frogs", "from", "[I", true)
  | _ => ("TickGarden$Frogs", "to", "[I", true)
def tyX3 : Nat → FieldType := fun k => match k with
  | 0 => .int
  | 1 => .array .int
  | 2 => .array .int
  | _ => .array .int
theorem nmX3 : ∀ a, a < 4 → ∀ b, b < 4 → a ≠ b → (TX3 a).2.1 ≠ (TX3 b).2.1 := by decide +kernel
theorem tyX3_ok : ∀ k, k < 4 → parseFieldDescriptor (TX3 k).2.2.1 = some (tyX3 k) := by decide +kernel
abbrev wsX30 : List Cond := u_ws RX3 TX3 4
theorem tinX3 : ∀ w ∈ wsX30, w ∈ lw_tbl := by decide +kernel
theorem inX3 : ∀ w ∈ wsX30, w ∈ lw_g := fun w h => gI (tinX3 w h) (List.all_eq_true.mp (show wsX30.all goodWord = true by decide +kernel) w h)
def RX4 : String := "TickGarden$Heard"
def TX4 : u_T := fun k => match k with
  | 0 => ("TickGarden$Heard", "many", "I", false)
  | 1 => ("TickGarden$Heard", "known", "[Z", true)
  | _ => ("TickGarden$Heard", "rows", "[J", true)
def tyX4 : Nat → FieldType := fun k => match k with
  | 0 => .int
  | 1 => .array .boolean
  | _ => .array .long
theorem nmX4 : ∀ a, a < 3 → ∀ b, b < 3 → a ≠ b → (TX4 a).2.1 ≠ (TX4 b).2.1 := by decide +kernel
theorem tyX4_ok : ∀ k, k < 3 → parseFieldDescriptor (TX4 k).2.2.1 = some (tyX4 k) := by decide +kernel
abbrev wsX40 : List Cond := u_ws RX4 TX4 3
theorem tinX4 : ∀ w ∈ wsX40, w ∈ lw_tbl := by decide +kernel
theorem inX4 : ∀ w ∈ wsX40, w ∈ lw_g := fun w h => gI (tinX4 w h) (List.all_eq_true.mp (show wsX40.all goodWord = true by decide +kernel) w h)
def RX5 : String := "TickGarden$Plan"
def TX5 : u_T := fun k => match k with
  | 0 => ("TickGarden$Plan", "buckets", "LTickGarden$Buckets;", true)
  | 1 => ("TickGarden$Plan", "spouts", "LTickGarden$Spouts;", true)
  | 2 => ("TickGarden$Plan", "frogs", "LTickGarden$Frogs;", true)
  | 3 => ("TickGarden$Plan", "spells", "LTickGarden$Spells;", true)
  | _ => ("TickGarden$Plan", "dryness", "I", false)
def tyX5 : Nat → FieldType := fun k => match k with
  | 0 => .object "TickGarden$Buckets"
  | 1 => .object "TickGarden$Spouts"
  | 2 => .object "TickGarden$Frogs"
  | 3 => .object "TickGarden$Spells"
  | _ => .int
theorem nmX5 : ∀ a, a < 5 → ∀ b, b < 5 → a ≠ b → (TX5 a).2.1 ≠ (TX5 b).2.1 := by decide +kernel
theorem tyX5_ok : ∀ k, k < 5 → parseFieldDescriptor (TX5 k).2.2.1 = some (tyX5 k) := by decide +kernel
abbrev wsX50 : List Cond := u_ws RX5 TX5 5
theorem tinX5 : ∀ w ∈ wsX50, w ∈ lw_tbl := by decide +kernel
theorem inX5 : ∀ w ∈ wsX50, w ∈ lw_g := fun w h => gI (tinX5 w h) (List.all_eq_true.mp (show wsX50.all goodWord = true by decide +kernel) w h)
def RX6 : String := "TickGarden$Spells"
def TX6 : u_T := fun k => match k with
  | 0 => ("TickGarden$Spells", "many", "I", false)
  | 1 => ("TickGarden$Spells", "from", "[I", true)
  | _ => ("TickGarden$Spells", "wet", "[I", true)
def tyX6 : Nat → FieldType := fun k => match k with
  | 0 => .int
  | 1 => .array .int
  | _ => .array .int
theorem nmX6 : ∀ a, a < 3 → ∀ b, b < 3 → a ≠ b → (TX6 a).2.1 ≠ (TX6 b).2.1 := by decide +kernel
theorem tyX6_ok : ∀ k, k < 3 → parseFieldDescriptor (TX6 k).2.2.1 = some (tyX6 k) := by decide +kernel
abbrev wsX60 : List Cond := u_ws RX6 TX6 3
theorem tinX6 : ∀ w ∈ wsX60, w ∈ lw_tbl := by decide +kernel
theorem inX6 : ∀ w ∈ wsX60, w ∈ lw_g := fun w h => gI (tinX6 w h) (List.all_eq_true.mp (show wsX60.all goodWord = true by decide +kernel) w h)
def RX7 : String := "TickGarden$Spouts"
def TX7 : u_T := fun k => match k with
  | 0 => ("TickGarden$Spouts", "many", "I", false)
  | 1 => ("TickGarden$Spouts", "leads", "[I", true)
  | 2 => ("TickGarden$Spouts", "drop", "[I", true)
  | 3 => ("TickGarden$Spouts", "every", "[I", true)
  | _ => ("TickGarden$Spouts", "first", "[I", true)
def tyX7 : Nat → FieldType := fun k => match k with
  | 0 => .int
  | 1 => .array .int
  | 2 => .array .int
  | 3 => .array .int
  | _ => .array .int
theorem nmX7 : ∀ a, a < 5 → ∀ b, b < 5 → a ≠ b → (TX7 a).2.1 ≠ (TX7 b).2.1 := by decide +kernel
theorem tyX7_ok : ∀ k, k < 5 → parseFieldDescriptor (TX7 k).2.2.1 = some (tyX7 k) := by decide +kernel
abbrev wsX70 : List Cond := u_ws RX7 TX7 5
theorem tinX7 : ∀ w ∈ wsX70, w ∈ lw_tbl := by decide +kernel
theorem inX7 : ∀ w ∈ wsX70, w ∈ lw_g := fun w h => gI (tinX7 w h) (List.all_eq_true.mp (show wsX70.all goodWord = true by decide +kernel) w h)
def RX8 : String := "TickGarden$Twist"
def TX8 : u_T := fun k => match k with
  | 0 => ("TickGarden$Twist", "plain", "Z", false)
  | 1 => ("TickGarden$Twist", "change", "[I", true)
  | 2 => ("TickGarden$Twist", "stopped", "[Z", true)
  | 3 => ("TickGarden$Twist", "mute", "[Z", true)
  | _ => ("TickGarden$Twist", "cut", "[Z", true)
def tyX8 : Nat → FieldType := fun k => match k with
  | 0 => .boolean
  | 1 => .array .int
  | 2 => .array .boolean
  | 3 => .array .boolean
  | _ => .array .boolean
theorem nmX8 : ∀ a, a < 5 → ∀ b, b < 5 → a ≠ b → (TX8 a).2.1 ≠ (TX8 b).2.1 := by decide +kernel
theorem tyX8_ok : ∀ k, k < 5 → parseFieldDescriptor (TX8 k).2.2.1 = some (tyX8 k) := by decide +kernel
abbrev wsX80 : List Cond := u_ws RX8 TX8 5
theorem tinX8 : ∀ w ∈ wsX80, w ∈ lw_tbl := by decide +kernel
theorem inX8 : ∀ w ∈ wsX80, w ∈ lw_g := fun w h => gI (tinX8 w h) (List.all_eq_true.mp (show wsX80.all goodWord = true by decide +kernel) w h)
def RX9 : String := "TickGarden"
def TX9 : u_T := fun k => match k with
  | 0 => ("TickGarden", "plan", "LTickGarden$Plan;", true)
  | 1 => ("TickGarden", "live", "LTickGarden$Flow;", true)
  | 2 => ("TickGarden", "twist", "LTickGarden$Twist;", true)
  | 3 => ("TickGarden", "trial", "LTickGarden$Flow;", true)
  | 4 => ("TickGarden", "later", "LTickGarden$Flow;", true)
  | 5 => ("TickGarden", "heard", "LTickGarden$Heard;", true)
  | _ => ("TickGarden", "blame", "LTickGarden$Blame;", true)
def tyX9 : Nat → FieldType := fun k => match k with
  | 0 => .object "TickGarden$Plan"
  | 1 => .object "TickGarden$Flow"
  | 2 => .object "TickGarden$Twist"
  | 3 => .object "TickGarden$Flow"
  | 4 => .object "TickGarden$Flow"
  | 5 => .object "TickGarden$Heard"
  | _ => .object "TickGarden$Blame"
theorem nmX9 : ∀ a, a < 7 → ∀ b, b < 7 → a ≠ b → (TX9 a).2.1 ≠ (TX9 b).2.1 := by decide +kernel
theorem tyX9_ok : ∀ k, k < 7 → parseFieldDescriptor (TX9 k).2.2.1 = some (tyX9 k) := by decide +kernel
abbrev wsX90 : List Cond := u_ws RX9 TX9 7
theorem tinX9 : ∀ w ∈ wsX90, w ∈ lw_tbl := by decide +kernel
theorem inX9 : ∀ w ∈ wsX90, w ∈ lw_g := fun w h => gI (tinX9 w h) (List.all_eq_true.mp (show wsX90.all goodWord = true by decide +kernel) w h)
def RX10 : String := "TickGardenModel"
def TX10 : u_T := fun k => match k with
  | 0 => ("TickGardenModel", "buckets", "I", false)
  | 1 => ("TickGardenModel", "size", "[I", true)
  | 2 => ("TickGardenModel", "rest", "[I", true)
  | 3 => ("TickGardenModel", "leadsTo", "[I", true)
  | 4 => ("TickGardenModel", "delay", "[I", true)
  | 5 => ("TickGardenModel", "spouts", "I", false)
  | 6 => ("TickGardenModel", "spoutTo", "[I", true)
  | 7 => ("TickGardenModel", "drop", "[I", true)
  | 8 => ("TickGardenModel", "every", "[I", true)
  | 9 => ("TickGardenModel", "first", "[I", true)
  | 10 => ("TickGardenModel", "frogs", "I", false)
  | 11 => ("TickGardenModel", "frogOn", "[I", true)
  | 12 => ("TickGardenModel", "frogFrom", "[I", true)
  | 13 => ("TickGardenModel", "frogUntil", "[I", true)
  | 14 => ("TickGardenModel", "spells", "I", false)
  | 15 => ("TickGardenModel", "spellFrom", "[I", true)
  | 16 => ("TickGardenModel", "spellWet", "[I", true)
  | 17 => ("TickGardenModel", "dry", "I", false)
  | 18 => ("TickGardenModel", "level", "[I", true)
  | 19 => ("TickGardenModel", "until", "[I", true)
  | 20 => ("TickGardenModel", "coming", "[I", true)
  | 21 => ("TickGardenModel", "now", "I", false)
  | 22 => ("TickGardenModel", "knocks", "I", false)
  | 23 => ("TickGardenModel", "fromSpouts", "I", false)
  | 24 => ("TickGardenModel", "inBrook", "I", false)
  | 25 => ("TickGardenModel", "dried", "I", false)
  | 26 => ("TickGardenModel", "knocked", "[I", true)
  | 27 => ("TickGardenModel", "lastKnock", "[I", true)
  | 28 => ("TickGardenModel", "faultOne", "I", false)
  | 29 => ("TickGardenModel", "faultTwo", "I", false)
  | 30 => ("TickGardenModel", "change", "[I", true)
  | 31 => ("TickGardenModel", "rows", "[J", true)
  | 32 => ("TickGardenModel", "states", "[I", true)
  | 33 => ("TickGardenModel", "isHeard", "[Z", true)
  | 34 => ("TickGardenModel", "heardRow", "[J", true)
  | _ => ("TickGardenModel", "best", "[I", true)
def tyX10 : Nat → FieldType := fun k => match k with
  | 0 => .int
  | 1 => .array .int
  | 2 => .array .int
  | 3 => .array .int
  | 4 => .array .int
  | 5 => .int
  | 6 => .array .int
  | 7 => .array .int
  | 8 => .array .int
  | 9 => .array .int
  | 10 => .int
  | 11 => .array .int
  | 12 => .array .int
  | 13 => .array .int
  | 14 => .int
  | 15 => .array .int
  | 16 => .array .int
  | 17 => .int
  | 18 => .array .int
  | 19 => .array .int
  | 20 => .array .int
  | 21 => .int
  | 22 => .int
  | 23 => .int
  | 24 => .int
  | 25 => .int
  | 26 => .array .int
  | 27 => .array .int
  | 28 => .int
  | 29 => .int
  | 30 => .array .int
  | 31 => .array .long
  | 32 => .array .int
  | 33 => .array .boolean
  | 34 => .array .long
  | _ => .array .int
theorem nmX10 : ∀ a, a < 36 → ∀ b, b < 36 → a ≠ b → (TX10 a).2.1 ≠ (TX10 b).2.1 := by decide +kernel
theorem tyX10_ok : ∀ k, k < 36 → parseFieldDescriptor (TX10 k).2.2.1 = some (tyX10 k) := by decide +kernel
abbrev wsX100 : List Cond := u_ws RX10 TX10 36
theorem tinX10 : ∀ w ∈ wsX100, w ∈ lw_tbl := by decide +kernel
theorem inX10 : ∀ w ∈ wsX100, w ∈ lw_g := fun w h => gI (tinX10 w h) (List.all_eq_true.mp (show wsX100.all goodWord = true by decide +kernel) w h)
def RJ6 : String := "java/lang/Integer"
def RJ13 : String := "java/lang/Long"
def RJ9 : String := "java/lang/Math"
def RJ7 : String := "java/util/Arrays"
def RL : String := "TickGardenLaw"
abbrev vwCl : List vw_C := [(RX0, TX0, 3), (RX1, TX1, 5), (RX2, TX2, 11), (RX3, TX3, 4), (RX4, TX4, 3), (RX5, TX5, 5), (RX6, TX6, 3), (RX7, TX7, 5), (RX8, TX8, 5), (RX9, TX9, 7), (RX10, TX10, 36)]
abbrev MInfo : Type := String × ByteArray × Nat × Option FieldType × MethodName
abbrev mOwn (M : MInfo) : String := M.1
abbrev mCode (M : MInfo) : ByteArray := M.2.1
abbrev mLoc (M : MInfo) : Nat := M.2.2.1
abbrev mRet (M : MInfo) : Option FieldType := M.2.2.2.1
abbrev mName (M : MInfo) : MethodName := M.2.2.2.2
/-- the instruction of a method at a place, with its length -/
abbrev DC (M : MInfo) (pc : Nat) (i : Instr) (n : Nat) : Prop := decode (mCode M) pc = .ok (i, n)
def FL (own : String) (idx ci k : Nat) : Prop := ∃ (C : String) (T : u_T) (N : Nat), vwCl[ci]? = some (C, T, N) ∧ k < N ∧ Cond.fieldLink own idx C (T k).2.1 (T k).2.2.1 ∈ lw_g ∧ (T k).1 = C ∧ (∀ w ∈ u_ws C T N, w ∈ lw_g)
def FP (own : String) (idx ci k : Nat) (ty : FieldType) : Prop := ∃ (C : String) (T : u_T) (N : Nat) (ty0 : Nat → FieldType), vwCl[ci]? = some (C, T, N) ∧ k < N ∧ Cond.fieldLink own idx C (T k).2.1 (T k).2.2.1 ∈ lw_g ∧ (T k).1 = C ∧ (∀ w ∈ u_ws C T N, w ∈ lw_g) ∧ (∀ k, k < N → parseFieldDescriptor (T k).2.2.1 = some (ty0 k)) ∧ (∀ a, a < N → ∀ b, b < N → a ≠ b → (T a).2.1 ≠ (T b).2.1) ∧ (T k).2.2.2 = false ∧ parseFieldDescriptor (T k).2.2.1 = some ty
/-- what the words say of a method that is called: its code is there, its class stands, its arguments are n -/
def MW (M : MInfo) (n : Nat) : Prop := Cond.initialized (mName M).cls ∈ lw_g ∧ Cond.code (mName M) (mCode M) (mLoc M) (mRet M) ∈ lw_g ∧ ((mName M).cls ≠ "java/lang/invoke/MethodHandle" ∧ (mName M).cls ≠ "java/lang/invoke/VarHandle") ∧ (parseMethodDescriptor (mName M).desc).map (fun d => d.parameters.length) = some n ∧ mLoc M ≤ 21
def VL (own : String) (idx : Nat) (C : String) (M : MInfo) (n : Nat) : Prop := MW M n ∧ Cond.methodLink own idx (mName M) ∈ lw_g ∧ Cond.instanceMethod (mName M) ∈ lw_g ∧ Cond.selects C (mName M) (mName M) ∈ lw_g
def SL (own : String) (idx : Nat) (M : MInfo) (n : Nat) : Prop := MW M n ∧ Cond.methodLink own idx (mName M) ∈ lw_g ∧ Cond.static (mName M) ∈ lw_g
def nestL : List (String × Nat × MethodName × String) := [("TickGarden$Flow", 172, ⟨"TickGarden", "sum", "([I)I"⟩, "TickGarden"), ("TickGarden$Spells", 22, ⟨"TickGarden", "within", "(III)Z"⟩, "TickGarden"), ("TickGarden$Spouts", 28, ⟨"TickGarden", "goesInto", "(II)Z"⟩, "TickGarden"), ("TickGarden$Flow", 67, ⟨"TickGarden", "goesInto", "(II)Z"⟩, "TickGarden"), ("TickGarden$Plan", 47, ⟨"TickGarden", "goesInto", "(II)Z"⟩, "TickGarden"), ("TickGarden$Twist", 29, ⟨"TickGarden", "within", "(III)Z"⟩, "TickGarden")]
/-- the nest mates' words: they stay too, but by another road -/
def NW (U : State) : Prop := ∀ q ∈ nestL, va_Nw (.methodLinkNest q.1 q.2.1 q.2.2.1 q.2.2.2) U
theorem NW.warm {s U : State} (hW : s.WarmedH U.vm) (h : NW s) : NW U := fun q hq => va_Nw.warmM hW (h q hq)
theorem NW.same {s U : State} (hv : s.vm = U.vm) (h : NW s) : NW U := fun q hq => va_Nw.same rfl hv (h q hq)
def SN (own : String) (idx : Nat) (host : String) (M : MInfo) (n : Nat) : Prop := MW M n ∧ (own, idx, mName M, host) ∈ nestL ∧ Cond.static (mName M) ∈ lw_g
def KI (own : String) (idx : Nat) (v : Int32) : Prop := Cond.constant own idx v ∈ lw_g
def KL (own : String) (idx : Nat) (v : Int64) : Prop := Cond.constantLong own idx v ∈ lw_g
def mX0_init : MInfo := (RX0, prog_2_method_1_code, 1, none, ⟨RX0, "<init>", "()V"⟩)
def mX0_forget : MInfo := (RX0, prog_2_method_2_code, 1, none, ⟨RX0, "forget", "()V"⟩)
def mX0_add : MInfo := (RX0, prog_2_method_3_code, 3, none, ⟨RX0, "add", "(II)V"⟩)
def mX0_faultsInEach : MInfo := (RX0, prog_2_method_4_code, 1, (some .int), ⟨RX0, "faultsInEach", "()I"⟩)
def mX1_init : MInfo := (RX1, prog_3_method_1_code, 1, none, ⟨RX1, "<init>", "()V"⟩)
def mX1_has : MInfo := (RX1, prog_3_method_2_code, 2, (some .boolean), ⟨RX1, "has", "(I)Z"⟩)
def mX1_add : MInfo := (RX1, prog_3_method_3_code, 3, (some .int), ⟨RX1, "add", "(II)I"⟩)
def mX1_lead : MInfo := (RX1, prog_3_method_4_code, 4, none, ⟨RX1, "lead", "(III)V"⟩)
def mX2_init : MInfo := (RX2, prog_4_method_1_code, 3, none, ⟨RX2, "<init>", "(LTickGarden$Plan;LTickGarden$Twist;)V"⟩)
def mX2_begin : MInfo := (RX2, prog_4_method_2_code, 2, none, ⟨RX2, "begin", "()V"⟩)
def mX2_step : MInfo := (RX2, prog_4_method_3_code, 2, (some .int), ⟨RX2, "step", "()I"⟩)
def mX2_takeDrips : MInfo := (RX2, prog_4_method_4_code, 4, none, ⟨RX2, "takeDrips", "()V"⟩)
def mX2_isHeldBack : MInfo := (RX2, prog_4_method_5_code, 2, (some .boolean), ⟨RX2, "isHeldBack", "(I)Z"⟩)
def mX2_takeFromPipes : MInfo := (RX2, prog_4_method_6_code, 3, none, ⟨RX2, "takeFromPipes", "()V"⟩)
def mX2_pour : MInfo := (RX2, prog_4_method_7_code, 3, none, ⟨RX2, "pour", "(II)V"⟩)
def mX2_dryUp : MInfo := (RX2, prog_4_method_8_code, 2, none, ⟨RX2, "dryUp", "()V"⟩)
def mX2_tipAll : MInfo := (RX2, prog_4_method_9_code, 3, (some .int), ⟨RX2, "tipAll", "()I"⟩)
def mX2_tip : MInfo := (RX2, prog_4_method_10_code, 3, none, ⟨RX2, "tip", "(I)V"⟩)
def mX2_inPipes : MInfo := (RX2, prog_4_method_11_code, 3, (some .int), ⟨RX2, "inPipes", "()I"⟩)
def mX2_isLike : MInfo := (RX2, prog_4_method_12_code, 3, (some .boolean), ⟨RX2, "isLike", "(LTickGarden$Flow;)Z"⟩)
def mX2_hasComing : MInfo := (RX2, prog_4_method_13_code, 4, (some .boolean), ⟨RX2, "hasComing", "(ILTickGarden$Flow;)Z"⟩)
def mX3_init : MInfo := (RX3, prog_5_method_1_code, 1, none, ⟨RX3, "<init>", "()V"⟩)
def mX3_add : MInfo := (RX3, prog_5_method_2_code, 4, (some .int), ⟨RX3, "add", "(III)I"⟩)
def mX3_sitOn : MInfo := (RX3, prog_5_method_3_code, 4, (some .boolean), ⟨RX3, "sitOn", "(II)Z"⟩)
def mX4_init : MInfo := (RX4, prog_6_method_1_code, 1, none, ⟨RX4, "<init>", "()V"⟩)
def mX4_note : MInfo := (RX4, prog_6_method_2_code, 4, (some .int), ⟨RX4, "note", "(IJ)I"⟩)
def mX4_forget : MInfo := (RX4, prog_6_method_3_code, 2, none, ⟨RX4, "forget", "()V"⟩)
def mX4_agrees : MInfo := (RX4, prog_6_method_4_code, 4, (some .boolean), ⟨RX4, "agrees", "(II)Z"⟩)
def mX5_init : MInfo := (RX5, prog_7_method_1_code, 1, none, ⟨RX5, "<init>", "()V"⟩)
def mX5_isBeat : MInfo := (RX5, prog_7_method_2_code, 3, (some .boolean), ⟨RX5, "isBeat", "(I)Z"⟩)
def mX5_canFail : MInfo := (RX5, prog_7_method_3_code, 2, (some .boolean), ⟨RX5, "canFail", "(I)Z"⟩)
def mX6_init : MInfo := (RX6, prog_8_method_1_code, 1, none, ⟨RX6, "<init>", "()V"⟩)
def mX6_add : MInfo := (RX6, prog_8_method_2_code, 3, (some .int), ⟨RX6, "add", "(II)I"⟩)
def mX6_wetAt : MInfo := (RX6, prog_8_method_3_code, 5, (some .int), ⟨RX6, "wetAt", "(I)I"⟩)
def mX7_init : MInfo := (RX7, prog_9_method_1_code, 1, none, ⟨RX7, "<init>", "()V"⟩)
def mX7_has : MInfo := (RX7, prog_9_method_2_code, 2, (some .boolean), ⟨RX7, "has", "(I)Z"⟩)
def mX7_add : MInfo := (RX7, prog_9_method_3_code, 5, (some .int), ⟨RX7, "add", "(IIII)I"⟩)
def mX7_isDue : MInfo := (RX7, prog_9_method_4_code, 3, (some .boolean), ⟨RX7, "isDue", "(II)Z"⟩)
def mX8_init : MInfo := (RX8, prog_10_method_1_code, 1, none, ⟨RX8, "<init>", "()V"⟩)
def mX8_reset : MInfo := (RX8, prog_10_method_2_code, 3, none, ⟨RX8, "reset", "(Z)V"⟩)
def mX8_fail : MInfo := (RX8, prog_10_method_3_code, 2, none, ⟨RX8, "fail", "(I)V"⟩)
def mX9_init : MInfo := (RX9, prog_1_method_1_code, 1, none, ⟨RX9, "<init>", "()V"⟩)
def mX9_bucket : MInfo := (RX9, prog_1_method_2_code, 3, (some .int), ⟨RX9, "bucket", "(II)I"⟩)
def mX9_pipe : MInfo := (RX9, prog_1_method_3_code, 4, (some .int), ⟨RX9, "pipe", "(III)I"⟩)
def mX9_spout : MInfo := (RX9, prog_1_method_4_code, 5, (some .int), ⟨RX9, "spout", "(IIII)I"⟩)
def mX9_turn : MInfo := (RX9, prog_1_method_5_code, 4, (some .int), ⟨RX9, "turn", "(II)I"⟩)
def mX9_frog : MInfo := (RX9, prog_1_method_6_code, 4, (some .int), ⟨RX9, "frog", "(III)I"⟩)
def mX9_weather : MInfo := (RX9, prog_1_method_7_code, 3, (some .int), ⟨RX9, "weather", "(II)I"⟩)
def mX9_dry : MInfo := (RX9, prog_1_method_8_code, 3, (some .int), ⟨RX9, "dry", "(I)I"⟩)
def mX9_told : MInfo := (RX9, prog_1_method_9_code, 3, (some .int), ⟨RX9, "told", "(II)I"⟩)
def mX9_count : MInfo := (RX9, prog_1_method_10_code, 2, (some .int), ⟨RX9, "count", "(I)I"⟩)
def mX9_tick : MInfo := (RX9, prog_1_method_11_code, 4, (some .int), ⟨RX9, "tick", "(I)I"⟩)
def mX9_again : MInfo := (RX9, prog_1_method_12_code, 2, (some .int), ⟨RX9, "again", "()I"⟩)
def mX9_row : MInfo := (RX9, prog_1_method_13_code, 8, (some .long), ⟨RX9, "row", "(IZ)J"⟩)
def mX9_round : MInfo := (RX9, prog_1_method_14_code, 3, (some .int), ⟨RX9, "round", "(I)I"⟩)
def mX9_meeting : MInfo := (RX9, prog_1_method_15_code, 5, (some .int), ⟨RX9, "meeting", "(II)I"⟩)
def mX9_drip : MInfo := (RX9, prog_1_method_16_code, 12, (some .int), ⟨RX9, "drip", "(JIII)I"⟩)
def mX9_hear : MInfo := (RX9, prog_1_method_17_code, 4, (some .int), ⟨RX9, "hear", "(IJ)I"⟩)
def mX9_hush : MInfo := (RX9, prog_1_method_18_code, 2, (some .int), ⟨RX9, "hush", "()I"⟩)
def mX9_blamed : MInfo := (RX9, prog_1_method_19_code, 2, (some .int), ⟨RX9, "blamed", "(I)I"⟩)
def mX9_mended : MInfo := (RX9, prog_1_method_20_code, 6, (some .int), ⟨RX9, "mended", "(IIII)I"⟩)
def mX9_within : MInfo := (RX9, prog_1_method_21_code, 3, (some .boolean), ⟨RX9, "within", "(III)Z"⟩)
def mX9_isRow : MInfo := (RX9, prog_1_method_22_code, 2, (some .boolean), ⟨RX9, "isRow", "(J)Z"⟩)
def mX9_goesInto : MInfo := (RX9, prog_1_method_23_code, 2, (some .boolean), ⟨RX9, "goesInto", "(II)Z"⟩)
def mX9_sum : MInfo := (RX9, prog_1_method_24_code, 6, (some .int), ⟨RX9, "sum", "([I)I"⟩)
def mX9_roundLength : MInfo := (RX9, prog_1_method_25_code, 2, (some .int), ⟨RX9, "roundLength", "()I"⟩)
def mX9_roundStart : MInfo := (RX9, prog_1_method_26_code, 3, (some .int), ⟨RX9, "roundStart", "(I)I"⟩)
def mX9_runPlain : MInfo := (RX9, prog_1_method_27_code, 4, none, ⟨RX9, "runPlain", "(LTickGarden$Flow;I)V"⟩)
def mX9_loneRow : MInfo := (RX9, prog_1_method_28_code, 9, (some .long), ⟨RX9, "loneRow", "(IIII)J"⟩)
def mX9_offOf : MInfo := (RX9, prog_1_method_29_code, 8, (some .int), ⟨RX9, "offOf", "(JJ)I"⟩)
def mX9_trySingleFaults : MInfo := (RX9, prog_1_method_30_code, 2, none, ⟨RX9, "trySingleFaults", "()V"⟩)
def mX9_tryPairsOfFaults : MInfo := (RX9, prog_1_method_31_code, 3, none, ⟨RX9, "tryPairsOfFaults", "()V"⟩)
def mX9_tryFaults : MInfo := (RX9, prog_1_method_32_code, 4, none, ⟨RX9, "tryFaults", "(II)V"⟩)
def mX9_leastWay : MInfo := (RX9, prog_1_method_33_code, 6, (some .int), ⟨RX9, "leastWay", "(III)I"⟩)
def mX9_changeIn : MInfo := (RX9, prog_1_method_34_code, 4, (some .int), ⟨RX9, "changeIn", "(II)I"⟩)
def mX9_sizeOf : MInfo := (RX9, prog_1_method_35_code, 3, (some .int), ⟨RX9, "sizeOf", "(I)I"⟩)
def mX9_isOpen : MInfo := (RX9, prog_1_method_36_code, 4, (some .boolean), ⟨RX9, "isOpen", "(I)Z"⟩)
def mX9_knocksJust : MInfo := (RX9, prog_1_method_37_code, 7, (some .boolean), ⟨RX9, "knocksJust", "(IIII)Z"⟩)
def mX10_init : MInfo := (RX10, prog_12_method_1_code, 2, none, ⟨RX10, "<init>", "()V"⟩)
def mX10_in : MInfo := (RX10, prog_12_method_3_code, 6, (some .boolean), ⟨RX10, "in", "(JJJ)Z"⟩)
def mX10_noBucket : MInfo := (RX10, prog_12_method_4_code, 2, (some .boolean), ⟨RX10, "noBucket", "(I)Z"⟩)
def mX10_noSpout : MInfo := (RX10, prog_12_method_5_code, 2, (some .boolean), ⟨RX10, "noSpout", "(I)Z"⟩)
def mX10_bucket : MInfo := (RX10, prog_12_method_6_code, 3, (some .int), ⟨RX10, "bucket", "(II)I"⟩)
def mX10_pipe : MInfo := (RX10, prog_12_method_7_code, 4, (some .int), ⟨RX10, "pipe", "(III)I"⟩)
def mX10_spout : MInfo := (RX10, prog_12_method_8_code, 5, (some .int), ⟨RX10, "spout", "(IIII)I"⟩)
def mX10_turn : MInfo := (RX10, prog_12_method_9_code, 4, (some .int), ⟨RX10, "turn", "(II)I"⟩)
def mX10_frog : MInfo := (RX10, prog_12_method_10_code, 4, (some .int), ⟨RX10, "frog", "(III)I"⟩)
def mX10_weather : MInfo := (RX10, prog_12_method_11_code, 3, (some .int), ⟨RX10, "weather", "(II)I"⟩)
def mX10_dry : MInfo := (RX10, prog_12_method_12_code, 3, (some .int), ⟨RX10, "dry", "(I)I"⟩)
def mX10_isFault : MInfo := (RX10, prog_12_method_13_code, 2, (some .boolean), ⟨RX10, "isFault", "(I)Z"⟩)
def mX10_wetAt : MInfo := (RX10, prog_12_method_14_code, 5, (some .int), ⟨RX10, "wetAt", "(I)I"⟩)
def mX10_hasFrog : MInfo := (RX10, prog_12_method_15_code, 5, (some .boolean), ⟨RX10, "hasFrog", "(II)Z"⟩)
def mX10_dripOf : MInfo := (RX10, prog_12_method_16_code, 7, (some .int), ⟨RX10, "dripOf", "(IIIZ)I"⟩)
def mX10_come : MInfo := (RX10, prog_12_method_17_code, 5, none, ⟨RX10, "come", "(IIII)V"⟩)
def mX10_knock : MInfo := (RX10, prog_12_method_18_code, 6, (some .boolean), ⟨RX10, "knock", "(III)Z"⟩)
def mX10_step : MInfo := (RX10, prog_12_method_19_code, 6, (some .int), ⟨RX10, "step", "(IIZ)I"⟩)
def mX10_begin : MInfo := (RX10, prog_12_method_20_code, 3, none, ⟨RX10, "begin", "(I)V"⟩)
def mX10_onTheWay : MInfo := (RX10, prog_12_method_21_code, 4, (some .int), ⟨RX10, "onTheWay", "(I)I"⟩)
def mX10_told : MInfo := (RX10, prog_12_method_22_code, 3, (some .int), ⟨RX10, "told", "(II)I"⟩)
def mX10_count : MInfo := (RX10, prog_12_method_23_code, 6, (some .int), ⟨RX10, "count", "(I)I"⟩)
def mX10_tick : MInfo := (RX10, prog_12_method_24_code, 6, (some .int), ⟨RX10, "tick", "(I)I"⟩)
def mX10_again : MInfo := (RX10, prog_12_method_25_code, 3, (some .int), ⟨RX10, "again", "()I"⟩)
def mX10_run : MInfo := (RX10, prog_12_method_26_code, 6, none, ⟨RX10, "run", "(IZ)V"⟩)
def mX10_row : MInfo := (RX10, prog_12_method_27_code, 3, (some .long), ⟨RX10, "row", "(IZ)J"⟩)
def mX10_keep : MInfo := (RX10, prog_12_method_28_code, 5, none, ⟨RX10, "keep", "(I)V"⟩)
def mX10_isLike : MInfo := (RX10, prog_12_method_29_code, 4, (some .boolean), ⟨RX10, "isLike", "(II)Z"⟩)
def mX10_goesInto : MInfo := (RX10, prog_12_method_30_code, 4, (some .boolean), ⟨RX10, "goesInto", "(I)Z"⟩)
def mX10_round : MInfo := (RX10, prog_12_method_31_code, 5, (some .int), ⟨RX10, "round", "(I)I"⟩)
def mX10_meeting : MInfo := (RX10, prog_12_method_32_code, 5, (some .int), ⟨RX10, "meeting", "(II)I"⟩)
def mX10_ones : MInfo := (RX10, prog_12_method_33_code, 4, (some .int), ⟨RX10, "ones", "(J)I"⟩)
def mX10_offOf : MInfo := (RX10, prog_12_method_34_code, 11, (some .int), ⟨RX10, "offOf", "(JJ)I"⟩)
def mX10_loneRow : MInfo := (RX10, prog_12_method_35_code, 9, (some .long), ⟨RX10, "loneRow", "(IIII)J"⟩)
def mX10_isRow : MInfo := (RX10, prog_12_method_36_code, 2, (some .boolean), ⟨RX10, "isRow", "(J)Z"⟩)
def mX10_drip : MInfo := (RX10, prog_12_method_37_code, 12, (some .int), ⟨RX10, "drip", "(JIII)I"⟩)
def mX10_hear : MInfo := (RX10, prog_12_method_38_code, 4, (some .int), ⟨RX10, "hear", "(IJ)I"⟩)
def mX10_hush : MInfo := (RX10, prog_12_method_39_code, 3, (some .int), ⟨RX10, "hush", "()I"⟩)
def mX10_isFaulty : MInfo := (RX10, prog_12_method_40_code, 2, (some .boolean), ⟨RX10, "isFaulty", "(I)Z"⟩)
def mX10_fits : MInfo := (RX10, prog_12_method_41_code, 5, (some .boolean), ⟨RX10, "fits", "(II)Z"⟩)
def mX10_blamed : MInfo := (RX10, prog_12_method_42_code, 9, (some .int), ⟨RX10, "blamed", "(I)I"⟩)
def mX10_knocksOf : MInfo := (RX10, prog_12_method_43_code, 5, (some .int), ⟨RX10, "knocksOf", "(II)I"⟩)
def mX10_findTurn : MInfo := (RX10, prog_12_method_44_code, 11, (some .int), ⟨RX10, "findTurn", "(III)I"⟩)
def mX10_mended : MInfo := (RX10, prog_12_method_45_code, 6, (some .int), ⟨RX10, "mended", "(IIII)I"⟩)
def mJ6_bitCount_0f7a4 : MInfo := (RJ6, prog_13_method_49_code, 1, (some .int), ⟨RJ6, "bitCount", "(I)I"⟩)
def mJ13_bitCount_95d88 : MInfo := (RJ13, prog_14_method_50_code, 2, (some .int), ⟨RJ13, "bitCount", "(J)I"⟩)
def mJ9_abs_0f7a4 : MInfo := (RJ9, prog_15_method_59_code, 1, (some .int), ⟨RJ9, "abs", "(I)I"⟩)
def mJ9_max_7cf53 : MInfo := (RJ9, prog_15_method_65_code, 2, (some .int), ⟨RJ9, "max", "(II)I"⟩)
def mJ9_min_7cf53 : MInfo := (RJ9, prog_15_method_69_code, 2, (some .int), ⟨RJ9, "min", "(II)I"⟩)
def mJ7_fill_53178 : MInfo := (RJ7, prog_16_method_103_code, 4, none, ⟨RJ7, "fill", "([II)V"⟩)
def mL_law : MInfo := (RL, code, 4, (some .boolean), ⟨RL, "law", "([I)Z"⟩)
theorem mwX0_init : MW mX0_init 0 := ⟨tI 11 (by decide +kernel) rfl, tI 260 (by decide +kernel) rfl, ⟨by decide +kernel, by decide +kernel⟩, by decide +kernel, by decide +kernel⟩
theorem mwX0_forget : MW mX0_forget 0 := ⟨tI 11 (by decide +kernel) rfl, tI 536 (by decide +kernel) rfl, ⟨by decide +kernel, by decide +kernel⟩, by decide +kernel, by decide +kernel⟩
theorem mwX0_add : MW mX0_add 2 := ⟨tI 11 (by decide +kernel) rfl, tI 553 (by decide +kernel) rfl, ⟨by decide +kernel, by decide +kernel⟩, by decide +kernel, by decide +kernel⟩
theorem mwX0_faultsInEach : MW mX0_faultsInEach 0 := ⟨tI 11 (by decide +kernel) rfl, tI 571 (by decide +kernel) rfl, ⟨by decide +kernel, by decide +kernel⟩, by decide +kernel, by decide +kernel⟩
theorem mwX1_init : MW mX1_init 0 := ⟨tI 3 (by decide +kernel) rfl, tI 34 (by decide +kernel) rfl, ⟨by decide +kernel, by decide +kernel⟩, by decide +kernel, by decide +kernel⟩
theorem mwX1_has : MW mX1_has 1 := ⟨tI 3 (by decide +kernel) rfl, tI 315 (by decide +kernel) rfl, ⟨by decide +kernel, by decide +kernel⟩, by decide +kernel, by decide +kernel⟩
theorem mwX1_add : MW mX1_add 2 := ⟨tI 3 (by decide +kernel) rfl, tI 307 (by decide +kernel) rfl, ⟨by decide +kernel, by decide +kernel⟩, by decide +kernel, by decide +kernel⟩
theorem mwX1_lead : MW mX1_lead 3 := ⟨tI 3 (by decide +kernel) rfl, tI 319 (by decide +kernel) rfl, ⟨by decide +kernel, by decide +kernel⟩, by decide +kernel, by decide +kernel⟩
theorem mwX2_init : MW mX2_init 2 := ⟨tI 7 (by decide +kernel) rfl, tI 188 (by decide +kernel) rfl, ⟨by decide +kernel, by decide +kernel⟩, by decide +kernel, by decide +kernel⟩
theorem mwX2_begin : MW mX2_begin 0 := ⟨tI 7 (by decide +kernel) rfl, tI 442 (by decide +kernel) rfl, ⟨by decide +kernel, by decide +kernel⟩, by decide +kernel, by decide +kernel⟩
theorem mwX2_step : MW mX2_step 0 := ⟨tI 7 (by decide +kernel) rfl, tI 379 (by decide +kernel) rfl, ⟨by decide +kernel, by decide +kernel⟩, by decide +kernel, by decide +kernel⟩
theorem mwX2_takeDrips : MW mX2_takeDrips 0 := ⟨tI 7 (by decide +kernel) rfl, tI 383 (by decide +kernel) rfl, ⟨by decide +kernel, by decide +kernel⟩, by decide +kernel, by decide +kernel⟩
theorem mwX2_isHeldBack : MW mX2_isHeldBack 1 := ⟨tI 7 (by decide +kernel) rfl, tI 399 (by decide +kernel) rfl, ⟨by decide +kernel, by decide +kernel⟩, by decide +kernel, by decide +kernel⟩
theorem mwX2_takeFromPipes : MW mX2_takeFromPipes 0 := ⟨tI 7 (by decide +kernel) rfl, tI 414 (by decide +kernel) rfl, ⟨by decide +kernel, by decide +kernel⟩, by decide +kernel, by decide +kernel⟩
theorem mwX2_pour : MW mX2_pour 2 := ⟨tI 7 (by decide +kernel) rfl, tI 410 (by decide +kernel) rfl, ⟨by decide +kernel, by decide +kernel⟩, by decide +kernel, by decide +kernel⟩
theorem mwX2_dryUp : MW mX2_dryUp 0 := ⟨tI 7 (by decide +kernel) rfl, tI 419 (by decide +kernel) rfl, ⟨by decide +kernel, by decide +kernel⟩, by decide +kernel, by decide +kernel⟩
theorem mwX2_tipAll : MW mX2_tipAll 0 := ⟨tI 7 (by decide +kernel) rfl, tI 423 (by decide +kernel) rfl, ⟨by decide +kernel, by decide +kernel⟩, by decide +kernel, by decide +kernel⟩
theorem mwX2_tip : MW mX2_tip 1 := ⟨tI 7 (by decide +kernel) rfl, tI 427 (by decide +kernel) rfl, ⟨by decide +kernel, by decide +kernel⟩, by decide +kernel, by decide +kernel⟩
theorem mwX2_inPipes : MW mX2_inPipes 0 := ⟨tI 7 (by decide +kernel) rfl, tI 370 (by decide +kernel) rfl, ⟨by decide +kernel, by decide +kernel⟩, by decide +kernel, by decide +kernel⟩
theorem mwX2_isLike : MW mX2_isLike 1 := ⟨tI 7 (by decide +kernel) rfl, tI 472 (by decide +kernel) rfl, ⟨by decide +kernel, by decide +kernel⟩, by decide +kernel, by decide +kernel⟩
theorem mwX2_hasComing : MW mX2_hasComing 2 := ⟨tI 7 (by decide +kernel) rfl, tI 476 (by decide +kernel) rfl, ⟨by decide +kernel, by decide +kernel⟩, by decide +kernel, by decide +kernel⟩
theorem mwX3_init : MW mX3_init 0 := ⟨tI 5 (by decide +kernel) rfl, tI 96 (by decide +kernel) rfl, ⟨by decide +kernel, by decide +kernel⟩, by decide +kernel, by decide +kernel⟩
theorem mwX3_add : MW mX3_add 3 := ⟨tI 5 (by decide +kernel) rfl, tI 343 (by decide +kernel) rfl, ⟨by decide +kernel, by decide +kernel⟩, by decide +kernel, by decide +kernel⟩
theorem mwX3_sitOn : MW mX3_sitOn 2 := ⟨tI 5 (by decide +kernel) rfl, tI 403 (by decide +kernel) rfl, ⟨by decide +kernel, by decide +kernel⟩, by decide +kernel, by decide +kernel⟩
theorem mwX4_init : MW mX4_init 0 := ⟨tI 10 (by decide +kernel) rfl, tI 242 (by decide +kernel) rfl, ⟨by decide +kernel, by decide +kernel⟩, by decide +kernel, by decide +kernel⟩
theorem mwX4_note : MW mX4_note 2 := ⟨tI 10 (by decide +kernel) rfl, tI 520 (by decide +kernel) rfl, ⟨by decide +kernel, by decide +kernel⟩, by decide +kernel, by decide +kernel⟩
theorem mwX4_forget : MW mX4_forget 0 := ⟨tI 10 (by decide +kernel) rfl, tI 528 (by decide +kernel) rfl, ⟨by decide +kernel, by decide +kernel⟩, by decide +kernel, by decide +kernel⟩
theorem mwX4_agrees : MW mX4_agrees 2 := ⟨tI 10 (by decide +kernel) rfl, tI 549 (by decide +kernel) rfl, ⟨by decide +kernel, by decide +kernel⟩, by decide +kernel, by decide +kernel⟩
theorem mwX5_init : MW mX5_init 0 := ⟨tI 2 (by decide +kernel) rfl, tI 28 (by decide +kernel) rfl, ⟨by decide +kernel, by decide +kernel⟩, by decide +kernel, by decide +kernel⟩
theorem mwX5_isBeat : MW mX5_isBeat 1 := ⟨tI 2 (by decide +kernel) rfl, tI 467 (by decide +kernel) rfl, ⟨by decide +kernel, by decide +kernel⟩, by decide +kernel, by decide +kernel⟩
theorem mwX5_canFail : MW mX5_canFail 1 := ⟨tI 2 (by decide +kernel) rfl, tI 561 (by decide +kernel) rfl, ⟨by decide +kernel, by decide +kernel⟩, by decide +kernel, by decide +kernel⟩
theorem mwX6_init : MW mX6_init 0 := ⟨tI 6 (by decide +kernel) rfl, tI 116 (by decide +kernel) rfl, ⟨by decide +kernel, by decide +kernel⟩, by decide +kernel, by decide +kernel⟩
theorem mwX6_add : MW mX6_add 2 := ⟨tI 6 (by decide +kernel) rfl, tI 351 (by decide +kernel) rfl, ⟨by decide +kernel, by decide +kernel⟩, by decide +kernel, by decide +kernel⟩
theorem mwX6_wetAt : MW mX6_wetAt 1 := ⟨tI 6 (by decide +kernel) rfl, tI 387 (by decide +kernel) rfl, ⟨by decide +kernel, by decide +kernel⟩, by decide +kernel, by decide +kernel⟩
theorem mwX7_init : MW mX7_init 0 := ⟨tI 4 (by decide +kernel) rfl, tI 67 (by decide +kernel) rfl, ⟨by decide +kernel, by decide +kernel⟩, by decide +kernel, by decide +kernel⟩
theorem mwX7_has : MW mX7_has 1 := ⟨tI 4 (by decide +kernel) rfl, tI 335 (by decide +kernel) rfl, ⟨by decide +kernel, by decide +kernel⟩, by decide +kernel, by decide +kernel⟩
theorem mwX7_add : MW mX7_add 4 := ⟨tI 4 (by decide +kernel) rfl, tI 327 (by decide +kernel) rfl, ⟨by decide +kernel, by decide +kernel⟩, by decide +kernel, by decide +kernel⟩
theorem mwX7_isDue : MW mX7_isDue 2 := ⟨tI 4 (by decide +kernel) rfl, tI 392 (by decide +kernel) rfl, ⟨by decide +kernel, by decide +kernel⟩, by decide +kernel, by decide +kernel⟩
theorem mwX8_init : MW mX8_init 0 := ⟨tI 8 (by decide +kernel) rfl, tI 161 (by decide +kernel) rfl, ⟨by decide +kernel, by decide +kernel⟩, by decide +kernel, by decide +kernel⟩
theorem mwX8_reset : MW mX8_reset 1 := ⟨tI 8 (by decide +kernel) rfl, tI 451 (by decide +kernel) rfl, ⟨by decide +kernel, by decide +kernel⟩, by decide +kernel, by decide +kernel⟩
theorem mwX8_fail : MW mX8_fail 1 := ⟨tI 8 (by decide +kernel) rfl, tI 544 (by decide +kernel) rfl, ⟨by decide +kernel, by decide +kernel⟩, by decide +kernel, by decide +kernel⟩
theorem mwX9_init : MW mX9_init 0 := ⟨tI 1 (by decide +kernel) rfl, tI 20 (by decide +kernel) rfl, ⟨by decide +kernel, by decide +kernel⟩, by decide +kernel, by decide +kernel⟩
theorem mwX9_bucket : MW mX9_bucket 2 := ⟨tI 1 (by decide +kernel) rfl, tI 300 (by decide +kernel) rfl, ⟨by decide +kernel, by decide +kernel⟩, by decide +kernel, by decide +kernel⟩
theorem mwX9_pipe : MW mX9_pipe 3 := ⟨tI 1 (by decide +kernel) rfl, tI 311 (by decide +kernel) rfl, ⟨by decide +kernel, by decide +kernel⟩, by decide +kernel, by decide +kernel⟩
theorem mwX9_spout : MW mX9_spout 4 := ⟨tI 1 (by decide +kernel) rfl, tI 323 (by decide +kernel) rfl, ⟨by decide +kernel, by decide +kernel⟩, by decide +kernel, by decide +kernel⟩
theorem mwX9_turn : MW mX9_turn 2 := ⟨tI 1 (by decide +kernel) rfl, tI 331 (by decide +kernel) rfl, ⟨by decide +kernel, by decide +kernel⟩, by decide +kernel, by decide +kernel⟩
theorem mwX9_frog : MW mX9_frog 3 := ⟨tI 1 (by decide +kernel) rfl, tI 339 (by decide +kernel) rfl, ⟨by decide +kernel, by decide +kernel⟩, by decide +kernel, by decide +kernel⟩
theorem mwX9_weather : MW mX9_weather 2 := ⟨tI 1 (by decide +kernel) rfl, tI 347 (by decide +kernel) rfl, ⟨by decide +kernel, by decide +kernel⟩, by decide +kernel, by decide +kernel⟩
theorem mwX9_dry : MW mX9_dry 1 := ⟨tI 1 (by decide +kernel) rfl, tI 355 (by decide +kernel) rfl, ⟨by decide +kernel, by decide +kernel⟩, by decide +kernel, by decide +kernel⟩
theorem mwX9_told : MW mX9_told 2 := ⟨tI 1 (by decide +kernel) rfl, tI 359 (by decide +kernel) rfl, ⟨by decide +kernel, by decide +kernel⟩, by decide +kernel, by decide +kernel⟩
theorem mwX9_count : MW mX9_count 1 := ⟨tI 1 (by decide +kernel) rfl, tI 366 (by decide +kernel) rfl, ⟨by decide +kernel, by decide +kernel⟩, by decide +kernel, by decide +kernel⟩
theorem mwX9_tick : MW mX9_tick 1 := ⟨tI 1 (by decide +kernel) rfl, tI 375 (by decide +kernel) rfl, ⟨by decide +kernel, by decide +kernel⟩, by decide +kernel, by decide +kernel⟩
theorem mwX9_again : MW mX9_again 0 := ⟨tI 1 (by decide +kernel) rfl, tI 438 (by decide +kernel) rfl, ⟨by decide +kernel, by decide +kernel⟩, by decide +kernel, by decide +kernel⟩
theorem mwX9_row : MW mX9_row 2 := ⟨tI 1 (by decide +kernel) rfl, tI 446 (by decide +kernel) rfl, ⟨by decide +kernel, by decide +kernel⟩, by decide +kernel, by decide +kernel⟩
theorem mwX9_round : MW mX9_round 1 := ⟨tI 1 (by decide +kernel) rfl, tI 455 (by decide +kernel) rfl, ⟨by decide +kernel, by decide +kernel⟩, by decide +kernel, by decide +kernel⟩
theorem mwX9_meeting : MW mX9_meeting 2 := ⟨tI 1 (by decide +kernel) rfl, tI 484 (by decide +kernel) rfl, ⟨by decide +kernel, by decide +kernel⟩, by decide +kernel, by decide +kernel⟩
theorem mwX9_drip : MW mX9_drip 4 := ⟨tI 1 (by decide +kernel) rfl, tI 488 (by decide +kernel) rfl, ⟨by decide +kernel, by decide +kernel⟩, by decide +kernel, by decide +kernel⟩
theorem mwX9_hear : MW mX9_hear 2 := ⟨tI 1 (by decide +kernel) rfl, tI 516 (by decide +kernel) rfl, ⟨by decide +kernel, by decide +kernel⟩, by decide +kernel, by decide +kernel⟩
theorem mwX9_hush : MW mX9_hush 0 := ⟨tI 1 (by decide +kernel) rfl, tI 524 (by decide +kernel) rfl, ⟨by decide +kernel, by decide +kernel⟩, by decide +kernel, by decide +kernel⟩
theorem mwX9_blamed : MW mX9_blamed 1 := ⟨tI 1 (by decide +kernel) rfl, tI 532 (by decide +kernel) rfl, ⟨by decide +kernel, by decide +kernel⟩, by decide +kernel, by decide +kernel⟩
theorem mwX9_mended : MW mX9_mended 4 := ⟨tI 1 (by decide +kernel) rfl, tI 575 (by decide +kernel) rfl, ⟨by decide +kernel, by decide +kernel⟩, by decide +kernel, by decide +kernel⟩
theorem mwX9_within : MW mX9_within 3 := ⟨tI 1 (by decide +kernel) rfl, tI 303 (by decide +kernel) rfl, ⟨by decide +kernel, by decide +kernel⟩, by decide +kernel, by decide +kernel⟩
theorem mwX9_isRow : MW mX9_isRow 1 := ⟨tI 1 (by decide +kernel) rfl, tI 491 (by decide +kernel) rfl, ⟨by decide +kernel, by decide +kernel⟩, by decide +kernel, by decide +kernel⟩
theorem mwX9_goesInto : MW mX9_goesInto 2 := ⟨tI 1 (by decide +kernel) rfl, tI 395 (by decide +kernel) rfl, ⟨by decide +kernel, by decide +kernel⟩, by decide +kernel, by decide +kernel⟩
theorem mwX9_sum : MW mX9_sum 1 := ⟨tI 1 (by decide +kernel) rfl, tI 362 (by decide +kernel) rfl, ⟨by decide +kernel, by decide +kernel⟩, by decide +kernel, by decide +kernel⟩
theorem mwX9_roundLength : MW mX9_roundLength 0 := ⟨tI 1 (by decide +kernel) rfl, tI 459 (by decide +kernel) rfl, ⟨by decide +kernel, by decide +kernel⟩, by decide +kernel, by decide +kernel⟩
theorem mwX9_roundStart : MW mX9_roundStart 1 := ⟨tI 1 (by decide +kernel) rfl, tI 480 (by decide +kernel) rfl, ⟨by decide +kernel, by decide +kernel⟩, by decide +kernel, by decide +kernel⟩
theorem mwX9_runPlain : MW mX9_runPlain 2 := ⟨tI 1 (by decide +kernel) rfl, tI 463 (by decide +kernel) rfl, ⟨by decide +kernel, by decide +kernel⟩, by decide +kernel, by decide +kernel⟩
theorem mwX9_loneRow : MW mX9_loneRow 4 := ⟨tI 1 (by decide +kernel) rfl, tI 495 (by decide +kernel) rfl, ⟨by decide +kernel, by decide +kernel⟩, by decide +kernel, by decide +kernel⟩
theorem mwX9_offOf : MW mX9_offOf 2 := ⟨tI 1 (by decide +kernel) rfl, tI 499 (by decide +kernel) rfl, ⟨by decide +kernel, by decide +kernel⟩, by decide +kernel, by decide +kernel⟩
theorem mwX9_trySingleFaults : MW mX9_trySingleFaults 0 := ⟨tI 1 (by decide +kernel) rfl, tI 557 (by decide +kernel) rfl, ⟨by decide +kernel, by decide +kernel⟩, by decide +kernel, by decide +kernel⟩
theorem mwX9_tryPairsOfFaults : MW mX9_tryPairsOfFaults 0 := ⟨tI 1 (by decide +kernel) rfl, tI 567 (by decide +kernel) rfl, ⟨by decide +kernel, by decide +kernel⟩, by decide +kernel, by decide +kernel⟩
theorem mwX9_tryFaults : MW mX9_tryFaults 2 := ⟨tI 1 (by decide +kernel) rfl, tI 540 (by decide +kernel) rfl, ⟨by decide +kernel, by decide +kernel⟩, by decide +kernel, by decide +kernel⟩
theorem mwX9_leastWay : MW mX9_leastWay 3 := ⟨tI 1 (by decide +kernel) rfl, tI 579 (by decide +kernel) rfl, ⟨by decide +kernel, by decide +kernel⟩, by decide +kernel, by decide +kernel⟩
theorem mwX9_changeIn : MW mX9_changeIn 2 := ⟨tI 1 (by decide +kernel) rfl, tI 585 (by decide +kernel) rfl, ⟨by decide +kernel, by decide +kernel⟩, by decide +kernel, by decide +kernel⟩
theorem mwX9_sizeOf : MW mX9_sizeOf 1 := ⟨tI 1 (by decide +kernel) rfl, tI 582 (by decide +kernel) rfl, ⟨by decide +kernel, by decide +kernel⟩, by decide +kernel, by decide +kernel⟩
theorem mwX9_isOpen : MW mX9_isOpen 1 := ⟨tI 1 (by decide +kernel) rfl, tI 589 (by decide +kernel) rfl, ⟨by decide +kernel, by decide +kernel⟩, by decide +kernel, by decide +kernel⟩
theorem mwX9_knocksJust : MW mX9_knocksJust 4 := ⟨tI 1 (by decide +kernel) rfl, tI 593 (by decide +kernel) rfl, ⟨by decide +kernel, by decide +kernel⟩, by decide +kernel, by decide +kernel⟩
theorem mwX10_init : MW mX10_init 0 := ⟨tI 12 (by decide +kernel) rfl, tI 598 (by decide +kernel) rfl, ⟨by decide +kernel, by decide +kernel⟩, by decide +kernel, by decide +kernel⟩
theorem mwX10_in : MW mX10_in 3 := ⟨tI 12 (by decide +kernel) rfl, tI 717 (by decide +kernel) rfl, ⟨by decide +kernel, by decide +kernel⟩, by decide +kernel, by decide +kernel⟩
theorem mwX10_noBucket : MW mX10_noBucket 1 := ⟨tI 12 (by decide +kernel) rfl, tI 726 (by decide +kernel) rfl, ⟨by decide +kernel, by decide +kernel⟩, by decide +kernel, by decide +kernel⟩
theorem mwX10_noSpout : MW mX10_noSpout 1 := ⟨tI 12 (by decide +kernel) rfl, tI 739 (by decide +kernel) rfl, ⟨by decide +kernel, by decide +kernel⟩, by decide +kernel, by decide +kernel⟩
theorem mwX10_bucket : MW mX10_bucket 2 := ⟨tI 12 (by decide +kernel) rfl, tI 713 (by decide +kernel) rfl, ⟨by decide +kernel, by decide +kernel⟩, by decide +kernel, by decide +kernel⟩
theorem mwX10_pipe : MW mX10_pipe 3 := ⟨tI 12 (by decide +kernel) rfl, tI 722 (by decide +kernel) rfl, ⟨by decide +kernel, by decide +kernel⟩, by decide +kernel, by decide +kernel⟩
theorem mwX10_spout : MW mX10_spout 4 := ⟨tI 12 (by decide +kernel) rfl, tI 730 (by decide +kernel) rfl, ⟨by decide +kernel, by decide +kernel⟩, by decide +kernel, by decide +kernel⟩
theorem mwX10_turn : MW mX10_turn 2 := ⟨tI 12 (by decide +kernel) rfl, tI 735 (by decide +kernel) rfl, ⟨by decide +kernel, by decide +kernel⟩, by decide +kernel, by decide +kernel⟩
theorem mwX10_frog : MW mX10_frog 3 := ⟨tI 12 (by decide +kernel) rfl, tI 743 (by decide +kernel) rfl, ⟨by decide +kernel, by decide +kernel⟩, by decide +kernel, by decide +kernel⟩
theorem mwX10_weather : MW mX10_weather 2 := ⟨tI 12 (by decide +kernel) rfl, tI 748 (by decide +kernel) rfl, ⟨by decide +kernel, by decide +kernel⟩, by decide +kernel, by decide +kernel⟩
theorem mwX10_dry : MW mX10_dry 1 := ⟨tI 12 (by decide +kernel) rfl, tI 753 (by decide +kernel) rfl, ⟨by decide +kernel, by decide +kernel⟩, by decide +kernel, by decide +kernel⟩
theorem mwX10_isFault : MW mX10_isFault 1 := ⟨tI 12 (by decide +kernel) rfl, tI 787 (by decide +kernel) rfl, ⟨by decide +kernel, by decide +kernel⟩, by decide +kernel, by decide +kernel⟩
theorem mwX10_wetAt : MW mX10_wetAt 1 := ⟨tI 12 (by decide +kernel) rfl, tI 791 (by decide +kernel) rfl, ⟨by decide +kernel, by decide +kernel⟩, by decide +kernel, by decide +kernel⟩
theorem mwX10_hasFrog : MW mX10_hasFrog 2 := ⟨tI 12 (by decide +kernel) rfl, tI 783 (by decide +kernel) rfl, ⟨by decide +kernel, by decide +kernel⟩, by decide +kernel, by decide +kernel⟩
theorem mwX10_dripOf : MW mX10_dripOf 4 := ⟨tI 12 (by decide +kernel) rfl, tI 779 (by decide +kernel) rfl, ⟨by decide +kernel, by decide +kernel⟩, by decide +kernel, by decide +kernel⟩
theorem mwX10_come : MW mX10_come 4 := ⟨tI 12 (by decide +kernel) rfl, tI 795 (by decide +kernel) rfl, ⟨by decide +kernel, by decide +kernel⟩, by decide +kernel, by decide +kernel⟩
theorem mwX10_knock : MW mX10_knock 3 := ⟨tI 12 (by decide +kernel) rfl, tI 799 (by decide +kernel) rfl, ⟨by decide +kernel, by decide +kernel⟩, by decide +kernel, by decide +kernel⟩
theorem mwX10_step : MW mX10_step 3 := ⟨tI 12 (by decide +kernel) rfl, tI 775 (by decide +kernel) rfl, ⟨by decide +kernel, by decide +kernel⟩, by decide +kernel, by decide +kernel⟩
theorem mwX10_begin : MW mX10_begin 1 := ⟨tI 12 (by decide +kernel) rfl, tI 807 (by decide +kernel) rfl, ⟨by decide +kernel, by decide +kernel⟩, by decide +kernel, by decide +kernel⟩
theorem mwX10_onTheWay : MW mX10_onTheWay 1 := ⟨tI 12 (by decide +kernel) rfl, tI 762 (by decide +kernel) rfl, ⟨by decide +kernel, by decide +kernel⟩, by decide +kernel, by decide +kernel⟩
theorem mwX10_told : MW mX10_told 2 := ⟨tI 12 (by decide +kernel) rfl, tI 758 (by decide +kernel) rfl, ⟨by decide +kernel, by decide +kernel⟩, by decide +kernel, by decide +kernel⟩
theorem mwX10_count : MW mX10_count 1 := ⟨tI 12 (by decide +kernel) rfl, tI 766 (by decide +kernel) rfl, ⟨by decide +kernel, by decide +kernel⟩, by decide +kernel, by decide +kernel⟩
theorem mwX10_tick : MW mX10_tick 1 := ⟨tI 12 (by decide +kernel) rfl, tI 770 (by decide +kernel) rfl, ⟨by decide +kernel, by decide +kernel⟩, by decide +kernel, by decide +kernel⟩
theorem mwX10_again : MW mX10_again 0 := ⟨tI 12 (by decide +kernel) rfl, tI 803 (by decide +kernel) rfl, ⟨by decide +kernel, by decide +kernel⟩, by decide +kernel, by decide +kernel⟩
theorem mwX10_run : MW mX10_run 2 := ⟨tI 12 (by decide +kernel) rfl, tI 816 (by decide +kernel) rfl, ⟨by decide +kernel, by decide +kernel⟩, by decide +kernel, by decide +kernel⟩
theorem mwX10_row : MW mX10_row 2 := ⟨tI 12 (by decide +kernel) rfl, tI 811 (by decide +kernel) rfl, ⟨by decide +kernel, by decide +kernel⟩, by decide +kernel, by decide +kernel⟩
theorem mwX10_keep : MW mX10_keep 1 := ⟨tI 12 (by decide +kernel) rfl, tI 824 (by decide +kernel) rfl, ⟨by decide +kernel, by decide +kernel⟩, by decide +kernel, by decide +kernel⟩
theorem mwX10_isLike : MW mX10_isLike 2 := ⟨tI 12 (by decide +kernel) rfl, tI 832 (by decide +kernel) rfl, ⟨by decide +kernel, by decide +kernel⟩, by decide +kernel, by decide +kernel⟩
theorem mwX10_goesInto : MW mX10_goesInto 1 := ⟨tI 12 (by decide +kernel) rfl, tI 828 (by decide +kernel) rfl, ⟨by decide +kernel, by decide +kernel⟩, by decide +kernel, by decide +kernel⟩
theorem mwX10_round : MW mX10_round 1 := ⟨tI 12 (by decide +kernel) rfl, tI 820 (by decide +kernel) rfl, ⟨by decide +kernel, by decide +kernel⟩, by decide +kernel, by decide +kernel⟩
theorem mwX10_meeting : MW mX10_meeting 2 := ⟨tI 12 (by decide +kernel) rfl, tI 836 (by decide +kernel) rfl, ⟨by decide +kernel, by decide +kernel⟩, by decide +kernel, by decide +kernel⟩
theorem mwX10_ones : MW mX10_ones 1 := ⟨tI 12 (by decide +kernel) rfl, tI 854 (by decide +kernel) rfl, ⟨by decide +kernel, by decide +kernel⟩, by decide +kernel, by decide +kernel⟩
theorem mwX10_offOf : MW mX10_offOf 2 := ⟨tI 12 (by decide +kernel) rfl, tI 850 (by decide +kernel) rfl, ⟨by decide +kernel, by decide +kernel⟩, by decide +kernel, by decide +kernel⟩
theorem mwX10_loneRow : MW mX10_loneRow 4 := ⟨tI 12 (by decide +kernel) rfl, tI 847 (by decide +kernel) rfl, ⟨by decide +kernel, by decide +kernel⟩, by decide +kernel, by decide +kernel⟩
theorem mwX10_isRow : MW mX10_isRow 1 := ⟨tI 12 (by decide +kernel) rfl, tI 843 (by decide +kernel) rfl, ⟨by decide +kernel, by decide +kernel⟩, by decide +kernel, by decide +kernel⟩
theorem mwX10_drip : MW mX10_drip 4 := ⟨tI 12 (by decide +kernel) rfl, tI 840 (by decide +kernel) rfl, ⟨by decide +kernel, by decide +kernel⟩, by decide +kernel, by decide +kernel⟩
theorem mwX10_hear : MW mX10_hear 2 := ⟨tI 12 (by decide +kernel) rfl, tI 858 (by decide +kernel) rfl, ⟨by decide +kernel, by decide +kernel⟩, by decide +kernel, by decide +kernel⟩
theorem mwX10_hush : MW mX10_hush 0 := ⟨tI 12 (by decide +kernel) rfl, tI 863 (by decide +kernel) rfl, ⟨by decide +kernel, by decide +kernel⟩, by decide +kernel, by decide +kernel⟩
theorem mwX10_isFaulty : MW mX10_isFaulty 1 := ⟨tI 12 (by decide +kernel) rfl, tI 876 (by decide +kernel) rfl, ⟨by decide +kernel, by decide +kernel⟩, by decide +kernel, by decide +kernel⟩
theorem mwX10_fits : MW mX10_fits 2 := ⟨tI 12 (by decide +kernel) rfl, tI 872 (by decide +kernel) rfl, ⟨by decide +kernel, by decide +kernel⟩, by decide +kernel, by decide +kernel⟩
theorem mwX10_blamed : MW mX10_blamed 1 := ⟨tI 12 (by decide +kernel) rfl, tI 867 (by decide +kernel) rfl, ⟨by decide +kernel, by decide +kernel⟩, by decide +kernel, by decide +kernel⟩
theorem mwX10_knocksOf : MW mX10_knocksOf 2 := ⟨tI 12 (by decide +kernel) rfl, tI 888 (by decide +kernel) rfl, ⟨by decide +kernel, by decide +kernel⟩, by decide +kernel, by decide +kernel⟩
theorem mwX10_findTurn : MW mX10_findTurn 3 := ⟨tI 12 (by decide +kernel) rfl, tI 884 (by decide +kernel) rfl, ⟨by decide +kernel, by decide +kernel⟩, by decide +kernel, by decide +kernel⟩
theorem mwX10_mended : MW mX10_mended 4 := ⟨tI 12 (by decide +kernel) rfl, tI 880 (by decide +kernel) rfl, ⟨by decide +kernel, by decide +kernel⟩, by decide +kernel, by decide +kernel⟩
theorem mwJ6_bitCount_0f7a4 : MW mJ6_bitCount_0f7a4 1 := ⟨tI 14 (by decide +kernel) rfl, tI 431 (by decide +kernel) rfl, ⟨by decide +kernel, by decide +kernel⟩, by decide +kernel, by decide +kernel⟩
theorem mwJ13_bitCount_95d88 : MW mJ13_bitCount_95d88 1 := ⟨tI 15 (by decide +kernel) rfl, tI 503 (by decide +kernel) rfl, ⟨by decide +kernel, by decide +kernel⟩, by decide +kernel, by decide +kernel⟩
theorem mwJ9_abs_0f7a4 : MW mJ9_abs_0f7a4 1 := ⟨tI 13 (by decide +kernel) rfl, tI 509 (by decide +kernel) rfl, ⟨by decide +kernel, by decide +kernel⟩, by decide +kernel, by decide +kernel⟩
theorem mwJ9_max_7cf53 : MW mJ9_max_7cf53 2 := ⟨tI 13 (by decide +kernel) rfl, tI 406 (by decide +kernel) rfl, ⟨by decide +kernel, by decide +kernel⟩, by decide +kernel, by decide +kernel⟩
theorem mwJ9_min_7cf53 : MW mJ9_min_7cf53 2 := ⟨tI 13 (by decide +kernel) rfl, tI 512 (by decide +kernel) rfl, ⟨by decide +kernel, by decide +kernel⟩, by decide +kernel, by decide +kernel⟩
theorem mwJ7_fill_53178 : MW mJ7_fill_53178 2 := ⟨tI 9 (by decide +kernel) rfl, tI 194 (by decide +kernel) rfl, ⟨by decide +kernel, by decide +kernel⟩, by decide +kernel, by decide +kernel⟩
theorem flX1_24 : FL RX1 24 1 0 := ⟨RX1, TX1, 5, rfl, by decide, tI 36 (by decide +kernel) rfl, rfl, inX1⟩
theorem fpX1_24 : FP RX1 24 1 0 .int := ⟨RX1, TX1, 5, tyX1, rfl, by decide, tI 36 (by decide +kernel) rfl, rfl, inX1, tyX1_ok, nmX1, rfl, by decide +kernel⟩
theorem flX2_146 : FL RX2 146 1 0 := ⟨RX1, TX1, 5, rfl, by decide, tI 37 (by decide +kernel) rfl, rfl, inX1⟩
theorem fpX2_146 : FP RX2 146 1 0 .int := ⟨RX1, TX1, 5, tyX1, rfl, by decide, tI 37 (by decide +kernel) rfl, rfl, inX1, tyX1_ok, nmX1, rfl, by decide +kernel⟩
theorem flX9_143 : FL RX9 143 1 0 := ⟨RX1, TX1, 5, rfl, by decide, tI 38 (by decide +kernel) rfl, rfl, inX1⟩
theorem fpX9_143 : FP RX9 143 1 0 .int := ⟨RX1, TX1, 5, tyX1, rfl, by decide, tI 38 (by decide +kernel) rfl, rfl, inX1, tyX1_ok, nmX1, rfl, by decide +kernel⟩
theorem flX1_9 : FL RX1 9 1 1 := ⟨RX1, TX1, 5, rfl, by decide, tI 39 (by decide +kernel) rfl, rfl, inX1⟩
theorem flX2_149 : FL RX2 149 1 1 := ⟨RX1, TX1, 5, rfl, by decide, tI 40 (by decide +kernel) rfl, rfl, inX1⟩
theorem flX9_108 : FL RX9 108 1 1 := ⟨RX1, TX1, 5, rfl, by decide, tI 41 (by decide +kernel) rfl, rfl, inX1⟩
theorem flX1_15 : FL RX1 15 1 2 := ⟨RX1, TX1, 5, rfl, by decide, tI 42 (by decide +kernel) rfl, rfl, inX1⟩
theorem flX9_111 : FL RX9 111 1 2 := ⟨RX1, TX1, 5, rfl, by decide, tI 43 (by decide +kernel) rfl, rfl, inX1⟩
theorem flX2_169 : FL RX2 169 1 2 := ⟨RX1, TX1, 5, rfl, by decide, tI 44 (by decide +kernel) rfl, rfl, inX1⟩
theorem flX1_18 : FL RX1 18 1 3 := ⟨RX1, TX1, 5, rfl, by decide, tI 45 (by decide +kernel) rfl, rfl, inX1⟩
theorem flX9_114 : FL RX9 114 1 3 := ⟨RX1, TX1, 5, rfl, by decide, tI 46 (by decide +kernel) rfl, rfl, inX1⟩
theorem flX2_159 : FL RX2 159 1 3 := ⟨RX1, TX1, 5, rfl, by decide, tI 47 (by decide +kernel) rfl, rfl, inX1⟩
theorem flX1_21 : FL RX1 21 1 4 := ⟨RX1, TX1, 5, rfl, by decide, tI 48 (by decide +kernel) rfl, rfl, inX1⟩
theorem flX9_117 : FL RX9 117 1 4 := ⟨RX1, TX1, 5, rfl, by decide, tI 49 (by decide +kernel) rfl, rfl, inX1⟩
theorem flX2_166 : FL RX2 166 1 4 := ⟨RX1, TX1, 5, rfl, by decide, tI 50 (by decide +kernel) rfl, rfl, inX1⟩
theorem flX7_24 : FL RX7 24 7 0 := ⟨RX7, TX7, 5, rfl, by decide, tI 69 (by decide +kernel) rfl, rfl, inX7⟩
theorem fpX7_24 : FP RX7 24 7 0 .int := ⟨RX7, TX7, 5, tyX7, rfl, by decide, tI 69 (by decide +kernel) rfl, rfl, inX7, tyX7_ok, nmX7, rfl, by decide +kernel⟩
theorem flX5_39 : FL RX5 39 7 0 := ⟨RX7, TX7, 5, rfl, by decide, tI 70 (by decide +kernel) rfl, rfl, inX7⟩
theorem fpX5_39 : FP RX5 39 7 0 .int := ⟨RX7, TX7, 5, tyX7, rfl, by decide, tI 70 (by decide +kernel) rfl, rfl, inX7, tyX7_ok, nmX7, rfl, by decide +kernel⟩
theorem flX2_98 : FL RX2 98 7 0 := ⟨RX7, TX7, 5, rfl, by decide, tI 71 (by decide +kernel) rfl, rfl, inX7⟩
theorem fpX2_98 : FP RX2 98 7 0 .int := ⟨RX7, TX7, 5, tyX7, rfl, by decide, tI 71 (by decide +kernel) rfl, rfl, inX7, tyX7_ok, nmX7, rfl, by decide +kernel⟩
theorem flX9_146 : FL RX9 146 7 0 := ⟨RX7, TX7, 5, rfl, by decide, tI 72 (by decide +kernel) rfl, rfl, inX7⟩
theorem fpX9_146 : FP RX9 146 7 0 .int := ⟨RX7, TX7, 5, tyX7, rfl, by decide, tI 72 (by decide +kernel) rfl, rfl, inX7, tyX7_ok, nmX7, rfl, by decide +kernel⟩
theorem flX7_9 : FL RX7 9 7 1 := ⟨RX7, TX7, 5, rfl, by decide, tI 73 (by decide +kernel) rfl, rfl, inX7⟩
theorem flX2_122 : FL RX2 122 7 1 := ⟨RX7, TX7, 5, rfl, by decide, tI 74 (by decide +kernel) rfl, rfl, inX7⟩
theorem flX7_15 : FL RX7 15 7 2 := ⟨RX7, TX7, 5, rfl, by decide, tI 75 (by decide +kernel) rfl, rfl, inX7⟩
theorem flX2_110 : FL RX2 110 7 2 := ⟨RX7, TX7, 5, rfl, by decide, tI 76 (by decide +kernel) rfl, rfl, inX7⟩
theorem flX9_84 : FL RX9 84 7 2 := ⟨RX7, TX7, 5, rfl, by decide, tI 77 (by decide +kernel) rfl, rfl, inX7⟩
theorem flX7_18 : FL RX7 18 7 3 := ⟨RX7, TX7, 5, rfl, by decide, tI 78 (by decide +kernel) rfl, rfl, inX7⟩
theorem flX5_43 : FL RX5 43 7 3 := ⟨RX7, TX7, 5, rfl, by decide, tI 79 (by decide +kernel) rfl, rfl, inX7⟩
theorem flX7_21 : FL RX7 21 7 4 := ⟨RX7, TX7, 5, rfl, by decide, tI 80 (by decide +kernel) rfl, rfl, inX7⟩
theorem flX3_21 : FL RX3 21 3 0 := ⟨RX3, TX3, 4, rfl, by decide, tI 98 (by decide +kernel) rfl, rfl, inX3⟩
theorem fpX3_21 : FP RX3 21 3 0 .int := ⟨RX3, TX3, 4, tyX3, rfl, by decide, tI 98 (by decide +kernel) rfl, rfl, inX3, tyX3_ok, nmX3, rfl, by decide +kernel⟩
theorem flX9_147 : FL RX9 147 3 0 := ⟨RX3, TX3, 4, rfl, by decide, tI 99 (by decide +kernel) rfl, rfl, inX3⟩
theorem fpX9_147 : FP RX9 147 3 0 .int := ⟨RX3, TX3, 4, tyX3, rfl, by decide, tI 99 (by decide +kernel) rfl, rfl, inX3, tyX3_ok, nmX3, rfl, by decide +kernel⟩
theorem flX3_9 : FL RX3 9 3 1 := ⟨RX3, TX3, 4, rfl, by decide, tI 100 (by decide +kernel) rfl, rfl, inX3⟩
theorem flX3_15 : FL RX3 15 3 2 := ⟨RX3, TX3, 4, rfl, by decide, tI 101 (by decide +kernel) rfl, rfl, inX3⟩
theorem flX3_18 : FL RX3 18 3 3 := ⟨RX3, TX3, 4, rfl, by decide, tI 102 (by decide +kernel) rfl, rfl, inX3⟩
theorem flX6_18 : FL RX6 18 6 0 := ⟨RX6, TX6, 3, rfl, by decide, tI 118 (by decide +kernel) rfl, rfl, inX6⟩
theorem fpX6_18 : FP RX6 18 6 0 .int := ⟨RX6, TX6, 3, tyX6, rfl, by decide, tI 118 (by decide +kernel) rfl, rfl, inX6, tyX6_ok, nmX6, rfl, by decide +kernel⟩
theorem flX9_148 : FL RX9 148 6 0 := ⟨RX6, TX6, 3, rfl, by decide, tI 119 (by decide +kernel) rfl, rfl, inX6⟩
theorem fpX9_148 : FP RX9 148 6 0 .int := ⟨RX6, TX6, 3, tyX6, rfl, by decide, tI 119 (by decide +kernel) rfl, rfl, inX6, tyX6_ok, nmX6, rfl, by decide +kernel⟩
theorem flX6_9 : FL RX6 9 6 1 := ⟨RX6, TX6, 3, rfl, by decide, tI 120 (by decide +kernel) rfl, rfl, inX6⟩
theorem flX6_15 : FL RX6 15 6 2 := ⟨RX6, TX6, 3, rfl, by decide, tI 121 (by decide +kernel) rfl, rfl, inX6⟩
theorem flX5_12 : FL RX5 12 5 0 := ⟨RX5, TX5, 5, rfl, by decide, tI 129 (by decide +kernel) rfl, rfl, inX5⟩
theorem flX9_56 : FL RX9 56 5 0 := ⟨RX5, TX5, 5, rfl, by decide, tI 130 (by decide +kernel) rfl, rfl, inX5⟩
theorem flX2_142 : FL RX2 142 5 0 := ⟨RX5, TX5, 5, rfl, by decide, tI 131 (by decide +kernel) rfl, rfl, inX5⟩
theorem flX5_21 : FL RX5 21 5 1 := ⟨RX5, TX5, 5, rfl, by decide, tI 132 (by decide +kernel) rfl, rfl, inX5⟩
theorem flX2_94 : FL RX2 94 5 1 := ⟨RX5, TX5, 5, rfl, by decide, tI 133 (by decide +kernel) rfl, rfl, inX5⟩
theorem flX9_74 : FL RX9 74 5 1 := ⟨RX5, TX5, 5, rfl, by decide, tI 134 (by decide +kernel) rfl, rfl, inX5⟩
theorem flX5_28 : FL RX5 28 5 2 := ⟨RX5, TX5, 5, rfl, by decide, tI 135 (by decide +kernel) rfl, rfl, inX5⟩
theorem flX2_133 : FL RX2 133 5 2 := ⟨RX5, TX5, 5, rfl, by decide, tI 136 (by decide +kernel) rfl, rfl, inX5⟩
theorem flX9_88 : FL RX9 88 5 2 := ⟨RX5, TX5, 5, rfl, by decide, tI 137 (by decide +kernel) rfl, rfl, inX5⟩
theorem flX5_35 : FL RX5 35 5 3 := ⟨RX5, TX5, 5, rfl, by decide, tI 138 (by decide +kernel) rfl, rfl, inX5⟩
theorem flX2_84 : FL RX2 84 5 3 := ⟨RX5, TX5, 5, rfl, by decide, tI 139 (by decide +kernel) rfl, rfl, inX5⟩
theorem flX9_97 : FL RX9 97 5 3 := ⟨RX5, TX5, 5, rfl, by decide, tI 140 (by decide +kernel) rfl, rfl, inX5⟩
theorem flX5_51 : FL RX5 51 5 4 := ⟨RX5, TX5, 5, rfl, by decide, tI 141 (by decide +kernel) rfl, rfl, inX5⟩
theorem fpX5_51 : FP RX5 51 5 4 .int := ⟨RX5, TX5, 5, tyX5, rfl, by decide, tI 141 (by decide +kernel) rfl, rfl, inX5, tyX5_ok, nmX5, rfl, by decide +kernel⟩
theorem flX2_62 : FL RX2 62 5 4 := ⟨RX5, TX5, 5, rfl, by decide, tI 142 (by decide +kernel) rfl, rfl, inX5⟩
theorem fpX2_62 : FP RX2 62 5 4 .int := ⟨RX5, TX5, 5, tyX5, rfl, by decide, tI 142 (by decide +kernel) rfl, rfl, inX5, tyX5_ok, nmX5, rfl, by decide +kernel⟩
theorem flX9_104 : FL RX9 104 5 4 := ⟨RX5, TX5, 5, rfl, by decide, tI 143 (by decide +kernel) rfl, rfl, inX5⟩
theorem fpX9_104 : FP RX9 104 5 4 .int := ⟨RX5, TX5, 5, tyX5, rfl, by decide, tI 143 (by decide +kernel) rfl, rfl, inX5, tyX5_ok, nmX5, rfl, by decide +kernel⟩
theorem flX8_25 : FL RX8 25 8 0 := ⟨RX8, TX8, 5, rfl, by decide, tI 163 (by decide +kernel) rfl, rfl, inX8⟩
theorem fpX8_25 : FP RX8 25 8 0 .boolean := ⟨RX8, TX8, 5, tyX8, rfl, by decide, tI 163 (by decide +kernel) rfl, rfl, inX8, tyX8_ok, nmX8, rfl, by decide +kernel⟩
theorem flX2_78 : FL RX2 78 8 0 := ⟨RX8, TX8, 5, rfl, by decide, tI 164 (by decide +kernel) rfl, rfl, inX8⟩
theorem fpX2_78 : FP RX2 78 8 0 .boolean := ⟨RX8, TX8, 5, tyX8, rfl, by decide, tI 164 (by decide +kernel) rfl, rfl, inX8, tyX8_ok, nmX8, rfl, by decide +kernel⟩
theorem flX8_9 : FL RX8 9 8 1 := ⟨RX8, TX8, 5, rfl, by decide, tI 165 (by decide +kernel) rfl, rfl, inX8⟩
theorem flX2_113 : FL RX2 113 8 1 := ⟨RX8, TX8, 5, rfl, by decide, tI 166 (by decide +kernel) rfl, rfl, inX8⟩
theorem flX9_287 : FL RX9 287 8 1 := ⟨RX8, TX8, 5, rfl, by decide, tI 167 (by decide +kernel) rfl, rfl, inX8⟩
theorem flX8_15 : FL RX8 15 8 2 := ⟨RX8, TX8, 5, rfl, by decide, tI 168 (by decide +kernel) rfl, rfl, inX8⟩
theorem flX2_129 : FL RX2 129 8 2 := ⟨RX8, TX8, 5, rfl, by decide, tI 169 (by decide +kernel) rfl, rfl, inX8⟩
theorem flX8_19 : FL RX8 19 8 3 := ⟨RX8, TX8, 5, rfl, by decide, tI 170 (by decide +kernel) rfl, rfl, inX8⟩
theorem flX2_152 : FL RX2 152 8 3 := ⟨RX8, TX8, 5, rfl, by decide, tI 171 (by decide +kernel) rfl, rfl, inX8⟩
theorem flX8_22 : FL RX8 22 8 4 := ⟨RX8, TX8, 5, rfl, by decide, tI 172 (by decide +kernel) rfl, rfl, inX8⟩
theorem flX2_160 : FL RX2 160 8 4 := ⟨RX8, TX8, 5, rfl, by decide, tI 173 (by decide +kernel) rfl, rfl, inX8⟩
theorem mlX2_37 : SL RX2 37 mJ7_fill_53178 2 := ⟨mwJ7_fill_53178, tI 192 (by decide +kernel) rfl, tI 193 (by decide +kernel) rfl⟩
theorem flX2_29 : FL RX2 29 2 0 := ⟨RX2, TX2, 11, rfl, by decide, tI 195 (by decide +kernel) rfl, rfl, inX2⟩
theorem flX2_33 : FL RX2 33 2 1 := ⟨RX2, TX2, 11, rfl, by decide, tI 196 (by decide +kernel) rfl, rfl, inX2⟩
theorem flX2_43 : FL RX2 43 2 2 := ⟨RX2, TX2, 11, rfl, by decide, tI 197 (by decide +kernel) rfl, rfl, inX2⟩
theorem fpX2_43 : FP RX2 43 2 2 .int := ⟨RX2, TX2, 11, tyX2, rfl, by decide, tI 197 (by decide +kernel) rfl, rfl, inX2, tyX2_ok, nmX2, rfl, by decide +kernel⟩
theorem flX9_140 : FL RX9 140 2 2 := ⟨RX2, TX2, 11, rfl, by decide, tI 198 (by decide +kernel) rfl, rfl, inX2⟩
theorem fpX9_140 : FP RX9 140 2 2 .int := ⟨RX2, TX2, 11, tyX2, rfl, by decide, tI 198 (by decide +kernel) rfl, rfl, inX2, tyX2_ok, nmX2, rfl, by decide +kernel⟩
theorem flX2_47 : FL RX2 47 2 3 := ⟨RX2, TX2, 11, rfl, by decide, tI 199 (by decide +kernel) rfl, rfl, inX2⟩
theorem fpX2_47 : FP RX2 47 2 3 .int := ⟨RX2, TX2, 11, tyX2, rfl, by decide, tI 199 (by decide +kernel) rfl, rfl, inX2, tyX2_ok, nmX2, rfl, by decide +kernel⟩
theorem flX9_149 : FL RX9 149 2 3 := ⟨RX2, TX2, 11, rfl, by decide, tI 200 (by decide +kernel) rfl, rfl, inX2⟩
theorem fpX9_149 : FP RX9 149 2 3 .int := ⟨RX2, TX2, 11, tyX2, rfl, by decide, tI 200 (by decide +kernel) rfl, rfl, inX2, tyX2_ok, nmX2, rfl, by decide +kernel⟩
theorem flX2_50 : FL RX2 50 2 4 := ⟨RX2, TX2, 11, rfl, by decide, tI 201 (by decide +kernel) rfl, rfl, inX2⟩
theorem fpX2_50 : FP RX2 50 2 4 .int := ⟨RX2, TX2, 11, tyX2, rfl, by decide, tI 201 (by decide +kernel) rfl, rfl, inX2, tyX2_ok, nmX2, rfl, by decide +kernel⟩
theorem flX9_156 : FL RX9 156 2 4 := ⟨RX2, TX2, 11, rfl, by decide, tI 202 (by decide +kernel) rfl, rfl, inX2⟩
theorem fpX9_156 : FP RX9 156 2 4 .int := ⟨RX2, TX2, 11, tyX2, rfl, by decide, tI 202 (by decide +kernel) rfl, rfl, inX2, tyX2_ok, nmX2, rfl, by decide +kernel⟩
theorem flX2_53 : FL RX2 53 2 5 := ⟨RX2, TX2, 11, rfl, by decide, tI 203 (by decide +kernel) rfl, rfl, inX2⟩
theorem fpX2_53 : FP RX2 53 2 5 .int := ⟨RX2, TX2, 11, tyX2, rfl, by decide, tI 203 (by decide +kernel) rfl, rfl, inX2, tyX2_ok, nmX2, rfl, by decide +kernel⟩
theorem flX9_159 : FL RX9 159 2 5 := ⟨RX2, TX2, 11, rfl, by decide, tI 204 (by decide +kernel) rfl, rfl, inX2⟩
theorem fpX9_159 : FP RX9 159 2 5 .int := ⟨RX2, TX2, 11, tyX2, rfl, by decide, tI 204 (by decide +kernel) rfl, rfl, inX2, tyX2_ok, nmX2, rfl, by decide +kernel⟩
theorem flX2_9 : FL RX2 9 2 6 := ⟨RX2, TX2, 11, rfl, by decide, tI 205 (by decide +kernel) rfl, rfl, inX2⟩
theorem flX9_120 : FL RX9 120 2 6 := ⟨RX2, TX2, 11, rfl, by decide, tI 206 (by decide +kernel) rfl, rfl, inX2⟩
theorem flX2_15 : FL RX2 15 2 7 := ⟨RX2, TX2, 11, rfl, by decide, tI 207 (by decide +kernel) rfl, rfl, inX2⟩
theorem flX9_123 : FL RX9 123 2 7 := ⟨RX2, TX2, 11, rfl, by decide, tI 208 (by decide +kernel) rfl, rfl, inX2⟩
theorem flX2_18 : FL RX2 18 2 8 := ⟨RX2, TX2, 11, rfl, by decide, tI 209 (by decide +kernel) rfl, rfl, inX2⟩
theorem flX9_126 : FL RX9 126 2 8 := ⟨RX2, TX2, 11, rfl, by decide, tI 210 (by decide +kernel) rfl, rfl, inX2⟩
theorem flX2_21 : FL RX2 21 2 9 := ⟨RX2, TX2, 11, rfl, by decide, tI 211 (by decide +kernel) rfl, rfl, inX2⟩
theorem flX9_129 : FL RX9 129 2 9 := ⟨RX2, TX2, 11, rfl, by decide, tI 212 (by decide +kernel) rfl, rfl, inX2⟩
theorem flX2_26 : FL RX2 26 2 10 := ⟨RX2, TX2, 11, rfl, by decide, tI 213 (by decide +kernel) rfl, rfl, inX2⟩
theorem flX9_132 : FL RX9 132 2 10 := ⟨RX2, TX2, 11, rfl, by decide, tI 214 (by decide +kernel) rfl, rfl, inX2⟩
theorem flX4_19 : FL RX4 19 4 0 := ⟨RX4, TX4, 3, rfl, by decide, tI 244 (by decide +kernel) rfl, rfl, inX4⟩
theorem fpX4_19 : FP RX4 19 4 0 .int := ⟨RX4, TX4, 3, tyX4, rfl, by decide, tI 244 (by decide +kernel) rfl, rfl, inX4, tyX4_ok, nmX4, rfl, by decide +kernel⟩
theorem flX9_162 : FL RX9 162 4 0 := ⟨RX4, TX4, 3, rfl, by decide, tI 245 (by decide +kernel) rfl, rfl, inX4⟩
theorem fpX9_162 : FP RX9 162 4 0 .int := ⟨RX4, TX4, 3, tyX4, rfl, by decide, tI 245 (by decide +kernel) rfl, rfl, inX4, tyX4_ok, nmX4, rfl, by decide +kernel⟩
theorem flX4_9 : FL RX4 9 4 1 := ⟨RX4, TX4, 3, rfl, by decide, tI 246 (by decide +kernel) rfl, rfl, inX4⟩
theorem flX4_15 : FL RX4 15 4 2 := ⟨RX4, TX4, 3, rfl, by decide, tI 247 (by decide +kernel) rfl, rfl, inX4⟩
theorem flX0_9 : FL RX0 9 0 0 := ⟨RX0, TX0, 3, rfl, by decide, tI 262 (by decide +kernel) rfl, rfl, inX0⟩
theorem fpX0_9 : FP RX0 9 0 0 .int := ⟨RX0, TX0, 3, tyX0, rfl, by decide, tI 262 (by decide +kernel) rfl, rfl, inX0, tyX0_ok, nmX0, rfl, by decide +kernel⟩
theorem flX9_211 : FL RX9 211 0 0 := ⟨RX0, TX0, 3, rfl, by decide, tI 263 (by decide +kernel) rfl, rfl, inX0⟩
theorem fpX9_211 : FP RX9 211 0 0 .int := ⟨RX0, TX0, 3, tyX0, rfl, by decide, tI 263 (by decide +kernel) rfl, rfl, inX0, tyX0_ok, nmX0, rfl, by decide +kernel⟩
theorem flX0_15 : FL RX0 15 0 1 := ⟨RX0, TX0, 3, rfl, by decide, tI 264 (by decide +kernel) rfl, rfl, inX0⟩
theorem fpX0_15 : FP RX0 15 0 1 .int := ⟨RX0, TX0, 3, tyX0, rfl, by decide, tI 264 (by decide +kernel) rfl, rfl, inX0, tyX0_ok, nmX0, rfl, by decide +kernel⟩
theorem flX9_221 : FL RX9 221 0 1 := ⟨RX0, TX0, 3, rfl, by decide, tI 265 (by decide +kernel) rfl, rfl, inX0⟩
theorem fpX9_221 : FP RX9 221 0 1 .int := ⟨RX0, TX0, 3, tyX0, rfl, by decide, tI 265 (by decide +kernel) rfl, rfl, inX0, tyX0_ok, nmX0, rfl, by decide +kernel⟩
theorem flX0_18 : FL RX0 18 0 2 := ⟨RX0, TX0, 3, rfl, by decide, tI 266 (by decide +kernel) rfl, rfl, inX0⟩
theorem fpX0_18 : FP RX0 18 0 2 .int := ⟨RX0, TX0, 3, tyX0, rfl, by decide, tI 266 (by decide +kernel) rfl, rfl, inX0, tyX0_ok, nmX0, rfl, by decide +kernel⟩
theorem flX9_224 : FL RX9 224 0 2 := ⟨RX0, TX0, 3, rfl, by decide, tI 267 (by decide +kernel) rfl, rfl, inX0⟩
theorem fpX9_224 : FP RX9 224 0 2 .int := ⟨RX0, TX0, 3, tyX0, rfl, by decide, tI 267 (by decide +kernel) rfl, rfl, inX0, tyX0_ok, nmX0, rfl, by decide +kernel⟩
theorem flX9_12 : FL RX9 12 9 0 := ⟨RX9, TX9, 7, rfl, by decide, tI 275 (by decide +kernel) rfl, rfl, inX9⟩
theorem flX9_24 : FL RX9 24 9 1 := ⟨RX9, TX9, 7, rfl, by decide, tI 276 (by decide +kernel) rfl, rfl, inX9⟩
theorem flX9_28 : FL RX9 28 9 2 := ⟨RX9, TX9, 7, rfl, by decide, tI 277 (by decide +kernel) rfl, rfl, inX9⟩
theorem flX9_32 : FL RX9 32 9 3 := ⟨RX9, TX9, 7, rfl, by decide, tI 278 (by decide +kernel) rfl, rfl, inX9⟩
theorem flX9_35 : FL RX9 35 9 4 := ⟨RX9, TX9, 7, rfl, by decide, tI 279 (by decide +kernel) rfl, rfl, inX9⟩
theorem flX9_41 : FL RX9 41 9 5 := ⟨RX9, TX9, 7, rfl, by decide, tI 280 (by decide +kernel) rfl, rfl, inX9⟩
theorem flX9_48 : FL RX9 48 9 6 := ⟨RX9, TX9, 7, rfl, by decide, tI 281 (by decide +kernel) rfl, rfl, inX9⟩
theorem mlL_13 : VL RL 13 RX9 mX9_bucket 2 := ⟨mwX9_bucket, tI 297 (by decide +kernel) rfl, tI 298 (by decide +kernel) rfl, tI 299 (by decide +kernel) rfl⟩
theorem mlX9_52 : SL RX9 52 mX9_within 3 := ⟨mwX9_within, tI 301 (by decide +kernel) rfl, tI 302 (by decide +kernel) rfl⟩
theorem mlX9_60 : VL RX9 60 RX1 mX1_add 2 := ⟨mwX1_add, tI 304 (by decide +kernel) rfl, tI 305 (by decide +kernel) rfl, tI 306 (by decide +kernel) rfl⟩
theorem mlL_18 : VL RL 18 RX9 mX9_pipe 3 := ⟨mwX9_pipe, tI 308 (by decide +kernel) rfl, tI 309 (by decide +kernel) rfl, tI 310 (by decide +kernel) rfl⟩
theorem mlX9_66 : VL RX9 66 RX1 mX1_has 1 := ⟨mwX1_has, tI 312 (by decide +kernel) rfl, tI 313 (by decide +kernel) rfl, tI 314 (by decide +kernel) rfl⟩
theorem mlX9_70 : VL RX9 70 RX1 mX1_lead 3 := ⟨mwX1_lead, tI 316 (by decide +kernel) rfl, tI 317 (by decide +kernel) rfl, tI 318 (by decide +kernel) rfl⟩
theorem mlL_23 : VL RL 23 RX9 mX9_spout 4 := ⟨mwX9_spout, tI 320 (by decide +kernel) rfl, tI 321 (by decide +kernel) rfl, tI 322 (by decide +kernel) rfl⟩
theorem mlX9_78 : VL RX9 78 RX7 mX7_add 4 := ⟨mwX7_add, tI 324 (by decide +kernel) rfl, tI 325 (by decide +kernel) rfl, tI 326 (by decide +kernel) rfl⟩
theorem mlL_28 : VL RL 28 RX9 mX9_turn 2 := ⟨mwX9_turn, tI 328 (by decide +kernel) rfl, tI 329 (by decide +kernel) rfl, tI 330 (by decide +kernel) rfl⟩
theorem mlX9_83 : VL RX9 83 RX7 mX7_has 1 := ⟨mwX7_has, tI 332 (by decide +kernel) rfl, tI 333 (by decide +kernel) rfl, tI 334 (by decide +kernel) rfl⟩
theorem mlL_32 : VL RL 32 RX9 mX9_frog 3 := ⟨mwX9_frog, tI 336 (by decide +kernel) rfl, tI 337 (by decide +kernel) rfl, tI 338 (by decide +kernel) rfl⟩
theorem mlX9_92 : VL RX9 92 RX3 mX3_add 3 := ⟨mwX3_add, tI 340 (by decide +kernel) rfl, tI 341 (by decide +kernel) rfl, tI 342 (by decide +kernel) rfl⟩
theorem mlL_36 : VL RL 36 RX9 mX9_weather 2 := ⟨mwX9_weather, tI 344 (by decide +kernel) rfl, tI 345 (by decide +kernel) rfl, tI 346 (by decide +kernel) rfl⟩
theorem mlX9_101 : VL RX9 101 RX6 mX6_add 2 := ⟨mwX6_add, tI 348 (by decide +kernel) rfl, tI 349 (by decide +kernel) rfl, tI 350 (by decide +kernel) rfl⟩
theorem mlL_40 : VL RL 40 RX9 mX9_dry 1 := ⟨mwX9_dry, tI 352 (by decide +kernel) rfl, tI 353 (by decide +kernel) rfl, tI 354 (by decide +kernel) rfl⟩
theorem mlL_45 : VL RL 45 RX9 mX9_told 2 := ⟨mwX9_told, tI 356 (by decide +kernel) rfl, tI 357 (by decide +kernel) rfl, tI 358 (by decide +kernel) rfl⟩
theorem mlX9_136 : SL RX9 136 mX9_sum 1 := ⟨mwX9_sum, tI 360 (by decide +kernel) rfl, tI 361 (by decide +kernel) rfl⟩
theorem mlL_49 : VL RL 49 RX9 mX9_count 1 := ⟨mwX9_count, tI 363 (by decide +kernel) rfl, tI 364 (by decide +kernel) rfl, tI 365 (by decide +kernel) rfl⟩
theorem mlX9_152 : VL RX9 152 RX2 mX2_inPipes 0 := ⟨mwX2_inPipes, tI 367 (by decide +kernel) rfl, tI 368 (by decide +kernel) rfl, tI 369 (by decide +kernel) rfl⟩
theorem mlX2_172 : SN RX2 172 "TickGarden" mX9_sum 1 := ⟨mwX9_sum, by decide +kernel, tI 361 (by decide +kernel) rfl⟩
theorem mlL_53 : VL RL 53 RX9 mX9_tick 1 := ⟨mwX9_tick, tI 372 (by decide +kernel) rfl, tI 373 (by decide +kernel) rfl, tI 374 (by decide +kernel) rfl⟩
theorem mlX9_163 : VL RX9 163 RX2 mX2_step 0 := ⟨mwX2_step, tI 376 (by decide +kernel) rfl, tI 377 (by decide +kernel) rfl, tI 378 (by decide +kernel) rfl⟩
theorem mlX2_56 : VL RX2 56 RX2 mX2_takeDrips 0 := ⟨mwX2_takeDrips, tI 380 (by decide +kernel) rfl, tI 382 (by decide +kernel) rfl, sI 0 (by decide +kernel) rfl⟩
theorem mlX2_88 : VL RX2 88 RX6 mX6_wetAt 1 := ⟨mwX6_wetAt, tI 384 (by decide +kernel) rfl, tI 385 (by decide +kernel) rfl, tI 386 (by decide +kernel) rfl⟩
theorem mlX6_22 : SN RX6 22 "TickGarden" mX9_within 3 := ⟨mwX9_within, by decide +kernel, tI 302 (by decide +kernel) rfl⟩
theorem mlX2_103 : VL RX2 103 RX7 mX7_isDue 2 := ⟨mwX7_isDue, tI 389 (by decide +kernel) rfl, tI 390 (by decide +kernel) rfl, tI 391 (by decide +kernel) rfl⟩
theorem mlX7_28 : SN RX7 28 "TickGarden" mX9_goesInto 2 := ⟨mwX9_goesInto, by decide +kernel, tI 394 (by decide +kernel) rfl⟩
theorem mlX2_106 : VL RX2 106 RX2 mX2_isHeldBack 1 := ⟨mwX2_isHeldBack, tI 396 (by decide +kernel) rfl, tI 398 (by decide +kernel) rfl, sI 1 (by decide +kernel) rfl⟩
theorem mlX2_137 : VL RX2 137 RX3 mX3_sitOn 2 := ⟨mwX3_sitOn, tI 400 (by decide +kernel) rfl, tI 401 (by decide +kernel) rfl, tI 402 (by decide +kernel) rfl⟩
theorem mlX2_116 : SL RX2 116 mJ9_max_7cf53 2 := ⟨mwJ9_max_7cf53, tI 404 (by decide +kernel) rfl, tI 405 (by decide +kernel) rfl⟩
theorem mlX2_125 : VL RX2 125 RX2 mX2_pour 2 := ⟨mwX2_pour, tI 407 (by decide +kernel) rfl, tI 409 (by decide +kernel) rfl, sI 2 (by decide +kernel) rfl⟩
theorem mlX2_59 : VL RX2 59 RX2 mX2_takeFromPipes 0 := ⟨mwX2_takeFromPipes, tI 411 (by decide +kernel) rfl, tI 413 (by decide +kernel) rfl, sI 3 (by decide +kernel) rfl⟩
theorem mlX2_67 : SN RX2 67 "TickGarden" mX9_goesInto 2 := ⟨mwX9_goesInto, by decide +kernel, tI 394 (by decide +kernel) rfl⟩
theorem mlX2_71 : VL RX2 71 RX2 mX2_dryUp 0 := ⟨mwX2_dryUp, tI 416 (by decide +kernel) rfl, tI 418 (by decide +kernel) rfl, sI 4 (by decide +kernel) rfl⟩
theorem mlX2_74 : VL RX2 74 RX2 mX2_tipAll 0 := ⟨mwX2_tipAll, tI 420 (by decide +kernel) rfl, tI 422 (by decide +kernel) rfl, sI 5 (by decide +kernel) rfl⟩
theorem mlX2_155 : VL RX2 155 RX2 mX2_tip 1 := ⟨mwX2_tip, tI 424 (by decide +kernel) rfl, tI 426 (by decide +kernel) rfl, sI 6 (by decide +kernel) rfl⟩
theorem mlX2_163 : VL RX2 163 RX1 mX1_has 1 := ⟨mwX1_has, tI 428 (by decide +kernel) rfl, tI 313 (by decide +kernel) rfl, tI 314 (by decide +kernel) rfl⟩
theorem mlX9_166 : SL RX9 166 mJ6_bitCount_0f7a4 1 := ⟨mwJ6_bitCount_0f7a4, tI 429 (by decide +kernel) rfl, tI 430 (by decide +kernel) rfl⟩
theorem kcJ6_265 : KI RJ6 265 (1431655765) := tI 432 (by decide +kernel) rfl
theorem kcJ6_266 : KI RJ6 266 (858993459) := tI 433 (by decide +kernel) rfl
theorem kcJ6_267 : KI RJ6 267 (252645135) := tI 434 (by decide +kernel) rfl
theorem mlL_57 : VL RL 57 RX9 mX9_again 0 := ⟨mwX9_again, tI 435 (by decide +kernel) rfl, tI 436 (by decide +kernel) rfl, tI 437 (by decide +kernel) rfl⟩
theorem mlX9_172 : VL RX9 172 RX2 mX2_begin 0 := ⟨mwX2_begin, tI 439 (by decide +kernel) rfl, tI 440 (by decide +kernel) rfl, tI 441 (by decide +kernel) rfl⟩
theorem mlL_62 : VL RL 62 RX9 mX9_row 2 := ⟨mwX9_row, tI 443 (by decide +kernel) rfl, tI 444 (by decide +kernel) rfl, tI 445 (by decide +kernel) rfl⟩
theorem kcX9_175 : KL RX9 175 (-1001) := tI 447 (by decide +kernel) rfl
theorem mlX9_177 : VL RX9 177 RX8 mX8_reset 1 := ⟨mwX8_reset, tI 448 (by decide +kernel) rfl, tI 449 (by decide +kernel) rfl, tI 450 (by decide +kernel) rfl⟩
theorem mlL_67 : VL RL 67 RX9 mX9_round 1 := ⟨mwX9_round, tI 452 (by decide +kernel) rfl, tI 453 (by decide +kernel) rfl, tI 454 (by decide +kernel) rfl⟩
theorem mlX9_181 : VL RX9 181 RX9 mX9_roundLength 0 := ⟨mwX9_roundLength, tI 456 (by decide +kernel) rfl, tI 458 (by decide +kernel) rfl, sI 7 (by decide +kernel) rfl⟩
theorem mlX9_238 : VL RX9 238 RX9 mX9_runPlain 2 := ⟨mwX9_runPlain, tI 460 (by decide +kernel) rfl, tI 462 (by decide +kernel) rfl, sI 8 (by decide +kernel) rfl⟩
theorem mlX9_242 : VL RX9 242 RX5 mX5_isBeat 1 := ⟨mwX5_isBeat, tI 464 (by decide +kernel) rfl, tI 465 (by decide +kernel) rfl, tI 466 (by decide +kernel) rfl⟩
theorem mlX5_47 : SN RX5 47 "TickGarden" mX9_goesInto 2 := ⟨mwX9_goesInto, by decide +kernel, tI 394 (by decide +kernel) rfl⟩
theorem mlX9_245 : VL RX9 245 RX2 mX2_isLike 1 := ⟨mwX2_isLike, tI 469 (by decide +kernel) rfl, tI 470 (by decide +kernel) rfl, tI 471 (by decide +kernel) rfl⟩
theorem mlX2_176 : VL RX2 176 RX2 mX2_hasComing 2 := ⟨mwX2_hasComing, tI 473 (by decide +kernel) rfl, tI 475 (by decide +kernel) rfl, sI 9 (by decide +kernel) rfl⟩
theorem mlX9_184 : VL RX9 184 RX9 mX9_roundStart 1 := ⟨mwX9_roundStart, tI 477 (by decide +kernel) rfl, tI 479 (by decide +kernel) rfl, sI 10 (by decide +kernel) rfl⟩
theorem mlL_71 : VL RL 71 RX9 mX9_meeting 2 := ⟨mwX9_meeting, tI 481 (by decide +kernel) rfl, tI 482 (by decide +kernel) rfl, tI 483 (by decide +kernel) rfl⟩
theorem mlL_77 : VL RL 77 RX9 mX9_drip 4 := ⟨mwX9_drip, tI 485 (by decide +kernel) rfl, tI 486 (by decide +kernel) rfl, tI 487 (by decide +kernel) rfl⟩
theorem mlX9_187 : SL RX9 187 mX9_isRow 1 := ⟨mwX9_isRow, tI 489 (by decide +kernel) rfl, tI 490 (by decide +kernel) rfl⟩
theorem kcX9_236 : KL RX9 236 (-1152921504606846976) := tI 492 (by decide +kernel) rfl
theorem mlX9_191 : SL RX9 191 mX9_loneRow 4 := ⟨mwX9_loneRow, tI 493 (by decide +kernel) rfl, tI 494 (by decide +kernel) rfl⟩
theorem mlX9_249 : SL RX9 249 mX9_goesInto 2 := ⟨mwX9_goesInto, tI 496 (by decide +kernel) rfl, tI 394 (by decide +kernel) rfl⟩
theorem mlX9_195 : SL RX9 195 mX9_offOf 2 := ⟨mwX9_offOf, tI 497 (by decide +kernel) rfl, tI 498 (by decide +kernel) rfl⟩
theorem kcX9_253 : KL RX9 253 (1152921504606846975) := tI 500 (by decide +kernel) rfl
theorem mlX9_255 : SL RX9 255 mJ13_bitCount_95d88 1 := ⟨mwJ13_bitCount_95d88, tI 501 (by decide +kernel) rfl, tI 502 (by decide +kernel) rfl⟩
theorem kcJ13_314 : KL RJ13 314 (6148914691236517205) := tI 504 (by decide +kernel) rfl
theorem kcJ13_316 : KL RJ13 316 (3689348814741910323) := tI 505 (by decide +kernel) rfl
theorem kcJ13_318 : KL RJ13 318 (1085102592571150095) := tI 506 (by decide +kernel) rfl
theorem mlX9_260 : SL RX9 260 mJ9_abs_0f7a4 1 := ⟨mwJ9_abs_0f7a4, tI 507 (by decide +kernel) rfl, tI 508 (by decide +kernel) rfl⟩
theorem mlX9_265 : SL RX9 265 mJ9_min_7cf53 2 := ⟨mwJ9_min_7cf53, tI 510 (by decide +kernel) rfl, tI 511 (by decide +kernel) rfl⟩
theorem mlL_82 : VL RL 82 RX9 mX9_hear 2 := ⟨mwX9_hear, tI 513 (by decide +kernel) rfl, tI 514 (by decide +kernel) rfl, tI 515 (by decide +kernel) rfl⟩
theorem mlX9_199 : VL RX9 199 RX4 mX4_note 2 := ⟨mwX4_note, tI 517 (by decide +kernel) rfl, tI 518 (by decide +kernel) rfl, tI 519 (by decide +kernel) rfl⟩
theorem mlL_87 : VL RL 87 RX9 mX9_hush 0 := ⟨mwX9_hush, tI 521 (by decide +kernel) rfl, tI 522 (by decide +kernel) rfl, tI 523 (by decide +kernel) rfl⟩
theorem mlX9_203 : VL RX9 203 RX4 mX4_forget 0 := ⟨mwX4_forget, tI 525 (by decide +kernel) rfl, tI 526 (by decide +kernel) rfl, tI 527 (by decide +kernel) rfl⟩
theorem mlL_91 : VL RL 91 RX9 mX9_blamed 1 := ⟨mwX9_blamed, tI 529 (by decide +kernel) rfl, tI 530 (by decide +kernel) rfl, tI 531 (by decide +kernel) rfl⟩
theorem mlX9_206 : VL RX9 206 RX0 mX0_forget 0 := ⟨mwX0_forget, tI 533 (by decide +kernel) rfl, tI 534 (by decide +kernel) rfl, tI 535 (by decide +kernel) rfl⟩
theorem mlX9_207 : VL RX9 207 RX9 mX9_tryFaults 2 := ⟨mwX9_tryFaults, tI 537 (by decide +kernel) rfl, tI 539 (by decide +kernel) rfl, sI 11 (by decide +kernel) rfl⟩
theorem mlX9_271 : VL RX9 271 RX8 mX8_fail 1 := ⟨mwX8_fail, tI 541 (by decide +kernel) rfl, tI 542 (by decide +kernel) rfl, tI 543 (by decide +kernel) rfl⟩
theorem mlX8_29 : SN RX8 29 "TickGarden" mX9_within 3 := ⟨mwX9_within, by decide +kernel, tI 302 (by decide +kernel) rfl⟩
theorem mlX9_275 : VL RX9 275 RX4 mX4_agrees 2 := ⟨mwX4_agrees, tI 546 (by decide +kernel) rfl, tI 547 (by decide +kernel) rfl, tI 548 (by decide +kernel) rfl⟩
theorem mlX9_278 : VL RX9 278 RX0 mX0_add 2 := ⟨mwX0_add, tI 550 (by decide +kernel) rfl, tI 551 (by decide +kernel) rfl, tI 552 (by decide +kernel) rfl⟩
theorem mlX9_212 : VL RX9 212 RX9 mX9_trySingleFaults 0 := ⟨mwX9_trySingleFaults, tI 554 (by decide +kernel) rfl, tI 556 (by decide +kernel) rfl, sI 12 (by decide +kernel) rfl⟩
theorem mlX9_268 : VL RX9 268 RX5 mX5_canFail 1 := ⟨mwX5_canFail, tI 558 (by decide +kernel) rfl, tI 559 (by decide +kernel) rfl, tI 560 (by decide +kernel) rfl⟩
theorem mlX5_54 : VL RX5 54 RX7 mX7_has 1 := ⟨mwX7_has, tI 562 (by decide +kernel) rfl, tI 333 (by decide +kernel) rfl, tI 334 (by decide +kernel) rfl⟩
theorem mlX5_58 : VL RX5 58 RX1 mX1_has 1 := ⟨mwX1_has, tI 563 (by decide +kernel) rfl, tI 313 (by decide +kernel) rfl, tI 314 (by decide +kernel) rfl⟩
theorem mlX9_215 : VL RX9 215 RX9 mX9_tryPairsOfFaults 0 := ⟨mwX9_tryPairsOfFaults, tI 564 (by decide +kernel) rfl, tI 566 (by decide +kernel) rfl, sI 13 (by decide +kernel) rfl⟩
theorem mlX9_218 : VL RX9 218 RX0 mX0_faultsInEach 0 := ⟨mwX0_faultsInEach, tI 568 (by decide +kernel) rfl, tI 569 (by decide +kernel) rfl, tI 570 (by decide +kernel) rfl⟩
theorem mlL_95 : VL RL 95 RX9 mX9_mended 4 := ⟨mwX9_mended, tI 572 (by decide +kernel) rfl, tI 573 (by decide +kernel) rfl, tI 574 (by decide +kernel) rfl⟩
theorem mlX9_227 : VL RX9 227 RX9 mX9_leastWay 3 := ⟨mwX9_leastWay, tI 576 (by decide +kernel) rfl, tI 578 (by decide +kernel) rfl, sI 14 (by decide +kernel) rfl⟩
theorem mlX9_230 : SL RX9 230 mX9_sizeOf 1 := ⟨mwX9_sizeOf, tI 580 (by decide +kernel) rfl, tI 581 (by decide +kernel) rfl⟩
theorem mlX9_233 : SL RX9 233 mX9_changeIn 2 := ⟨mwX9_changeIn, tI 583 (by decide +kernel) rfl, tI 584 (by decide +kernel) rfl⟩
theorem mlX9_280 : VL RX9 280 RX9 mX9_isOpen 1 := ⟨mwX9_isOpen, tI 586 (by decide +kernel) rfl, tI 588 (by decide +kernel) rfl, sI 15 (by decide +kernel) rfl⟩
theorem mlX9_283 : VL RX9 283 RX9 mX9_knocksJust 4 := ⟨mwX9_knocksJust, tI 590 (by decide +kernel) rfl, tI 592 (by decide +kernel) rfl, sI 16 (by decide +kernel) rfl⟩
theorem kcX10_78 : KI RX10 78 (352176) := tI 600 (by decide +kernel) rfl
theorem flX10_92 : FL RX10 92 10 0 := ⟨RX10, TX10, 36, rfl, by decide, tI 601 (by decide +kernel) rfl, rfl, inX10⟩
theorem fpX10_92 : FP RX10 92 10 0 .int := ⟨RX10, TX10, 36, tyX10, rfl, by decide, tI 601 (by decide +kernel) rfl, rfl, inX10, tyX10_ok, nmX10, rfl, by decide +kernel⟩
theorem flX10_7 : FL RX10 7 10 1 := ⟨RX10, TX10, 36, rfl, by decide, tI 602 (by decide +kernel) rfl, rfl, inX10⟩
theorem flX10_13 : FL RX10 13 10 2 := ⟨RX10, TX10, 36, rfl, by decide, tI 603 (by decide +kernel) rfl, rfl, inX10⟩
theorem flX10_16 : FL RX10 16 10 3 := ⟨RX10, TX10, 36, rfl, by decide, tI 604 (by decide +kernel) rfl, rfl, inX10⟩
theorem flX10_19 : FL RX10 19 10 4 := ⟨RX10, TX10, 36, rfl, by decide, tI 605 (by decide +kernel) rfl, rfl, inX10⟩
theorem flX10_99 : FL RX10 99 10 5 := ⟨RX10, TX10, 36, rfl, by decide, tI 606 (by decide +kernel) rfl, rfl, inX10⟩
theorem fpX10_99 : FP RX10 99 10 5 .int := ⟨RX10, TX10, 36, tyX10, rfl, by decide, tI 606 (by decide +kernel) rfl, rfl, inX10, tyX10_ok, nmX10, rfl, by decide +kernel⟩
theorem flX10_22 : FL RX10 22 10 6 := ⟨RX10, TX10, 36, rfl, by decide, tI 607 (by decide +kernel) rfl, rfl, inX10⟩
theorem flX10_25 : FL RX10 25 10 7 := ⟨RX10, TX10, 36, rfl, by decide, tI 608 (by decide +kernel) rfl, rfl, inX10⟩
theorem flX10_28 : FL RX10 28 10 8 := ⟨RX10, TX10, 36, rfl, by decide, tI 609 (by decide +kernel) rfl, rfl, inX10⟩
theorem flX10_31 : FL RX10 31 10 9 := ⟨RX10, TX10, 36, rfl, by decide, tI 610 (by decide +kernel) rfl, rfl, inX10⟩
theorem flX10_117 : FL RX10 117 10 10 := ⟨RX10, TX10, 36, rfl, by decide, tI 611 (by decide +kernel) rfl, rfl, inX10⟩
theorem fpX10_117 : FP RX10 117 10 10 .int := ⟨RX10, TX10, 36, tyX10, rfl, by decide, tI 611 (by decide +kernel) rfl, rfl, inX10, tyX10_ok, nmX10, rfl, by decide +kernel⟩
theorem flX10_34 : FL RX10 34 10 11 := ⟨RX10, TX10, 36, rfl, by decide, tI 612 (by decide +kernel) rfl, rfl, inX10⟩
theorem flX10_37 : FL RX10 37 10 12 := ⟨RX10, TX10, 36, rfl, by decide, tI 613 (by decide +kernel) rfl, rfl, inX10⟩
theorem flX10_40 : FL RX10 40 10 13 := ⟨RX10, TX10, 36, rfl, by decide, tI 614 (by decide +kernel) rfl, rfl, inX10⟩
theorem flX10_122 : FL RX10 122 10 14 := ⟨RX10, TX10, 36, rfl, by decide, tI 615 (by decide +kernel) rfl, rfl, inX10⟩
theorem fpX10_122 : FP RX10 122 10 14 .int := ⟨RX10, TX10, 36, tyX10, rfl, by decide, tI 615 (by decide +kernel) rfl, rfl, inX10, tyX10_ok, nmX10, rfl, by decide +kernel⟩
theorem flX10_43 : FL RX10 43 10 15 := ⟨RX10, TX10, 36, rfl, by decide, tI 616 (by decide +kernel) rfl, rfl, inX10⟩
theorem flX10_46 : FL RX10 46 10 16 := ⟨RX10, TX10, 36, rfl, by decide, tI 617 (by decide +kernel) rfl, rfl, inX10⟩
theorem flX10_127 : FL RX10 127 10 17 := ⟨RX10, TX10, 36, rfl, by decide, tI 618 (by decide +kernel) rfl, rfl, inX10⟩
theorem fpX10_127 : FP RX10 127 10 17 .int := ⟨RX10, TX10, 36, tyX10, rfl, by decide, tI 618 (by decide +kernel) rfl, rfl, inX10, tyX10_ok, nmX10, rfl, by decide +kernel⟩
theorem flX10_49 : FL RX10 49 10 18 := ⟨RX10, TX10, 36, rfl, by decide, tI 619 (by decide +kernel) rfl, rfl, inX10⟩
theorem flX10_52 : FL RX10 52 10 19 := ⟨RX10, TX10, 36, rfl, by decide, tI 620 (by decide +kernel) rfl, rfl, inX10⟩
theorem flX10_55 : FL RX10 55 10 20 := ⟨RX10, TX10, 36, rfl, by decide, tI 621 (by decide +kernel) rfl, rfl, inX10⟩
theorem flX10_162 : FL RX10 162 10 21 := ⟨RX10, TX10, 36, rfl, by decide, tI 622 (by decide +kernel) rfl, rfl, inX10⟩
theorem fpX10_162 : FP RX10 162 10 21 .int := ⟨RX10, TX10, 36, tyX10, rfl, by decide, tI 622 (by decide +kernel) rfl, rfl, inX10, tyX10_ok, nmX10, rfl, by decide +kernel⟩
theorem flX10_168 : FL RX10 168 10 22 := ⟨RX10, TX10, 36, rfl, by decide, tI 623 (by decide +kernel) rfl, rfl, inX10⟩
theorem fpX10_168 : FP RX10 168 10 22 .int := ⟨RX10, TX10, 36, tyX10, rfl, by decide, tI 623 (by decide +kernel) rfl, rfl, inX10, tyX10_ok, nmX10, rfl, by decide +kernel⟩
theorem flX10_148 : FL RX10 148 10 23 := ⟨RX10, TX10, 36, rfl, by decide, tI 624 (by decide +kernel) rfl, rfl, inX10⟩
theorem fpX10_148 : FP RX10 148 10 23 .int := ⟨RX10, TX10, 36, tyX10, rfl, by decide, tI 624 (by decide +kernel) rfl, rfl, inX10, tyX10_ok, nmX10, rfl, by decide +kernel⟩
theorem flX10_141 : FL RX10 141 10 24 := ⟨RX10, TX10, 36, rfl, by decide, tI 625 (by decide +kernel) rfl, rfl, inX10⟩
theorem fpX10_141 : FP RX10 141 10 24 .int := ⟨RX10, TX10, 36, tyX10, rfl, by decide, tI 625 (by decide +kernel) rfl, rfl, inX10, tyX10_ok, nmX10, rfl, by decide +kernel⟩
theorem flX10_155 : FL RX10 155 10 25 := ⟨RX10, TX10, 36, rfl, by decide, tI 626 (by decide +kernel) rfl, rfl, inX10⟩
theorem fpX10_155 : FP RX10 155 10 25 .int := ⟨RX10, TX10, 36, tyX10, rfl, by decide, tI 626 (by decide +kernel) rfl, rfl, inX10, tyX10_ok, nmX10, rfl, by decide +kernel⟩
theorem flX10_58 : FL RX10 58 10 26 := ⟨RX10, TX10, 36, rfl, by decide, tI 627 (by decide +kernel) rfl, rfl, inX10⟩
theorem flX10_61 : FL RX10 61 10 27 := ⟨RX10, TX10, 36, rfl, by decide, tI 628 (by decide +kernel) rfl, rfl, inX10⟩
theorem flX10_64 : FL RX10 64 10 28 := ⟨RX10, TX10, 36, rfl, by decide, tI 629 (by decide +kernel) rfl, rfl, inX10⟩
theorem fpX10_64 : FP RX10 64 10 28 .int := ⟨RX10, TX10, 36, tyX10, rfl, by decide, tI 629 (by decide +kernel) rfl, rfl, inX10, tyX10_ok, nmX10, rfl, by decide +kernel⟩
theorem flX10_68 : FL RX10 68 10 29 := ⟨RX10, TX10, 36, rfl, by decide, tI 630 (by decide +kernel) rfl, rfl, inX10⟩
theorem fpX10_68 : FP RX10 68 10 29 .int := ⟨RX10, TX10, 36, tyX10, rfl, by decide, tI 630 (by decide +kernel) rfl, rfl, inX10, tyX10_ok, nmX10, rfl, by decide +kernel⟩
theorem flX10_71 : FL RX10 71 10 30 := ⟨RX10, TX10, 36, rfl, by decide, tI 631 (by decide +kernel) rfl, rfl, inX10⟩
theorem flX10_74 : FL RX10 74 10 31 := ⟨RX10, TX10, 36, rfl, by decide, tI 632 (by decide +kernel) rfl, rfl, inX10⟩
theorem flX10_79 : FL RX10 79 10 32 := ⟨RX10, TX10, 36, rfl, by decide, tI 633 (by decide +kernel) rfl, rfl, inX10⟩
theorem flX10_82 : FL RX10 82 10 33 := ⟨RX10, TX10, 36, rfl, by decide, tI 634 (by decide +kernel) rfl, rfl, inX10⟩
theorem flX10_86 : FL RX10 86 10 34 := ⟨RX10, TX10, 36, rfl, by decide, tI 635 (by decide +kernel) rfl, rfl, inX10⟩
theorem flX10_89 : FL RX10 89 10 35 := ⟨RX10, TX10, 36, rfl, by decide, tI 636 (by decide +kernel) rfl, rfl, inX10⟩
theorem mlL_17 : VL RL 17 RX10 mX10_bucket 2 := ⟨mwX10_bucket, tI 710 (by decide +kernel) rfl, tI 711 (by decide +kernel) rfl, tI 712 (by decide +kernel) rfl⟩
theorem kcX10_102 : KL RX10 102 (100) := tI 714 (by decide +kernel) rfl
theorem mlX10_95 : SL RX10 95 mX10_in 3 := ⟨mwX10_in, tI 715 (by decide +kernel) rfl, tI 716 (by decide +kernel) rfl⟩
theorem kcX10_104 : KL RX10 104 (20) := tI 718 (by decide +kernel) rfl
theorem mlL_22 : VL RL 22 RX10 mX10_pipe 3 := ⟨mwX10_pipe, tI 719 (by decide +kernel) rfl, tI 720 (by decide +kernel) rfl, tI 721 (by decide +kernel) rfl⟩
theorem mlX10_106 : VL RX10 106 RX10 mX10_noBucket 1 := ⟨mwX10_noBucket, tI 723 (by decide +kernel) rfl, tI 725 (by decide +kernel) rfl, sI 17 (by decide +kernel) rfl⟩
theorem mlL_27 : VL RL 27 RX10 mX10_spout 4 := ⟨mwX10_spout, tI 727 (by decide +kernel) rfl, tI 728 (by decide +kernel) rfl, tI 729 (by decide +kernel) rfl⟩
theorem kcX10_110 : KL RX10 110 (30) := tI 731 (by decide +kernel) rfl
theorem mlL_31 : VL RL 31 RX10 mX10_turn 2 := ⟨mwX10_turn, tI 732 (by decide +kernel) rfl, tI 733 (by decide +kernel) rfl, tI 734 (by decide +kernel) rfl⟩
theorem mlX10_112 : VL RX10 112 RX10 mX10_noSpout 1 := ⟨mwX10_noSpout, tI 736 (by decide +kernel) rfl, tI 738 (by decide +kernel) rfl, sI 18 (by decide +kernel) rfl⟩
theorem mlL_35 : VL RL 35 RX10 mX10_frog 3 := ⟨mwX10_frog, tI 740 (by decide +kernel) rfl, tI 741 (by decide +kernel) rfl, tI 742 (by decide +kernel) rfl⟩
theorem kcX10_115 : KL RX10 115 (2000) := tI 744 (by decide +kernel) rfl
theorem mlL_39 : VL RL 39 RX10 mX10_weather 2 := ⟨mwX10_weather, tI 745 (by decide +kernel) rfl, tI 746 (by decide +kernel) rfl, tI 747 (by decide +kernel) rfl⟩
theorem kcX10_120 : KL RX10 120 (-20) := tI 749 (by decide +kernel) rfl
theorem mlL_44 : VL RL 44 RX10 mX10_dry 1 := ⟨mwX10_dry, tI 750 (by decide +kernel) rfl, tI 751 (by decide +kernel) rfl, tI 752 (by decide +kernel) rfl⟩
theorem kcX10_125 : KL RX10 125 (50) := tI 754 (by decide +kernel) rfl
theorem mlL_48 : VL RL 48 RX10 mX10_told 2 := ⟨mwX10_told, tI 755 (by decide +kernel) rfl, tI 756 (by decide +kernel) rfl, tI 757 (by decide +kernel) rfl⟩
theorem mlX10_165 : VL RX10 165 RX10 mX10_onTheWay 1 := ⟨mwX10_onTheWay, tI 759 (by decide +kernel) rfl, tI 761 (by decide +kernel) rfl, sI 19 (by decide +kernel) rfl⟩
theorem mlL_52 : VL RL 52 RX10 mX10_count 1 := ⟨mwX10_count, tI 763 (by decide +kernel) rfl, tI 764 (by decide +kernel) rfl, tI 765 (by decide +kernel) rfl⟩
theorem mlL_56 : VL RL 56 RX10 mX10_tick 1 := ⟨mwX10_tick, tI 767 (by decide +kernel) rfl, tI 768 (by decide +kernel) rfl, tI 769 (by decide +kernel) rfl⟩
theorem kcX10_171 : KL RX10 171 (200) := tI 771 (by decide +kernel) rfl
theorem mlX10_173 : VL RX10 173 RX10 mX10_step 3 := ⟨mwX10_step, tI 772 (by decide +kernel) rfl, tI 774 (by decide +kernel) rfl, sI 20 (by decide +kernel) rfl⟩
theorem mlX10_144 : VL RX10 144 RX10 mX10_dripOf 4 := ⟨mwX10_dripOf, tI 776 (by decide +kernel) rfl, tI 778 (by decide +kernel) rfl, sI 21 (by decide +kernel) rfl⟩
theorem mlX10_130 : VL RX10 130 RX10 mX10_hasFrog 2 := ⟨mwX10_hasFrog, tI 780 (by decide +kernel) rfl, tI 782 (by decide +kernel) rfl, sI 22 (by decide +kernel) rfl⟩
theorem mlX10_134 : VL RX10 134 RX10 mX10_isFault 1 := ⟨mwX10_isFault, tI 784 (by decide +kernel) rfl, tI 786 (by decide +kernel) rfl, sI 23 (by decide +kernel) rfl⟩
theorem mlX10_137 : VL RX10 137 RX10 mX10_wetAt 1 := ⟨mwX10_wetAt, tI 788 (by decide +kernel) rfl, tI 790 (by decide +kernel) rfl, sI 24 (by decide +kernel) rfl⟩
theorem mlX10_151 : VL RX10 151 RX10 mX10_come 4 := ⟨mwX10_come, tI 792 (by decide +kernel) rfl, tI 794 (by decide +kernel) rfl, sI 25 (by decide +kernel) rfl⟩
theorem mlX10_158 : VL RX10 158 RX10 mX10_knock 3 := ⟨mwX10_knock, tI 796 (by decide +kernel) rfl, tI 798 (by decide +kernel) rfl, sI 26 (by decide +kernel) rfl⟩
theorem mlL_61 : VL RL 61 RX10 mX10_again 0 := ⟨mwX10_again, tI 800 (by decide +kernel) rfl, tI 801 (by decide +kernel) rfl, tI 802 (by decide +kernel) rfl⟩
theorem mlX10_177 : VL RX10 177 RX10 mX10_begin 1 := ⟨mwX10_begin, tI 804 (by decide +kernel) rfl, tI 806 (by decide +kernel) rfl, sI 27 (by decide +kernel) rfl⟩
theorem mlL_66 : VL RL 66 RX10 mX10_row 2 := ⟨mwX10_row, tI 808 (by decide +kernel) rfl, tI 809 (by decide +kernel) rfl, tI 810 (by decide +kernel) rfl⟩
theorem kcX10_181 : KL RX10 181 (-1001) := tI 812 (by decide +kernel) rfl
theorem mlX10_183 : VL RX10 183 RX10 mX10_run 2 := ⟨mwX10_run, tI 813 (by decide +kernel) rfl, tI 815 (by decide +kernel) rfl, sI 28 (by decide +kernel) rfl⟩
theorem mlL_70 : VL RL 70 RX10 mX10_round 1 := ⟨mwX10_round, tI 817 (by decide +kernel) rfl, tI 818 (by decide +kernel) rfl, tI 819 (by decide +kernel) rfl⟩
theorem mlX10_187 : VL RX10 187 RX10 mX10_keep 1 := ⟨mwX10_keep, tI 821 (by decide +kernel) rfl, tI 823 (by decide +kernel) rfl, sI 29 (by decide +kernel) rfl⟩
theorem mlX10_190 : VL RX10 190 RX10 mX10_goesInto 1 := ⟨mwX10_goesInto, tI 825 (by decide +kernel) rfl, tI 827 (by decide +kernel) rfl, sI 30 (by decide +kernel) rfl⟩
theorem mlX10_193 : VL RX10 193 RX10 mX10_isLike 2 := ⟨mwX10_isLike, tI 829 (by decide +kernel) rfl, tI 831 (by decide +kernel) rfl, sI 31 (by decide +kernel) rfl⟩
theorem mlL_74 : VL RL 74 RX10 mX10_meeting 2 := ⟨mwX10_meeting, tI 833 (by decide +kernel) rfl, tI 834 (by decide +kernel) rfl, tI 835 (by decide +kernel) rfl⟩
theorem mlL_81 : VL RL 81 RX10 mX10_drip 4 := ⟨mwX10_drip, tI 837 (by decide +kernel) rfl, tI 838 (by decide +kernel) rfl, tI 839 (by decide +kernel) rfl⟩
theorem mlX10_202 : SL RX10 202 mX10_isRow 1 := ⟨mwX10_isRow, tI 841 (by decide +kernel) rfl, tI 842 (by decide +kernel) rfl⟩
theorem kcX10_206 : KL RX10 206 (2) := tI 844 (by decide +kernel) rfl
theorem mlX10_208 : SL RX10 208 mX10_loneRow 4 := ⟨mwX10_loneRow, tI 845 (by decide +kernel) rfl, tI 846 (by decide +kernel) rfl⟩
theorem mlX10_212 : SL RX10 212 mX10_offOf 2 := ⟨mwX10_offOf, tI 848 (by decide +kernel) rfl, tI 849 (by decide +kernel) rfl⟩
theorem kcX10_196 : KL RX10 196 (1152921504606846975) := tI 851 (by decide +kernel) rfl
theorem mlX10_198 : SL RX10 198 mX10_ones 1 := ⟨mwX10_ones, tI 852 (by decide +kernel) rfl, tI 853 (by decide +kernel) rfl⟩
theorem mlL_86 : VL RL 86 RX10 mX10_hear 2 := ⟨mwX10_hear, tI 855 (by decide +kernel) rfl, tI 856 (by decide +kernel) rfl, tI 857 (by decide +kernel) rfl⟩
theorem mlX10_216 : VL RX10 216 RX10 mX10_count 1 := ⟨mwX10_count, tI 859 (by decide +kernel) rfl, tI 764 (by decide +kernel) rfl, tI 765 (by decide +kernel) rfl⟩
theorem mlL_90 : VL RL 90 RX10 mX10_hush 0 := ⟨mwX10_hush, tI 860 (by decide +kernel) rfl, tI 861 (by decide +kernel) rfl, tI 862 (by decide +kernel) rfl⟩
theorem mlL_94 : VL RL 94 RX10 mX10_blamed 1 := ⟨mwX10_blamed, tI 864 (by decide +kernel) rfl, tI 865 (by decide +kernel) rfl, tI 866 (by decide +kernel) rfl⟩
theorem kcX10_219 : KL RX10 219 (3) := tI 868 (by decide +kernel) rfl
theorem mlX10_221 : VL RX10 221 RX10 mX10_fits 2 := ⟨mwX10_fits, tI 869 (by decide +kernel) rfl, tI 871 (by decide +kernel) rfl, sI 32 (by decide +kernel) rfl⟩
theorem mlX10_224 : VL RX10 224 RX10 mX10_isFaulty 1 := ⟨mwX10_isFaulty, tI 873 (by decide +kernel) rfl, tI 875 (by decide +kernel) rfl, sI 33 (by decide +kernel) rfl⟩
theorem mlL_98 : VL RL 98 RX10 mX10_mended 4 := ⟨mwX10_mended, tI 877 (by decide +kernel) rfl, tI 878 (by decide +kernel) rfl, tI 879 (by decide +kernel) rfl⟩
theorem mlX10_231 : VL RX10 231 RX10 mX10_findTurn 3 := ⟨mwX10_findTurn, tI 881 (by decide +kernel) rfl, tI 883 (by decide +kernel) rfl, sI 34 (by decide +kernel) rfl⟩
theorem mlX10_227 : VL RX10 227 RX10 mX10_knocksOf 2 := ⟨mwX10_knocksOf, tI 885 (by decide +kernel) rfl, tI 887 (by decide +kernel) rfl, sI 35 (by decide +kernel) rfl⟩
theorem kcL_75 : KL RL 75 (4294967295) := tI 889 (by decide +kernel) rfl
end
section
theorem dX0_forget_0 : DC mX0_forget 0 (.aload_n 0) 1 := by decide +kernel
theorem dX0_forget_1 : DC mX0_forget 1 (.iconst 0) 1 := by decide +kernel
theorem dX0_forget_2 : DC mX0_forget 2 (.putfield 9) 3 := by decide +kernel
theorem dX0_forget_5 : DC mX0_forget 5 (.aload_n 0) 1 := by decide +kernel
theorem dX0_forget_6 : DC mX0_forget 6 (.iconst (-1)) 1 := by decide +kernel
theorem dX0_forget_7 : DC mX0_forget 7 (.putfield 15) 3 := by decide +kernel
theorem dX0_forget_10 : DC mX0_forget 10 (.aload_n 0) 1 := by decide +kernel
theorem dX0_forget_11 : DC mX0_forget 11 (.iconst (-1)) 1 := by decide +kernel
theorem dX0_forget_12 : DC mX0_forget 12 (.putfield 18) 3 := by decide +kernel
theorem dX0_forget_15 : DC mX0_forget 15 (.return_) 1 := by decide +kernel
theorem dX0_add_0 : DC mX0_add 0 (.aload_n 0) 1 := by decide +kernel
theorem dX0_add_1 : DC mX0_add 1 (.getfield 9) 3 := by decide +kernel
theorem dX0_add_4 : DC mX0_add 4 (.ifCond .ne 13) 3 := by decide +kernel
theorem dX0_add_7 : DC mX0_add 7 (.aload_n 0) 1 := by decide +kernel
theorem dX0_add_8 : DC mX0_add 8 (.iload_n 1) 1 := by decide +kernel
theorem dX0_add_9 : DC mX0_add 9 (.putfield 15) 3 := by decide +kernel
theorem dX0_add_12 : DC mX0_add 12 (.aload_n 0) 1 := by decide +kernel
theorem dX0_add_13 : DC mX0_add 13 (.iload_n 2) 1 := by decide +kernel
theorem dX0_add_14 : DC mX0_add 14 (.putfield 18) 3 := by decide +kernel
theorem dX0_add_17 : DC mX0_add 17 (.aload_n 0) 1 := by decide +kernel
theorem dX0_add_18 : DC mX0_add 18 (.dup) 1 := by decide +kernel
theorem dX0_add_19 : DC mX0_add 19 (.getfield 9) 3 := by decide +kernel
theorem dX0_add_22 : DC mX0_add 22 (.iconst 1) 1 := by decide +kernel
theorem dX0_add_23 : DC mX0_add 23 (.iadd) 1 := by decide +kernel
theorem dX0_add_24 : DC mX0_add 24 (.putfield 9) 3 := by decide +kernel
theorem dX0_add_27 : DC mX0_add 27 (.return_) 1 := by decide +kernel
theorem dX0_faultsInEach_0 : DC mX0_faultsInEach 0 (.aload_n 0) 1 := by decide +kernel
theorem dX0_faultsInEach_1 : DC mX0_faultsInEach 1 (.getfield 9) 3 := by decide +kernel
theorem dX0_faultsInEach_4 : DC mX0_faultsInEach 4 (.ifCond .ne 5) 3 := by decide +kernel
theorem dX0_faultsInEach_7 : DC mX0_faultsInEach 7 (.iconst (-1)) 1 := by decide +kernel
theorem dX0_faultsInEach_8 : DC mX0_faultsInEach 8 (.ireturn) 1 := by decide +kernel
theorem dX0_faultsInEach_9 : DC mX0_faultsInEach 9 (.aload_n 0) 1 := by decide +kernel
theorem dX0_faultsInEach_10 : DC mX0_faultsInEach 10 (.getfield 15) 3 := by decide +kernel
theorem dX0_faultsInEach_13 : DC mX0_faultsInEach 13 (.iconst (-1)) 1 := by decide +kernel
theorem dX0_faultsInEach_14 : DC mX0_faultsInEach 14 (.if_icmp .ne 7) 3 := by decide +kernel
theorem dX0_faultsInEach_17 : DC mX0_faultsInEach 17 (.iconst 0) 1 := by decide +kernel
theorem dX0_faultsInEach_18 : DC mX0_faultsInEach 18 (.goto 16) 3 := by decide +kernel
theorem dX0_faultsInEach_21 : DC mX0_faultsInEach 21 (.aload_n 0) 1 := by decide +kernel
theorem dX0_faultsInEach_22 : DC mX0_faultsInEach 22 (.getfield 18) 3 := by decide +kernel
theorem dX0_faultsInEach_25 : DC mX0_faultsInEach 25 (.iconst (-1)) 1 := by decide +kernel
theorem dX0_faultsInEach_26 : DC mX0_faultsInEach 26 (.if_icmp .ne 7) 3 := by decide +kernel
theorem dX0_faultsInEach_29 : DC mX0_faultsInEach 29 (.iconst 1) 1 := by decide +kernel
theorem dX0_faultsInEach_30 : DC mX0_faultsInEach 30 (.goto 4) 3 := by decide +kernel
theorem dX0_faultsInEach_33 : DC mX0_faultsInEach 33 (.iconst 2) 1 := by decide +kernel
theorem dX0_faultsInEach_34 : DC mX0_faultsInEach 34 (.ireturn) 1 := by decide +kernel
theorem dX1_has_0 : DC mX1_has 0 (.iload_n 1) 1 := by decide +kernel
theorem dX1_has_1 : DC mX1_has 1 (.ifCond .lt 15) 3 := by decide +kernel
theorem dX1_has_4 : DC mX1_has 4 (.iload_n 1) 1 := by decide +kernel
theorem dX1_has_5 : DC mX1_has 5 (.aload_n 0) 1 := by decide +kernel
theorem dX1_has_6 : DC mX1_has 6 (.getfield 24) 3 := by decide +kernel
theorem dX1_has_9 : DC mX1_has 9 (.if_icmp .ge 7) 3 := by decide +kernel
theorem dX1_has_12 : DC mX1_has 12 (.iconst 1) 1 := by decide +kernel
theorem dX1_has_13 : DC mX1_has 13 (.goto 4) 3 := by decide +kernel
theorem dX1_has_16 : DC mX1_has 16 (.iconst 0) 1 := by decide +kernel
theorem dX1_has_17 : DC mX1_has 17 (.ireturn) 1 := by decide +kernel
theorem dX1_add_0 : DC mX1_add 0 (.aload_n 0) 1 := by decide +kernel
theorem dX1_add_1 : DC mX1_add 1 (.getfield 24) 3 := by decide +kernel
theorem dX1_add_4 : DC mX1_add 4 (.bipush 8) 2 := by decide +kernel
theorem dX1_add_6 : DC mX1_add 6 (.if_icmp .lt 7) 3 := by decide +kernel
theorem dX1_add_9 : DC mX1_add 9 (.sipush (-1004)) 3 := by decide +kernel
theorem dX1_add_12 : DC mX1_add 12 (.ireturn) 1 := by decide +kernel
theorem dX1_add_13 : DC mX1_add 13 (.aload_n 0) 1 := by decide +kernel
theorem dX1_add_14 : DC mX1_add 14 (.getfield 9) 3 := by decide +kernel
theorem dX1_add_17 : DC mX1_add 17 (.aload_n 0) 1 := by decide +kernel
theorem dX1_add_18 : DC mX1_add 18 (.getfield 24) 3 := by decide +kernel
theorem dX1_add_21 : DC mX1_add 21 (.iload_n 1) 1 := by decide +kernel
theorem dX1_add_22 : DC mX1_add 22 (.iastore) 1 := by decide +kernel
theorem dX1_add_23 : DC mX1_add 23 (.aload_n 0) 1 := by decide +kernel
theorem dX1_add_24 : DC mX1_add 24 (.getfield 15) 3 := by decide +kernel
theorem dX1_add_27 : DC mX1_add 27 (.aload_n 0) 1 := by decide +kernel
theorem dX1_add_28 : DC mX1_add 28 (.getfield 24) 3 := by decide +kernel
theorem dX1_add_31 : DC mX1_add 31 (.iload_n 2) 1 := by decide +kernel
theorem dX1_add_32 : DC mX1_add 32 (.iastore) 1 := by decide +kernel
theorem dX1_add_33 : DC mX1_add 33 (.aload_n 0) 1 := by decide +kernel
theorem dX1_add_34 : DC mX1_add 34 (.getfield 18) 3 := by decide +kernel
theorem dX1_add_37 : DC mX1_add 37 (.aload_n 0) 1 := by decide +kernel
theorem dX1_add_38 : DC mX1_add 38 (.getfield 24) 3 := by decide +kernel
theorem dX1_add_41 : DC mX1_add 41 (.iconst (-1)) 1 := by decide +kernel
theorem dX1_add_42 : DC mX1_add 42 (.iastore) 1 := by decide +kernel
theorem dX1_add_43 : DC mX1_add 43 (.aload_n 0) 1 := by decide +kernel
theorem dX1_add_44 : DC mX1_add 44 (.dup) 1 := by decide +kernel
theorem dX1_add_45 : DC mX1_add 45 (.getfield 24) 3 := by decide +kernel
theorem dX1_add_48 : DC mX1_add 48 (.dup_x1) 1 := by decide +kernel
theorem dX1_add_49 : DC mX1_add 49 (.iconst 1) 1 := by decide +kernel
theorem dX1_add_50 : DC mX1_add 50 (.iadd) 1 := by decide +kernel
theorem dX1_add_51 : DC mX1_add 51 (.putfield 24) 3 := by decide +kernel
theorem dX1_add_54 : DC mX1_add 54 (.ireturn) 1 := by decide +kernel
theorem dX1_lead_0 : DC mX1_lead 0 (.aload_n 0) 1 := by decide +kernel
theorem dX1_lead_1 : DC mX1_lead 1 (.getfield 18) 3 := by decide +kernel
theorem dX1_lead_4 : DC mX1_lead 4 (.iload_n 1) 1 := by decide +kernel
theorem dX1_lead_5 : DC mX1_lead 5 (.iload_n 2) 1 := by decide +kernel
theorem dX1_lead_6 : DC mX1_lead 6 (.iastore) 1 := by decide +kernel
theorem dX1_lead_7 : DC mX1_lead 7 (.aload_n 0) 1 := by decide +kernel
theorem dX1_lead_8 : DC mX1_lead 8 (.getfield 21) 3 := by decide +kernel
theorem dX1_lead_11 : DC mX1_lead 11 (.iload_n 1) 1 := by decide +kernel
theorem dX1_lead_12 : DC mX1_lead 12 (.iload_n 3) 1 := by decide +kernel
theorem dX1_lead_13 : DC mX1_lead 13 (.iastore) 1 := by decide +kernel
theorem dX1_lead_14 : DC mX1_lead 14 (.return_) 1 := by decide +kernel
theorem dX2_begin_0 : DC mX2_begin 0 (.aload_n 0) 1 := by decide +kernel
theorem dX2_begin_1 : DC mX2_begin 1 (.iconst 0) 1 := by decide +kernel
theorem dX2_begin_2 : DC mX2_begin 2 (.putfield 43) 3 := by decide +kernel
theorem dX2_begin_5 : DC mX2_begin 5 (.aload_n 0) 1 := by decide +kernel
theorem dX2_begin_6 : DC mX2_begin 6 (.iconst 0) 1 := by decide +kernel
theorem dX2_begin_7 : DC mX2_begin 7 (.putfield 47) 3 := by decide +kernel
theorem dX2_begin_10 : DC mX2_begin 10 (.aload_n 0) 1 := by decide +kernel
theorem dX2_begin_11 : DC mX2_begin 11 (.iconst 0) 1 := by decide +kernel
theorem dX2_begin_12 : DC mX2_begin 12 (.putfield 50) 3 := by decide +kernel
theorem dX2_begin_15 : DC mX2_begin 15 (.aload_n 0) 1 := by decide +kernel
theorem dX2_begin_16 : DC mX2_begin 16 (.iconst 0) 1 := by decide +kernel
theorem dX2_begin_17 : DC mX2_begin 17 (.putfield 53) 3 := by decide +kernel
theorem dX2_begin_20 : DC mX2_begin 20 (.aload_n 0) 1 := by decide +kernel
theorem dX2_begin_21 : DC mX2_begin 21 (.getfield 9) 3 := by decide +kernel
theorem dX2_begin_24 : DC mX2_begin 24 (.iconst 0) 1 := by decide +kernel
theorem dX2_begin_25 : DC mX2_begin 25 (.invokestatic 37) 3 := by decide +kernel
theorem dX2_begin_28 : DC mX2_begin 28 (.aload_n 0) 1 := by decide +kernel
theorem dX2_begin_29 : DC mX2_begin 29 (.getfield 15) 3 := by decide +kernel
theorem dX2_begin_32 : DC mX2_begin 32 (.iconst 0) 1 := by decide +kernel
theorem dX2_begin_33 : DC mX2_begin 33 (.invokestatic 37) 3 := by decide +kernel
theorem dX2_begin_36 : DC mX2_begin 36 (.aload_n 0) 1 := by decide +kernel
theorem dX2_begin_37 : DC mX2_begin 37 (.getfield 18) 3 := by decide +kernel
theorem dX2_begin_40 : DC mX2_begin 40 (.iconst 0) 1 := by decide +kernel
theorem dX2_begin_41 : DC mX2_begin 41 (.invokestatic 37) 3 := by decide +kernel
theorem dX2_begin_44 : DC mX2_begin 44 (.aload_n 0) 1 := by decide +kernel
theorem dX2_begin_45 : DC mX2_begin 45 (.getfield 21) 3 := by decide +kernel
theorem dX2_begin_48 : DC mX2_begin 48 (.iconst (-1)) 1 := by decide +kernel
theorem dX2_begin_49 : DC mX2_begin 49 (.invokestatic 37) 3 := by decide +kernel
theorem dX2_begin_52 : DC mX2_begin 52 (.iconst 0) 1 := by decide +kernel
theorem dX2_begin_53 : DC mX2_begin 53 (.istore_n 1) 1 := by decide +kernel
theorem dX2_begin_54 : DC mX2_begin 54 (.iload_n 1) 1 := by decide +kernel
theorem dX2_begin_55 : DC mX2_begin 55 (.bipush 8) 2 := by decide +kernel
theorem dX2_begin_57 : DC mX2_begin 57 (.if_icmp .ge 19) 3 := by decide +kernel
theorem dX2_begin_60 : DC mX2_begin 60 (.aload_n 0) 1 := by decide +kernel
theorem dX2_begin_61 : DC mX2_begin 61 (.getfield 26) 3 := by decide +kernel
theorem dX2_begin_64 : DC mX2_begin 64 (.iload_n 1) 1 := by decide +kernel
theorem dX2_begin_65 : DC mX2_begin 65 (.aaload) 1 := by decide +kernel
theorem dX2_begin_66 : DC mX2_begin 66 (.iconst 0) 1 := by decide +kernel
theorem dX2_begin_67 : DC mX2_begin 67 (.invokestatic 37) 3 := by decide +kernel
theorem dX2_begin_70 : DC mX2_begin 70 (.iinc 1 1) 3 := by decide +kernel
theorem dX2_begin_73 : DC mX2_begin 73 (.goto (-19)) 3 := by decide +kernel
theorem dX2_begin_76 : DC mX2_begin 76 (.return_) 1 := by decide +kernel
theorem dX2_step_0 : DC mX2_step 0 (.aload_n 0) 1 := by decide +kernel
theorem dX2_step_1 : DC mX2_step 1 (.invokevirtual 56) 3 := by decide +kernel
theorem dX2_step_4 : DC mX2_step 4 (.aload_n 0) 1 := by decide +kernel
theorem dX2_step_5 : DC mX2_step 5 (.invokevirtual 59) 3 := by decide +kernel
theorem dX2_step_8 : DC mX2_step 8 (.aload_n 0) 1 := by decide +kernel
theorem dX2_step_9 : DC mX2_step 9 (.getfield 29) 3 := by decide +kernel
theorem dX2_step_12 : DC mX2_step 12 (.getfield 62) 3 := by decide +kernel
theorem dX2_step_15 : DC mX2_step 15 (.aload_n 0) 1 := by decide +kernel
theorem dX2_step_16 : DC mX2_step 16 (.getfield 43) 3 := by decide +kernel
theorem dX2_step_19 : DC mX2_step 19 (.invokestatic 67) 3 := by decide +kernel
theorem dX2_step_22 : DC mX2_step 22 (.ifCond .eq 7) 3 := by decide +kernel
theorem dX2_step_25 : DC mX2_step 25 (.aload_n 0) 1 := by decide +kernel
theorem dX2_step_26 : DC mX2_step 26 (.invokevirtual 71) 3 := by decide +kernel
theorem dX2_step_29 : DC mX2_step 29 (.aload_n 0) 1 := by decide +kernel
theorem dX2_step_30 : DC mX2_step 30 (.invokevirtual 74) 3 := by decide +kernel
theorem dX2_step_33 : DC mX2_step 33 (.istore_n 1) 1 := by decide +kernel
theorem dX2_step_34 : DC mX2_step 34 (.aload_n 0) 1 := by decide +kernel
theorem dX2_step_35 : DC mX2_step 35 (.dup) 1 := by decide +kernel
theorem dX2_step_36 : DC mX2_step 36 (.getfield 43) 3 := by decide +kernel
theorem dX2_step_39 : DC mX2_step 39 (.iconst 1) 1 := by decide +kernel
theorem dX2_step_40 : DC mX2_step 40 (.iadd) 1 := by decide +kernel
theorem dX2_step_41 : DC mX2_step 41 (.putfield 43) 3 := by decide +kernel
theorem dX2_step_44 : DC mX2_step 44 (.iload_n 1) 1 := by decide +kernel
theorem dX2_step_45 : DC mX2_step 45 (.ireturn) 1 := by decide +kernel
theorem dX2_takeDrips_0 : DC mX2_takeDrips 0 (.aload_n 0) 1 := by decide +kernel
theorem dX2_takeDrips_1 : DC mX2_takeDrips 1 (.getfield 33) 3 := by decide +kernel
theorem dX2_takeDrips_4 : DC mX2_takeDrips 4 (.getfield 78) 3 := by decide +kernel
theorem dX2_takeDrips_7 : DC mX2_takeDrips 7 (.ifCond .eq 7) 3 := by decide +kernel
theorem dX2_takeDrips_10 : DC mX2_takeDrips 10 (.iconst 0) 1 := by decide +kernel
theorem dX2_takeDrips_11 : DC mX2_takeDrips 11 (.goto 17) 3 := by decide +kernel
theorem dX2_takeDrips_14 : DC mX2_takeDrips 14 (.aload_n 0) 1 := by decide +kernel
theorem dX2_takeDrips_15 : DC mX2_takeDrips 15 (.getfield 29) 3 := by decide +kernel
theorem dX2_takeDrips_18 : DC mX2_takeDrips 18 (.getfield 84) 3 := by decide +kernel
theorem dX2_takeDrips_21 : DC mX2_takeDrips 21 (.aload_n 0) 1 := by decide +kernel
theorem dX2_takeDrips_22 : DC mX2_takeDrips 22 (.getfield 43) 3 := by decide +kernel
theorem dX2_takeDrips_25 : DC mX2_takeDrips 25 (.invokevirtual 88) 3 := by decide +kernel
theorem dX2_takeDrips_28 : DC mX2_takeDrips 28 (.istore_n 1) 1 := by decide +kernel
theorem dX2_takeDrips_29 : DC mX2_takeDrips 29 (.iconst 0) 1 := by decide +kernel
theorem dX2_takeDrips_30 : DC mX2_takeDrips 30 (.istore_n 2) 1 := by decide +kernel
theorem dX2_takeDrips_31 : DC mX2_takeDrips 31 (.iload_n 2) 1 := by decide +kernel
theorem dX2_takeDrips_32 : DC mX2_takeDrips 32 (.aload_n 0) 1 := by decide +kernel
theorem dX2_takeDrips_33 : DC mX2_takeDrips 33 (.getfield 29) 3 := by decide +kernel
theorem dX2_takeDrips_36 : DC mX2_takeDrips 36 (.getfield 94) 3 := by decide +kernel
theorem dX2_takeDrips_39 : DC mX2_takeDrips 39 (.getfield 98) 3 := by decide +kernel
theorem dX2_takeDrips_42 : DC mX2_takeDrips 42 (.if_icmp .ge 91) 3 := by decide +kernel
theorem dX2_takeDrips_45 : DC mX2_takeDrips 45 (.aload_n 0) 1 := by decide +kernel
theorem dX2_takeDrips_46 : DC mX2_takeDrips 46 (.getfield 29) 3 := by decide +kernel
theorem dX2_takeDrips_49 : DC mX2_takeDrips 49 (.getfield 94) 3 := by decide +kernel
theorem dX2_takeDrips_52 : DC mX2_takeDrips 52 (.iload_n 2) 1 := by decide +kernel
theorem dX2_takeDrips_53 : DC mX2_takeDrips 53 (.aload_n 0) 1 := by decide +kernel
theorem dX2_takeDrips_54 : DC mX2_takeDrips 54 (.getfield 43) 3 := by decide +kernel
theorem dX2_takeDrips_57 : DC mX2_takeDrips 57 (.invokevirtual 103) 3 := by decide +kernel
theorem dX2_takeDrips_60 : DC mX2_takeDrips 60 (.ifCond .eq 67) 3 := by decide +kernel
theorem dX2_takeDrips_63 : DC mX2_takeDrips 63 (.aload_n 0) 1 := by decide +kernel
theorem dX2_takeDrips_64 : DC mX2_takeDrips 64 (.iload_n 2) 1 := by decide +kernel
theorem dX2_takeDrips_65 : DC mX2_takeDrips 65 (.invokevirtual 106) 3 := by decide +kernel
theorem dX2_takeDrips_68 : DC mX2_takeDrips 68 (.ifCond .ne 59) 3 := by decide +kernel
theorem dX2_takeDrips_71 : DC mX2_takeDrips 71 (.iconst 0) 1 := by decide +kernel
theorem dX2_takeDrips_72 : DC mX2_takeDrips 72 (.aload_n 0) 1 := by decide +kernel
theorem dX2_takeDrips_73 : DC mX2_takeDrips 73 (.getfield 29) 3 := by decide +kernel
theorem dX2_takeDrips_76 : DC mX2_takeDrips 76 (.getfield 94) 3 := by decide +kernel
theorem dX2_takeDrips_79 : DC mX2_takeDrips 79 (.getfield 110) 3 := by decide +kernel
theorem dX2_takeDrips_82 : DC mX2_takeDrips 82 (.iload_n 2) 1 := by decide +kernel
theorem dX2_takeDrips_83 : DC mX2_takeDrips 83 (.iaload) 1 := by decide +kernel
theorem dX2_takeDrips_84 : DC mX2_takeDrips 84 (.aload_n 0) 1 := by decide +kernel
theorem dX2_takeDrips_85 : DC mX2_takeDrips 85 (.getfield 33) 3 := by decide +kernel
theorem dX2_takeDrips_88 : DC mX2_takeDrips 88 (.getfield 113) 3 := by decide +kernel
theorem dX2_takeDrips_91 : DC mX2_takeDrips 91 (.iload_n 2) 1 := by decide +kernel
theorem dX2_takeDrips_92 : DC mX2_takeDrips 92 (.iaload) 1 := by decide +kernel
theorem dX2_takeDrips_93 : DC mX2_takeDrips 93 (.iadd) 1 := by decide +kernel
theorem dX2_takeDrips_94 : DC mX2_takeDrips 94 (.iload_n 1) 1 := by decide +kernel
theorem dX2_takeDrips_95 : DC mX2_takeDrips 95 (.iadd) 1 := by decide +kernel
theorem dX2_takeDrips_96 : DC mX2_takeDrips 96 (.invokestatic 116) 3 := by decide +kernel
theorem dX2_takeDrips_99 : DC mX2_takeDrips 99 (.istore_n 3) 1 := by decide +kernel
theorem dX2_takeDrips_100 : DC mX2_takeDrips 100 (.aload_n 0) 1 := by decide +kernel
theorem dX2_takeDrips_101 : DC mX2_takeDrips 101 (.dup) 1 := by decide +kernel
theorem dX2_takeDrips_102 : DC mX2_takeDrips 102 (.getfield 47) 3 := by decide +kernel
theorem dX2_takeDrips_105 : DC mX2_takeDrips 105 (.iload_n 3) 1 := by decide +kernel
theorem dX2_takeDrips_106 : DC mX2_takeDrips 106 (.iadd) 1 := by decide +kernel
theorem dX2_takeDrips_107 : DC mX2_takeDrips 107 (.putfield 47) 3 := by decide +kernel
theorem dX2_takeDrips_110 : DC mX2_takeDrips 110 (.aload_n 0) 1 := by decide +kernel
theorem dX2_takeDrips_111 : DC mX2_takeDrips 111 (.aload_n 0) 1 := by decide +kernel
theorem dX2_takeDrips_112 : DC mX2_takeDrips 112 (.getfield 29) 3 := by decide +kernel
theorem dX2_takeDrips_115 : DC mX2_takeDrips 115 (.getfield 94) 3 := by decide +kernel
theorem dX2_takeDrips_118 : DC mX2_takeDrips 118 (.getfield 122) 3 := by decide +kernel
theorem dX2_takeDrips_121 : DC mX2_takeDrips 121 (.iload_n 2) 1 := by decide +kernel
theorem dX2_takeDrips_122 : DC mX2_takeDrips 122 (.iaload) 1 := by decide +kernel
theorem dX2_takeDrips_123 : DC mX2_takeDrips 123 (.iload_n 3) 1 := by decide +kernel
theorem dX2_takeDrips_124 : DC mX2_takeDrips 124 (.invokevirtual 125) 3 := by decide +kernel
theorem dX2_takeDrips_127 : DC mX2_takeDrips 127 (.iinc 2 1) 3 := by decide +kernel
theorem dX2_takeDrips_130 : DC mX2_takeDrips 130 (.goto (-99)) 3 := by decide +kernel
theorem dX2_takeDrips_133 : DC mX2_takeDrips 133 (.return_) 1 := by decide +kernel
theorem dX2_isHeldBack_0 : DC mX2_isHeldBack 0 (.aload_n 0) 1 := by decide +kernel
theorem dX2_isHeldBack_1 : DC mX2_isHeldBack 1 (.getfield 33) 3 := by decide +kernel
theorem dX2_isHeldBack_4 : DC mX2_isHeldBack 4 (.getfield 129) 3 := by decide +kernel
theorem dX2_isHeldBack_7 : DC mX2_isHeldBack 7 (.iload_n 1) 1 := by decide +kernel
theorem dX2_isHeldBack_8 : DC mX2_isHeldBack 8 (.baload) 1 := by decide +kernel
theorem dX2_isHeldBack_9 : DC mX2_isHeldBack 9 (.ifCond .ne 31) 3 := by decide +kernel
theorem dX2_isHeldBack_12 : DC mX2_isHeldBack 12 (.aload_n 0) 1 := by decide +kernel
theorem dX2_isHeldBack_13 : DC mX2_isHeldBack 13 (.getfield 33) 3 := by decide +kernel
theorem dX2_isHeldBack_16 : DC mX2_isHeldBack 16 (.getfield 78) 3 := by decide +kernel
theorem dX2_isHeldBack_19 : DC mX2_isHeldBack 19 (.ifCond .ne 25) 3 := by decide +kernel
theorem dX2_isHeldBack_22 : DC mX2_isHeldBack 22 (.aload_n 0) 1 := by decide +kernel
theorem dX2_isHeldBack_23 : DC mX2_isHeldBack 23 (.getfield 29) 3 := by decide +kernel
theorem dX2_isHeldBack_26 : DC mX2_isHeldBack 26 (.getfield 133) 3 := by decide +kernel
theorem dX2_isHeldBack_29 : DC mX2_isHeldBack 29 (.iload_n 1) 1 := by decide +kernel
theorem dX2_isHeldBack_30 : DC mX2_isHeldBack 30 (.aload_n 0) 1 := by decide +kernel
theorem dX2_isHeldBack_31 : DC mX2_isHeldBack 31 (.getfield 43) 3 := by decide +kernel
theorem dX2_isHeldBack_34 : DC mX2_isHeldBack 34 (.invokevirtual 137) 3 := by decide +kernel
theorem dX2_isHeldBack_37 : DC mX2_isHeldBack 37 (.ifCond .eq 7) 3 := by decide +kernel
theorem dX2_isHeldBack_40 : DC mX2_isHeldBack 40 (.iconst 1) 1 := by decide +kernel
theorem dX2_isHeldBack_41 : DC mX2_isHeldBack 41 (.goto 4) 3 := by decide +kernel
theorem dX2_isHeldBack_44 : DC mX2_isHeldBack 44 (.iconst 0) 1 := by decide +kernel
theorem dX2_isHeldBack_45 : DC mX2_isHeldBack 45 (.ireturn) 1 := by decide +kernel
theorem dX2_takeFromPipes_0 : DC mX2_takeFromPipes 0 (.aload_n 0) 1 := by decide +kernel
theorem dX2_takeFromPipes_1 : DC mX2_takeFromPipes 1 (.getfield 43) 3 := by decide +kernel
theorem dX2_takeFromPipes_4 : DC mX2_takeFromPipes 4 (.bipush 20) 2 := by decide +kernel
theorem dX2_takeFromPipes_6 : DC mX2_takeFromPipes 6 (.irem) 1 := by decide +kernel
theorem dX2_takeFromPipes_7 : DC mX2_takeFromPipes 7 (.istore_n 1) 1 := by decide +kernel
theorem dX2_takeFromPipes_8 : DC mX2_takeFromPipes 8 (.iconst 0) 1 := by decide +kernel
theorem dX2_takeFromPipes_9 : DC mX2_takeFromPipes 9 (.istore_n 2) 1 := by decide +kernel
theorem dX2_takeFromPipes_10 : DC mX2_takeFromPipes 10 (.iload_n 2) 1 := by decide +kernel
theorem dX2_takeFromPipes_11 : DC mX2_takeFromPipes 11 (.aload_n 0) 1 := by decide +kernel
theorem dX2_takeFromPipes_12 : DC mX2_takeFromPipes 12 (.getfield 29) 3 := by decide +kernel
theorem dX2_takeFromPipes_15 : DC mX2_takeFromPipes 15 (.getfield 142) 3 := by decide +kernel
theorem dX2_takeFromPipes_18 : DC mX2_takeFromPipes 18 (.getfield 146) 3 := by decide +kernel
theorem dX2_takeFromPipes_21 : DC mX2_takeFromPipes 21 (.if_icmp .ge 31) 3 := by decide +kernel
theorem dX2_takeFromPipes_24 : DC mX2_takeFromPipes 24 (.aload_n 0) 1 := by decide +kernel
theorem dX2_takeFromPipes_25 : DC mX2_takeFromPipes 25 (.iload_n 2) 1 := by decide +kernel
theorem dX2_takeFromPipes_26 : DC mX2_takeFromPipes 26 (.aload_n 0) 1 := by decide +kernel
theorem dX2_takeFromPipes_27 : DC mX2_takeFromPipes 27 (.getfield 26) 3 := by decide +kernel
theorem dX2_takeFromPipes_30 : DC mX2_takeFromPipes 30 (.iload_n 2) 1 := by decide +kernel
theorem dX2_takeFromPipes_31 : DC mX2_takeFromPipes 31 (.aaload) 1 := by decide +kernel
theorem dX2_takeFromPipes_32 : DC mX2_takeFromPipes 32 (.iload_n 1) 1 := by decide +kernel
theorem dX2_takeFromPipes_33 : DC mX2_takeFromPipes 33 (.iaload) 1 := by decide +kernel
theorem dX2_takeFromPipes_34 : DC mX2_takeFromPipes 34 (.invokevirtual 125) 3 := by decide +kernel
theorem dX2_takeFromPipes_37 : DC mX2_takeFromPipes 37 (.aload_n 0) 1 := by decide +kernel
theorem dX2_takeFromPipes_38 : DC mX2_takeFromPipes 38 (.getfield 26) 3 := by decide +kernel
theorem dX2_takeFromPipes_41 : DC mX2_takeFromPipes 41 (.iload_n 2) 1 := by decide +kernel
theorem dX2_takeFromPipes_42 : DC mX2_takeFromPipes 42 (.aaload) 1 := by decide +kernel
theorem dX2_takeFromPipes_43 : DC mX2_takeFromPipes 43 (.iload_n 1) 1 := by decide +kernel
theorem dX2_takeFromPipes_44 : DC mX2_takeFromPipes 44 (.iconst 0) 1 := by decide +kernel
theorem dX2_takeFromPipes_45 : DC mX2_takeFromPipes 45 (.iastore) 1 := by decide +kernel
theorem dX2_takeFromPipes_46 : DC mX2_takeFromPipes 46 (.iinc 2 1) 3 := by decide +kernel
theorem dX2_takeFromPipes_49 : DC mX2_takeFromPipes 49 (.goto (-39)) 3 := by decide +kernel
theorem dX2_takeFromPipes_52 : DC mX2_takeFromPipes 52 (.return_) 1 := by decide +kernel
theorem dX2_pour_0 : DC mX2_pour 0 (.aload_n 0) 1 := by decide +kernel
theorem dX2_pour_1 : DC mX2_pour 1 (.getfield 15) 3 := by decide +kernel
theorem dX2_pour_4 : DC mX2_pour 4 (.iload_n 1) 1 := by decide +kernel
theorem dX2_pour_5 : DC mX2_pour 5 (.iaload) 1 := by decide +kernel
theorem dX2_pour_6 : DC mX2_pour 6 (.ifCond .ne 16) 3 := by decide +kernel
theorem dX2_pour_9 : DC mX2_pour 9 (.aload_n 0) 1 := by decide +kernel
theorem dX2_pour_10 : DC mX2_pour 10 (.getfield 9) 3 := by decide +kernel
theorem dX2_pour_13 : DC mX2_pour 13 (.iload_n 1) 1 := by decide +kernel
theorem dX2_pour_14 : DC mX2_pour 14 (.dup2) 1 := by decide +kernel
theorem dX2_pour_15 : DC mX2_pour 15 (.iaload) 1 := by decide +kernel
theorem dX2_pour_16 : DC mX2_pour 16 (.iload_n 2) 1 := by decide +kernel
theorem dX2_pour_17 : DC mX2_pour 17 (.iadd) 1 := by decide +kernel
theorem dX2_pour_18 : DC mX2_pour 18 (.iastore) 1 := by decide +kernel
theorem dX2_pour_19 : DC mX2_pour 19 (.goto 13) 3 := by decide +kernel
theorem dX2_pour_22 : DC mX2_pour 22 (.aload_n 0) 1 := by decide +kernel
theorem dX2_pour_23 : DC mX2_pour 23 (.dup) 1 := by decide +kernel
theorem dX2_pour_24 : DC mX2_pour 24 (.getfield 50) 3 := by decide +kernel
theorem dX2_pour_27 : DC mX2_pour 27 (.iload_n 2) 1 := by decide +kernel
theorem dX2_pour_28 : DC mX2_pour 28 (.iadd) 1 := by decide +kernel
theorem dX2_pour_29 : DC mX2_pour 29 (.putfield 50) 3 := by decide +kernel
theorem dX2_pour_32 : DC mX2_pour 32 (.return_) 1 := by decide +kernel
theorem dX2_dryUp_0 : DC mX2_dryUp 0 (.iconst 0) 1 := by decide +kernel
theorem dX2_dryUp_1 : DC mX2_dryUp 1 (.istore_n 1) 1 := by decide +kernel
theorem dX2_dryUp_2 : DC mX2_dryUp 2 (.iload_n 1) 1 := by decide +kernel
theorem dX2_dryUp_3 : DC mX2_dryUp 3 (.aload_n 0) 1 := by decide +kernel
theorem dX2_dryUp_4 : DC mX2_dryUp 4 (.getfield 29) 3 := by decide +kernel
theorem dX2_dryUp_7 : DC mX2_dryUp 7 (.getfield 142) 3 := by decide +kernel
theorem dX2_dryUp_10 : DC mX2_dryUp 10 (.getfield 146) 3 := by decide +kernel
theorem dX2_dryUp_13 : DC mX2_dryUp 13 (.if_icmp .ge 47) 3 := by decide +kernel
theorem dX2_dryUp_16 : DC mX2_dryUp 16 (.aload_n 0) 1 := by decide +kernel
theorem dX2_dryUp_17 : DC mX2_dryUp 17 (.getfield 15) 3 := by decide +kernel
theorem dX2_dryUp_20 : DC mX2_dryUp 20 (.iload_n 1) 1 := by decide +kernel
theorem dX2_dryUp_21 : DC mX2_dryUp 21 (.iaload) 1 := by decide +kernel
theorem dX2_dryUp_22 : DC mX2_dryUp 22 (.ifCond .ne 32) 3 := by decide +kernel
theorem dX2_dryUp_25 : DC mX2_dryUp 25 (.aload_n 0) 1 := by decide +kernel
theorem dX2_dryUp_26 : DC mX2_dryUp 26 (.getfield 9) 3 := by decide +kernel
theorem dX2_dryUp_29 : DC mX2_dryUp 29 (.iload_n 1) 1 := by decide +kernel
theorem dX2_dryUp_30 : DC mX2_dryUp 30 (.iaload) 1 := by decide +kernel
theorem dX2_dryUp_31 : DC mX2_dryUp 31 (.ifCond .le 23) 3 := by decide +kernel
theorem dX2_dryUp_34 : DC mX2_dryUp 34 (.aload_n 0) 1 := by decide +kernel
theorem dX2_dryUp_35 : DC mX2_dryUp 35 (.getfield 9) 3 := by decide +kernel
theorem dX2_dryUp_38 : DC mX2_dryUp 38 (.iload_n 1) 1 := by decide +kernel
theorem dX2_dryUp_39 : DC mX2_dryUp 39 (.dup2) 1 := by decide +kernel
theorem dX2_dryUp_40 : DC mX2_dryUp 40 (.iaload) 1 := by decide +kernel
theorem dX2_dryUp_41 : DC mX2_dryUp 41 (.iconst 1) 1 := by decide +kernel
theorem dX2_dryUp_42 : DC mX2_dryUp 42 (.isub) 1 := by decide +kernel
theorem dX2_dryUp_43 : DC mX2_dryUp 43 (.iastore) 1 := by decide +kernel
theorem dX2_dryUp_44 : DC mX2_dryUp 44 (.aload_n 0) 1 := by decide +kernel
theorem dX2_dryUp_45 : DC mX2_dryUp 45 (.dup) 1 := by decide +kernel
theorem dX2_dryUp_46 : DC mX2_dryUp 46 (.getfield 53) 3 := by decide +kernel
theorem dX2_dryUp_49 : DC mX2_dryUp 49 (.iconst 1) 1 := by decide +kernel
theorem dX2_dryUp_50 : DC mX2_dryUp 50 (.iadd) 1 := by decide +kernel
theorem dX2_dryUp_51 : DC mX2_dryUp 51 (.putfield 53) 3 := by decide +kernel
theorem dX2_dryUp_54 : DC mX2_dryUp 54 (.iinc 1 1) 3 := by decide +kernel
theorem dX2_dryUp_57 : DC mX2_dryUp 57 (.goto (-55)) 3 := by decide +kernel
theorem dX2_dryUp_60 : DC mX2_dryUp 60 (.return_) 1 := by decide +kernel
theorem dX2_tipAll_0 : DC mX2_tipAll 0 (.iconst 0) 1 := by decide +kernel
theorem dX2_tipAll_1 : DC mX2_tipAll 1 (.istore_n 1) 1 := by decide +kernel
theorem dX2_tipAll_2 : DC mX2_tipAll 2 (.iconst 0) 1 := by decide +kernel
theorem dX2_tipAll_3 : DC mX2_tipAll 3 (.istore_n 2) 1 := by decide +kernel
theorem dX2_tipAll_4 : DC mX2_tipAll 4 (.iload_n 2) 1 := by decide +kernel
theorem dX2_tipAll_5 : DC mX2_tipAll 5 (.aload_n 0) 1 := by decide +kernel
theorem dX2_tipAll_6 : DC mX2_tipAll 6 (.getfield 29) 3 := by decide +kernel
theorem dX2_tipAll_9 : DC mX2_tipAll 9 (.getfield 142) 3 := by decide +kernel
theorem dX2_tipAll_12 : DC mX2_tipAll 12 (.getfield 146) 3 := by decide +kernel
theorem dX2_tipAll_15 : DC mX2_tipAll 15 (.if_icmp .ge 75) 3 := by decide +kernel
theorem dX2_tipAll_18 : DC mX2_tipAll 18 (.aload_n 0) 1 := by decide +kernel
theorem dX2_tipAll_19 : DC mX2_tipAll 19 (.getfield 15) 3 := by decide +kernel
theorem dX2_tipAll_22 : DC mX2_tipAll 22 (.iload_n 2) 1 := by decide +kernel
theorem dX2_tipAll_23 : DC mX2_tipAll 23 (.iaload) 1 := by decide +kernel
theorem dX2_tipAll_24 : DC mX2_tipAll 24 (.ifCond .le 16) 3 := by decide +kernel
theorem dX2_tipAll_27 : DC mX2_tipAll 27 (.aload_n 0) 1 := by decide +kernel
theorem dX2_tipAll_28 : DC mX2_tipAll 28 (.getfield 15) 3 := by decide +kernel
theorem dX2_tipAll_31 : DC mX2_tipAll 31 (.iload_n 2) 1 := by decide +kernel
theorem dX2_tipAll_32 : DC mX2_tipAll 32 (.dup2) 1 := by decide +kernel
theorem dX2_tipAll_33 : DC mX2_tipAll 33 (.iaload) 1 := by decide +kernel
theorem dX2_tipAll_34 : DC mX2_tipAll 34 (.iconst 1) 1 := by decide +kernel
theorem dX2_tipAll_35 : DC mX2_tipAll 35 (.isub) 1 := by decide +kernel
theorem dX2_tipAll_36 : DC mX2_tipAll 36 (.iastore) 1 := by decide +kernel
theorem dX2_tipAll_37 : DC mX2_tipAll 37 (.goto 47) 3 := by decide +kernel
theorem dX2_tipAll_40 : DC mX2_tipAll 40 (.aload_n 0) 1 := by decide +kernel
theorem dX2_tipAll_41 : DC mX2_tipAll 41 (.getfield 9) 3 := by decide +kernel
theorem dX2_tipAll_44 : DC mX2_tipAll 44 (.iload_n 2) 1 := by decide +kernel
theorem dX2_tipAll_45 : DC mX2_tipAll 45 (.iaload) 1 := by decide +kernel
theorem dX2_tipAll_46 : DC mX2_tipAll 46 (.aload_n 0) 1 := by decide +kernel
theorem dX2_tipAll_47 : DC mX2_tipAll 47 (.getfield 29) 3 := by decide +kernel
theorem dX2_tipAll_50 : DC mX2_tipAll 50 (.getfield 142) 3 := by decide +kernel
theorem dX2_tipAll_53 : DC mX2_tipAll 53 (.getfield 149) 3 := by decide +kernel
theorem dX2_tipAll_56 : DC mX2_tipAll 56 (.iload_n 2) 1 := by decide +kernel
theorem dX2_tipAll_57 : DC mX2_tipAll 57 (.iaload) 1 := by decide +kernel
theorem dX2_tipAll_58 : DC mX2_tipAll 58 (.if_icmp .lt 26) 3 := by decide +kernel
theorem dX2_tipAll_61 : DC mX2_tipAll 61 (.aload_n 0) 1 := by decide +kernel
theorem dX2_tipAll_62 : DC mX2_tipAll 62 (.getfield 33) 3 := by decide +kernel
theorem dX2_tipAll_65 : DC mX2_tipAll 65 (.getfield 152) 3 := by decide +kernel
theorem dX2_tipAll_68 : DC mX2_tipAll 68 (.iload_n 2) 1 := by decide +kernel
theorem dX2_tipAll_69 : DC mX2_tipAll 69 (.baload) 1 := by decide +kernel
theorem dX2_tipAll_70 : DC mX2_tipAll 70 (.ifCond .ne 14) 3 := by decide +kernel
theorem dX2_tipAll_73 : DC mX2_tipAll 73 (.aload_n 0) 1 := by decide +kernel
theorem dX2_tipAll_74 : DC mX2_tipAll 74 (.iload_n 2) 1 := by decide +kernel
theorem dX2_tipAll_75 : DC mX2_tipAll 75 (.invokevirtual 155) 3 := by decide +kernel
theorem dX2_tipAll_78 : DC mX2_tipAll 78 (.iload_n 1) 1 := by decide +kernel
theorem dX2_tipAll_79 : DC mX2_tipAll 79 (.iconst 1) 1 := by decide +kernel
theorem dX2_tipAll_80 : DC mX2_tipAll 80 (.iload_n 2) 1 := by decide +kernel
theorem dX2_tipAll_81 : DC mX2_tipAll 81 (.ishl) 1 := by decide +kernel
theorem dX2_tipAll_82 : DC mX2_tipAll 82 (.ior) 1 := by decide +kernel
theorem dX2_tipAll_83 : DC mX2_tipAll 83 (.istore_n 1) 1 := by decide +kernel
theorem dX2_tipAll_84 : DC mX2_tipAll 84 (.iinc 2 1) 3 := by decide +kernel
theorem dX2_tipAll_87 : DC mX2_tipAll 87 (.goto (-83)) 3 := by decide +kernel
theorem dX2_tipAll_90 : DC mX2_tipAll 90 (.iload_n 1) 1 := by decide +kernel
theorem dX2_tipAll_91 : DC mX2_tipAll 91 (.ireturn) 1 := by decide +kernel
theorem dX2_tip_0 : DC mX2_tip 0 (.aload_n 0) 1 := by decide +kernel
theorem dX2_tip_1 : DC mX2_tip 1 (.getfield 29) 3 := by decide +kernel
theorem dX2_tip_4 : DC mX2_tip 4 (.getfield 142) 3 := by decide +kernel
theorem dX2_tip_7 : DC mX2_tip 7 (.getfield 159) 3 := by decide +kernel
theorem dX2_tip_10 : DC mX2_tip 10 (.iload_n 1) 1 := by decide +kernel
theorem dX2_tip_11 : DC mX2_tip 11 (.iaload) 1 := by decide +kernel
theorem dX2_tip_12 : DC mX2_tip 12 (.istore_n 2) 1 := by decide +kernel
theorem dX2_tip_13 : DC mX2_tip 13 (.aload_n 0) 1 := by decide +kernel
theorem dX2_tip_14 : DC mX2_tip 14 (.getfield 33) 3 := by decide +kernel
theorem dX2_tip_17 : DC mX2_tip 17 (.getfield 160) 3 := by decide +kernel
theorem dX2_tip_20 : DC mX2_tip 20 (.iload_n 1) 1 := by decide +kernel
theorem dX2_tip_21 : DC mX2_tip 21 (.baload) 1 := by decide +kernel
theorem dX2_tip_22 : DC mX2_tip 22 (.ifCond .ne 17) 3 := by decide +kernel
theorem dX2_tip_25 : DC mX2_tip 25 (.aload_n 0) 1 := by decide +kernel
theorem dX2_tip_26 : DC mX2_tip 26 (.getfield 29) 3 := by decide +kernel
theorem dX2_tip_29 : DC mX2_tip 29 (.getfield 142) 3 := by decide +kernel
theorem dX2_tip_32 : DC mX2_tip 32 (.iload_n 2) 1 := by decide +kernel
theorem dX2_tip_33 : DC mX2_tip 33 (.invokevirtual 163) 3 := by decide +kernel
theorem dX2_tip_36 : DC mX2_tip 36 (.ifCond .ne 21) 3 := by decide +kernel
theorem dX2_tip_39 : DC mX2_tip 39 (.aload_n 0) 1 := by decide +kernel
theorem dX2_tip_40 : DC mX2_tip 40 (.dup) 1 := by decide +kernel
theorem dX2_tip_41 : DC mX2_tip 41 (.getfield 50) 3 := by decide +kernel
theorem dX2_tip_44 : DC mX2_tip 44 (.aload_n 0) 1 := by decide +kernel
theorem dX2_tip_45 : DC mX2_tip 45 (.getfield 9) 3 := by decide +kernel
theorem dX2_tip_48 : DC mX2_tip 48 (.iload_n 1) 1 := by decide +kernel
theorem dX2_tip_49 : DC mX2_tip 49 (.iaload) 1 := by decide +kernel
theorem dX2_tip_50 : DC mX2_tip 50 (.iadd) 1 := by decide +kernel
theorem dX2_tip_51 : DC mX2_tip 51 (.putfield 50) 3 := by decide +kernel
theorem dX2_tip_54 : DC mX2_tip 54 (.goto 39) 3 := by decide +kernel
theorem dX2_tip_57 : DC mX2_tip 57 (.aload_n 0) 1 := by decide +kernel
theorem dX2_tip_58 : DC mX2_tip 58 (.getfield 26) 3 := by decide +kernel
theorem dX2_tip_61 : DC mX2_tip 61 (.iload_n 2) 1 := by decide +kernel
theorem dX2_tip_62 : DC mX2_tip 62 (.aaload) 1 := by decide +kernel
theorem dX2_tip_63 : DC mX2_tip 63 (.aload_n 0) 1 := by decide +kernel
theorem dX2_tip_64 : DC mX2_tip 64 (.getfield 43) 3 := by decide +kernel
theorem dX2_tip_67 : DC mX2_tip 67 (.aload_n 0) 1 := by decide +kernel
theorem dX2_tip_68 : DC mX2_tip 68 (.getfield 29) 3 := by decide +kernel
theorem dX2_tip_71 : DC mX2_tip 71 (.getfield 142) 3 := by decide +kernel
theorem dX2_tip_74 : DC mX2_tip 74 (.getfield 166) 3 := by decide +kernel
theorem dX2_tip_77 : DC mX2_tip 77 (.iload_n 1) 1 := by decide +kernel
theorem dX2_tip_78 : DC mX2_tip 78 (.iaload) 1 := by decide +kernel
theorem dX2_tip_79 : DC mX2_tip 79 (.iadd) 1 := by decide +kernel
theorem dX2_tip_80 : DC mX2_tip 80 (.bipush 20) 2 := by decide +kernel
theorem dX2_tip_82 : DC mX2_tip 82 (.irem) 1 := by decide +kernel
theorem dX2_tip_83 : DC mX2_tip 83 (.dup2) 1 := by decide +kernel
theorem dX2_tip_84 : DC mX2_tip 84 (.iaload) 1 := by decide +kernel
theorem dX2_tip_85 : DC mX2_tip 85 (.aload_n 0) 1 := by decide +kernel
theorem dX2_tip_86 : DC mX2_tip 86 (.getfield 9) 3 := by decide +kernel
theorem dX2_tip_89 : DC mX2_tip 89 (.iload_n 1) 1 := by decide +kernel
theorem dX2_tip_90 : DC mX2_tip 90 (.iaload) 1 := by decide +kernel
theorem dX2_tip_91 : DC mX2_tip 91 (.iadd) 1 := by decide +kernel
theorem dX2_tip_92 : DC mX2_tip 92 (.iastore) 1 := by decide +kernel
theorem dX2_tip_93 : DC mX2_tip 93 (.aload_n 0) 1 := by decide +kernel
theorem dX2_tip_94 : DC mX2_tip 94 (.getfield 9) 3 := by decide +kernel
theorem dX2_tip_97 : DC mX2_tip 97 (.iload_n 1) 1 := by decide +kernel
theorem dX2_tip_98 : DC mX2_tip 98 (.iconst 0) 1 := by decide +kernel
theorem dX2_tip_99 : DC mX2_tip 99 (.iastore) 1 := by decide +kernel
theorem dX2_tip_100 : DC mX2_tip 100 (.aload_n 0) 1 := by decide +kernel
theorem dX2_tip_101 : DC mX2_tip 101 (.getfield 15) 3 := by decide +kernel
theorem dX2_tip_104 : DC mX2_tip 104 (.iload_n 1) 1 := by decide +kernel
theorem dX2_tip_105 : DC mX2_tip 105 (.aload_n 0) 1 := by decide +kernel
theorem dX2_tip_106 : DC mX2_tip 106 (.getfield 29) 3 := by decide +kernel
theorem dX2_tip_109 : DC mX2_tip 109 (.getfield 142) 3 := by decide +kernel
theorem dX2_tip_112 : DC mX2_tip 112 (.getfield 169) 3 := by decide +kernel
theorem dX2_tip_115 : DC mX2_tip 115 (.iload_n 1) 1 := by decide +kernel
theorem dX2_tip_116 : DC mX2_tip 116 (.iaload) 1 := by decide +kernel
theorem dX2_tip_117 : DC mX2_tip 117 (.iastore) 1 := by decide +kernel
theorem dX2_tip_118 : DC mX2_tip 118 (.aload_n 0) 1 := by decide +kernel
theorem dX2_tip_119 : DC mX2_tip 119 (.getfield 18) 3 := by decide +kernel
theorem dX2_tip_122 : DC mX2_tip 122 (.iload_n 1) 1 := by decide +kernel
theorem dX2_tip_123 : DC mX2_tip 123 (.dup2) 1 := by decide +kernel
theorem dX2_tip_124 : DC mX2_tip 124 (.iaload) 1 := by decide +kernel
theorem dX2_tip_125 : DC mX2_tip 125 (.iconst 1) 1 := by decide +kernel
theorem dX2_tip_126 : DC mX2_tip 126 (.iadd) 1 := by decide +kernel
theorem dX2_tip_127 : DC mX2_tip 127 (.iastore) 1 := by decide +kernel
theorem dX2_tip_128 : DC mX2_tip 128 (.aload_n 0) 1 := by decide +kernel
theorem dX2_tip_129 : DC mX2_tip 129 (.getfield 21) 3 := by decide +kernel
theorem dX2_tip_132 : DC mX2_tip 132 (.iload_n 1) 1 := by decide +kernel
theorem dX2_tip_133 : DC mX2_tip 133 (.aload_n 0) 1 := by decide +kernel
theorem dX2_tip_134 : DC mX2_tip 134 (.getfield 43) 3 := by decide +kernel
theorem dX2_tip_137 : DC mX2_tip 137 (.iastore) 1 := by decide +kernel
theorem dX2_tip_138 : DC mX2_tip 138 (.return_) 1 := by decide +kernel
theorem dX2_inPipes_0 : DC mX2_inPipes 0 (.iconst 0) 1 := by decide +kernel
theorem dX2_inPipes_1 : DC mX2_inPipes 1 (.istore_n 1) 1 := by decide +kernel
theorem dX2_inPipes_2 : DC mX2_inPipes 2 (.iconst 0) 1 := by decide +kernel
theorem dX2_inPipes_3 : DC mX2_inPipes 3 (.istore_n 2) 1 := by decide +kernel
theorem dX2_inPipes_4 : DC mX2_inPipes 4 (.iload_n 2) 1 := by decide +kernel
theorem dX2_inPipes_5 : DC mX2_inPipes 5 (.bipush 8) 2 := by decide +kernel
theorem dX2_inPipes_7 : DC mX2_inPipes 7 (.if_icmp .ge 21) 3 := by decide +kernel
theorem dX2_inPipes_10 : DC mX2_inPipes 10 (.iload_n 1) 1 := by decide +kernel
theorem dX2_inPipes_11 : DC mX2_inPipes 11 (.aload_n 0) 1 := by decide +kernel
theorem dX2_inPipes_12 : DC mX2_inPipes 12 (.getfield 26) 3 := by decide +kernel
theorem dX2_inPipes_15 : DC mX2_inPipes 15 (.iload_n 2) 1 := by decide +kernel
theorem dX2_inPipes_16 : DC mX2_inPipes 16 (.aaload) 1 := by decide +kernel
theorem dX2_inPipes_17 : DC mX2_inPipes 17 (.invokestatic 172) 3 := by decide +kernel
theorem dX2_inPipes_20 : DC mX2_inPipes 20 (.iadd) 1 := by decide +kernel
theorem dX2_inPipes_21 : DC mX2_inPipes 21 (.istore_n 1) 1 := by decide +kernel
theorem dX2_inPipes_22 : DC mX2_inPipes 22 (.iinc 2 1) 3 := by decide +kernel
theorem dX2_inPipes_25 : DC mX2_inPipes 25 (.goto (-21)) 3 := by decide +kernel
theorem dX2_inPipes_28 : DC mX2_inPipes 28 (.iload_n 1) 1 := by decide +kernel
theorem dX2_inPipes_29 : DC mX2_inPipes 29 (.ireturn) 1 := by decide +kernel
theorem dX2_isLike_0 : DC mX2_isLike 0 (.iconst 0) 1 := by decide +kernel
theorem dX2_isLike_1 : DC mX2_isLike 1 (.istore_n 2) 1 := by decide +kernel
theorem dX2_isLike_2 : DC mX2_isLike 2 (.iload_n 2) 1 := by decide +kernel
theorem dX2_isLike_3 : DC mX2_isLike 3 (.aload_n 0) 1 := by decide +kernel
theorem dX2_isLike_4 : DC mX2_isLike 4 (.getfield 29) 3 := by decide +kernel
theorem dX2_isLike_7 : DC mX2_isLike 7 (.getfield 142) 3 := by decide +kernel
theorem dX2_isLike_10 : DC mX2_isLike 10 (.getfield 146) 3 := by decide +kernel
theorem dX2_isLike_13 : DC mX2_isLike 13 (.if_icmp .ge 50) 3 := by decide +kernel
theorem dX2_isLike_16 : DC mX2_isLike 16 (.aload_n 0) 1 := by decide +kernel
theorem dX2_isLike_17 : DC mX2_isLike 17 (.getfield 9) 3 := by decide +kernel
theorem dX2_isLike_20 : DC mX2_isLike 20 (.iload_n 2) 1 := by decide +kernel
theorem dX2_isLike_21 : DC mX2_isLike 21 (.iaload) 1 := by decide +kernel
theorem dX2_isLike_22 : DC mX2_isLike 22 (.aload_n 1) 1 := by decide +kernel
theorem dX2_isLike_23 : DC mX2_isLike 23 (.getfield 9) 3 := by decide +kernel
theorem dX2_isLike_26 : DC mX2_isLike 26 (.iload_n 2) 1 := by decide +kernel
theorem dX2_isLike_27 : DC mX2_isLike 27 (.iaload) 1 := by decide +kernel
theorem dX2_isLike_28 : DC mX2_isLike 28 (.if_icmp .ne 27) 3 := by decide +kernel
theorem dX2_isLike_31 : DC mX2_isLike 31 (.aload_n 0) 1 := by decide +kernel
theorem dX2_isLike_32 : DC mX2_isLike 32 (.getfield 15) 3 := by decide +kernel
theorem dX2_isLike_35 : DC mX2_isLike 35 (.iload_n 2) 1 := by decide +kernel
theorem dX2_isLike_36 : DC mX2_isLike 36 (.iaload) 1 := by decide +kernel
theorem dX2_isLike_37 : DC mX2_isLike 37 (.aload_n 1) 1 := by decide +kernel
theorem dX2_isLike_38 : DC mX2_isLike 38 (.getfield 15) 3 := by decide +kernel
theorem dX2_isLike_41 : DC mX2_isLike 41 (.iload_n 2) 1 := by decide +kernel
theorem dX2_isLike_42 : DC mX2_isLike 42 (.iaload) 1 := by decide +kernel
theorem dX2_isLike_43 : DC mX2_isLike 43 (.if_icmp .ne 12) 3 := by decide +kernel
theorem dX2_isLike_46 : DC mX2_isLike 46 (.aload_n 0) 1 := by decide +kernel
theorem dX2_isLike_47 : DC mX2_isLike 47 (.iload_n 2) 1 := by decide +kernel
theorem dX2_isLike_48 : DC mX2_isLike 48 (.aload_n 1) 1 := by decide +kernel
theorem dX2_isLike_49 : DC mX2_isLike 49 (.invokevirtual 176) 3 := by decide +kernel
theorem dX2_isLike_52 : DC mX2_isLike 52 (.ifCond .ne 5) 3 := by decide +kernel
theorem dX2_isLike_55 : DC mX2_isLike 55 (.iconst 0) 1 := by decide +kernel
theorem dX2_isLike_56 : DC mX2_isLike 56 (.ireturn) 1 := by decide +kernel
theorem dX2_isLike_57 : DC mX2_isLike 57 (.iinc 2 1) 3 := by decide +kernel
theorem dX2_isLike_60 : DC mX2_isLike 60 (.goto (-58)) 3 := by decide +kernel
theorem dX2_isLike_63 : DC mX2_isLike 63 (.iconst 1) 1 := by decide +kernel
theorem dX2_isLike_64 : DC mX2_isLike 64 (.ireturn) 1 := by decide +kernel
theorem dX2_hasComing_0 : DC mX2_hasComing 0 (.iconst 0) 1 := by decide +kernel
theorem dX2_hasComing_1 : DC mX2_hasComing 1 (.istore_n 3) 1 := by decide +kernel
theorem dX2_hasComing_2 : DC mX2_hasComing 2 (.iload_n 3) 1 := by decide +kernel
theorem dX2_hasComing_3 : DC mX2_hasComing 3 (.bipush 20) 2 := by decide +kernel
theorem dX2_hasComing_5 : DC mX2_hasComing 5 (.if_icmp .ge 46) 3 := by decide +kernel
theorem dX2_hasComing_8 : DC mX2_hasComing 8 (.aload_n 0) 1 := by decide +kernel
theorem dX2_hasComing_9 : DC mX2_hasComing 9 (.getfield 26) 3 := by decide +kernel
theorem dX2_hasComing_12 : DC mX2_hasComing 12 (.iload_n 1) 1 := by decide +kernel
theorem dX2_hasComing_13 : DC mX2_hasComing 13 (.aaload) 1 := by decide +kernel
theorem dX2_hasComing_14 : DC mX2_hasComing 14 (.aload_n 0) 1 := by decide +kernel
theorem dX2_hasComing_15 : DC mX2_hasComing 15 (.getfield 43) 3 := by decide +kernel
theorem dX2_hasComing_18 : DC mX2_hasComing 18 (.iload_n 3) 1 := by decide +kernel
theorem dX2_hasComing_19 : DC mX2_hasComing 19 (.iadd) 1 := by decide +kernel
theorem dX2_hasComing_20 : DC mX2_hasComing 20 (.bipush 20) 2 := by decide +kernel
theorem dX2_hasComing_22 : DC mX2_hasComing 22 (.irem) 1 := by decide +kernel
theorem dX2_hasComing_23 : DC mX2_hasComing 23 (.iaload) 1 := by decide +kernel
theorem dX2_hasComing_24 : DC mX2_hasComing 24 (.aload_n 2) 1 := by decide +kernel
theorem dX2_hasComing_25 : DC mX2_hasComing 25 (.getfield 26) 3 := by decide +kernel
theorem dX2_hasComing_28 : DC mX2_hasComing 28 (.iload_n 1) 1 := by decide +kernel
theorem dX2_hasComing_29 : DC mX2_hasComing 29 (.aaload) 1 := by decide +kernel
theorem dX2_hasComing_30 : DC mX2_hasComing 30 (.aload_n 2) 1 := by decide +kernel
theorem dX2_hasComing_31 : DC mX2_hasComing 31 (.getfield 43) 3 := by decide +kernel
theorem dX2_hasComing_34 : DC mX2_hasComing 34 (.iload_n 3) 1 := by decide +kernel
theorem dX2_hasComing_35 : DC mX2_hasComing 35 (.iadd) 1 := by decide +kernel
theorem dX2_hasComing_36 : DC mX2_hasComing 36 (.bipush 20) 2 := by decide +kernel
theorem dX2_hasComing_38 : DC mX2_hasComing 38 (.irem) 1 := by decide +kernel
theorem dX2_hasComing_39 : DC mX2_hasComing 39 (.iaload) 1 := by decide +kernel
theorem dX2_hasComing_40 : DC mX2_hasComing 40 (.if_icmp .eq 5) 3 := by decide +kernel
theorem dX2_hasComing_43 : DC mX2_hasComing 43 (.iconst 0) 1 := by decide +kernel
theorem dX2_hasComing_44 : DC mX2_hasComing 44 (.ireturn) 1 := by decide +kernel
theorem dX2_hasComing_45 : DC mX2_hasComing 45 (.iinc 3 1) 3 := by decide +kernel
theorem dX2_hasComing_48 : DC mX2_hasComing 48 (.goto (-46)) 3 := by decide +kernel
theorem dX2_hasComing_51 : DC mX2_hasComing 51 (.iconst 1) 1 := by decide +kernel
theorem dX2_hasComing_52 : DC mX2_hasComing 52 (.ireturn) 1 := by decide +kernel
theorem dX3_add_0 : DC mX3_add 0 (.aload_n 0) 1 := by decide +kernel
theorem dX3_add_1 : DC mX3_add 1 (.getfield 21) 3 := by decide +kernel
theorem dX3_add_4 : DC mX3_add 4 (.bipush 10) 2 := by decide +kernel
theorem dX3_add_6 : DC mX3_add 6 (.if_icmp .lt 7) 3 := by decide +kernel
theorem dX3_add_9 : DC mX3_add 9 (.sipush (-1004)) 3 := by decide +kernel
theorem dX3_add_12 : DC mX3_add 12 (.ireturn) 1 := by decide +kernel
theorem dX3_add_13 : DC mX3_add 13 (.aload_n 0) 1 := by decide +kernel
theorem dX3_add_14 : DC mX3_add 14 (.getfield 9) 3 := by decide +kernel
theorem dX3_add_17 : DC mX3_add 17 (.aload_n 0) 1 := by decide +kernel
theorem dX3_add_18 : DC mX3_add 18 (.getfield 21) 3 := by decide +kernel
theorem dX3_add_21 : DC mX3_add 21 (.iload_n 1) 1 := by decide +kernel
theorem dX3_add_22 : DC mX3_add 22 (.iastore) 1 := by decide +kernel
theorem dX3_add_23 : DC mX3_add 23 (.aload_n 0) 1 := by decide +kernel
theorem dX3_add_24 : DC mX3_add 24 (.getfield 15) 3 := by decide +kernel
theorem dX3_add_27 : DC mX3_add 27 (.aload_n 0) 1 := by decide +kernel
theorem dX3_add_28 : DC mX3_add 28 (.getfield 21) 3 := by decide +kernel
theorem dX3_add_31 : DC mX3_add 31 (.iload_n 2) 1 := by decide +kernel
theorem dX3_add_32 : DC mX3_add 32 (.iastore) 1 := by decide +kernel
theorem dX3_add_33 : DC mX3_add 33 (.aload_n 0) 1 := by decide +kernel
theorem dX3_add_34 : DC mX3_add 34 (.getfield 18) 3 := by decide +kernel
theorem dX3_add_37 : DC mX3_add 37 (.aload_n 0) 1 := by decide +kernel
theorem dX3_add_38 : DC mX3_add 38 (.getfield 21) 3 := by decide +kernel
theorem dX3_add_41 : DC mX3_add 41 (.iload_n 3) 1 := by decide +kernel
theorem dX3_add_42 : DC mX3_add 42 (.iastore) 1 := by decide +kernel
theorem dX3_add_43 : DC mX3_add 43 (.aload_n 0) 1 := by decide +kernel
theorem dX3_add_44 : DC mX3_add 44 (.dup) 1 := by decide +kernel
theorem dX3_add_45 : DC mX3_add 45 (.getfield 21) 3 := by decide +kernel
theorem dX3_add_48 : DC mX3_add 48 (.iconst 1) 1 := by decide +kernel
theorem dX3_add_49 : DC mX3_add 49 (.iadd) 1 := by decide +kernel
theorem dX3_add_50 : DC mX3_add 50 (.putfield 21) 3 := by decide +kernel
theorem dX3_add_53 : DC mX3_add 53 (.aload_n 0) 1 := by decide +kernel
theorem dX3_add_54 : DC mX3_add 54 (.getfield 21) 3 := by decide +kernel
theorem dX3_add_57 : DC mX3_add 57 (.ireturn) 1 := by decide +kernel
theorem dX3_sitOn_0 : DC mX3_sitOn 0 (.iconst 0) 1 := by decide +kernel
theorem dX3_sitOn_1 : DC mX3_sitOn 1 (.istore_n 3) 1 := by decide +kernel
theorem dX3_sitOn_2 : DC mX3_sitOn 2 (.iload_n 3) 1 := by decide +kernel
theorem dX3_sitOn_3 : DC mX3_sitOn 3 (.aload_n 0) 1 := by decide +kernel
theorem dX3_sitOn_4 : DC mX3_sitOn 4 (.getfield 21) 3 := by decide +kernel
theorem dX3_sitOn_7 : DC mX3_sitOn 7 (.if_icmp .ge 41) 3 := by decide +kernel
theorem dX3_sitOn_10 : DC mX3_sitOn 10 (.aload_n 0) 1 := by decide +kernel
theorem dX3_sitOn_11 : DC mX3_sitOn 11 (.getfield 9) 3 := by decide +kernel
theorem dX3_sitOn_14 : DC mX3_sitOn 14 (.iload_n 3) 1 := by decide +kernel
theorem dX3_sitOn_15 : DC mX3_sitOn 15 (.iaload) 1 := by decide +kernel
theorem dX3_sitOn_16 : DC mX3_sitOn 16 (.iload_n 1) 1 := by decide +kernel
theorem dX3_sitOn_17 : DC mX3_sitOn 17 (.if_icmp .ne 25) 3 := by decide +kernel
theorem dX3_sitOn_20 : DC mX3_sitOn 20 (.aload_n 0) 1 := by decide +kernel
theorem dX3_sitOn_21 : DC mX3_sitOn 21 (.getfield 15) 3 := by decide +kernel
theorem dX3_sitOn_24 : DC mX3_sitOn 24 (.iload_n 3) 1 := by decide +kernel
theorem dX3_sitOn_25 : DC mX3_sitOn 25 (.iaload) 1 := by decide +kernel
theorem dX3_sitOn_26 : DC mX3_sitOn 26 (.iload_n 2) 1 := by decide +kernel
theorem dX3_sitOn_27 : DC mX3_sitOn 27 (.if_icmp .gt 15) 3 := by decide +kernel
theorem dX3_sitOn_30 : DC mX3_sitOn 30 (.iload_n 2) 1 := by decide +kernel
theorem dX3_sitOn_31 : DC mX3_sitOn 31 (.aload_n 0) 1 := by decide +kernel
theorem dX3_sitOn_32 : DC mX3_sitOn 32 (.getfield 18) 3 := by decide +kernel
theorem dX3_sitOn_35 : DC mX3_sitOn 35 (.iload_n 3) 1 := by decide +kernel
theorem dX3_sitOn_36 : DC mX3_sitOn 36 (.iaload) 1 := by decide +kernel
theorem dX3_sitOn_37 : DC mX3_sitOn 37 (.if_icmp .gt 5) 3 := by decide +kernel
theorem dX3_sitOn_40 : DC mX3_sitOn 40 (.iconst 1) 1 := by decide +kernel
theorem dX3_sitOn_41 : DC mX3_sitOn 41 (.ireturn) 1 := by decide +kernel
theorem dX3_sitOn_42 : DC mX3_sitOn 42 (.iinc 3 1) 3 := by decide +kernel
theorem dX3_sitOn_45 : DC mX3_sitOn 45 (.goto (-43)) 3 := by decide +kernel
theorem dX3_sitOn_48 : DC mX3_sitOn 48 (.iconst 0) 1 := by decide +kernel
theorem dX3_sitOn_49 : DC mX3_sitOn 49 (.ireturn) 1 := by decide +kernel
theorem dX4_note_0 : DC mX4_note 0 (.aload_n 0) 1 := by decide +kernel
theorem dX4_note_1 : DC mX4_note 1 (.getfield 9) 3 := by decide +kernel
theorem dX4_note_4 : DC mX4_note 4 (.iload_n 1) 1 := by decide +kernel
theorem dX4_note_5 : DC mX4_note 5 (.baload) 1 := by decide +kernel
theorem dX4_note_6 : DC mX4_note 6 (.ifCond .ne 20) 3 := by decide +kernel
theorem dX4_note_9 : DC mX4_note 9 (.aload_n 0) 1 := by decide +kernel
theorem dX4_note_10 : DC mX4_note 10 (.getfield 9) 3 := by decide +kernel
theorem dX4_note_13 : DC mX4_note 13 (.iload_n 1) 1 := by decide +kernel
theorem dX4_note_14 : DC mX4_note 14 (.iconst 1) 1 := by decide +kernel
theorem dX4_note_15 : DC mX4_note 15 (.bastore) 1 := by decide +kernel
theorem dX4_note_16 : DC mX4_note 16 (.aload_n 0) 1 := by decide +kernel
theorem dX4_note_17 : DC mX4_note 17 (.dup) 1 := by decide +kernel
theorem dX4_note_18 : DC mX4_note 18 (.getfield 19) 3 := by decide +kernel
theorem dX4_note_21 : DC mX4_note 21 (.iconst 1) 1 := by decide +kernel
theorem dX4_note_22 : DC mX4_note 22 (.iadd) 1 := by decide +kernel
theorem dX4_note_23 : DC mX4_note 23 (.putfield 19) 3 := by decide +kernel
theorem dX4_note_26 : DC mX4_note 26 (.aload_n 0) 1 := by decide +kernel
theorem dX4_note_27 : DC mX4_note 27 (.getfield 15) 3 := by decide +kernel
theorem dX4_note_30 : DC mX4_note 30 (.iload_n 1) 1 := by decide +kernel
theorem dX4_note_31 : DC mX4_note 31 (.lload_n 2) 1 := by decide +kernel
theorem dX4_note_32 : DC mX4_note 32 (.lastore) 1 := by decide +kernel
theorem dX4_note_33 : DC mX4_note 33 (.aload_n 0) 1 := by decide +kernel
theorem dX4_note_34 : DC mX4_note 34 (.getfield 19) 3 := by decide +kernel
theorem dX4_note_37 : DC mX4_note 37 (.ireturn) 1 := by decide +kernel
theorem dX4_forget_0 : DC mX4_forget 0 (.aload_n 0) 1 := by decide +kernel
theorem dX4_forget_1 : DC mX4_forget 1 (.iconst 0) 1 := by decide +kernel
theorem dX4_forget_2 : DC mX4_forget 2 (.putfield 19) 3 := by decide +kernel
theorem dX4_forget_5 : DC mX4_forget 5 (.iconst 0) 1 := by decide +kernel
theorem dX4_forget_6 : DC mX4_forget 6 (.istore_n 1) 1 := by decide +kernel
theorem dX4_forget_7 : DC mX4_forget 7 (.iload_n 1) 1 := by decide +kernel
theorem dX4_forget_8 : DC mX4_forget 8 (.bipush 8) 2 := by decide +kernel
theorem dX4_forget_10 : DC mX4_forget 10 (.if_icmp .ge 16) 3 := by decide +kernel
theorem dX4_forget_13 : DC mX4_forget 13 (.aload_n 0) 1 := by decide +kernel
theorem dX4_forget_14 : DC mX4_forget 14 (.getfield 9) 3 := by decide +kernel
theorem dX4_forget_17 : DC mX4_forget 17 (.iload_n 1) 1 := by decide +kernel
theorem dX4_forget_18 : DC mX4_forget 18 (.iconst 0) 1 := by decide +kernel
theorem dX4_forget_19 : DC mX4_forget 19 (.bastore) 1 := by decide +kernel
theorem dX4_forget_20 : DC mX4_forget 20 (.iinc 1 1) 3 := by decide +kernel
theorem dX4_forget_23 : DC mX4_forget 23 (.goto (-16)) 3 := by decide +kernel
theorem dX4_forget_26 : DC mX4_forget 26 (.return_) 1 := by decide +kernel
theorem dX4_agrees_0 : DC mX4_agrees 0 (.iconst 0) 1 := by decide +kernel
theorem dX4_agrees_1 : DC mX4_agrees 1 (.istore_n 3) 1 := by decide +kernel
theorem dX4_agrees_2 : DC mX4_agrees 2 (.iload_n 3) 1 := by decide +kernel
theorem dX4_agrees_3 : DC mX4_agrees 3 (.bipush 8) 2 := by decide +kernel
theorem dX4_agrees_5 : DC mX4_agrees 5 (.if_icmp .ge 40) 3 := by decide +kernel
theorem dX4_agrees_8 : DC mX4_agrees 8 (.aload_n 0) 1 := by decide +kernel
theorem dX4_agrees_9 : DC mX4_agrees 9 (.getfield 9) 3 := by decide +kernel
theorem dX4_agrees_12 : DC mX4_agrees 12 (.iload_n 3) 1 := by decide +kernel
theorem dX4_agrees_13 : DC mX4_agrees 13 (.baload) 1 := by decide +kernel
theorem dX4_agrees_14 : DC mX4_agrees 14 (.ifCond .eq 25) 3 := by decide +kernel
theorem dX4_agrees_17 : DC mX4_agrees 17 (.aload_n 0) 1 := by decide +kernel
theorem dX4_agrees_18 : DC mX4_agrees 18 (.getfield 15) 3 := by decide +kernel
theorem dX4_agrees_21 : DC mX4_agrees 21 (.iload_n 3) 1 := by decide +kernel
theorem dX4_agrees_22 : DC mX4_agrees 22 (.laload) 1 := by decide +kernel
theorem dX4_agrees_23 : DC mX4_agrees 23 (.iload_n 1) 1 := by decide +kernel
theorem dX4_agrees_24 : DC mX4_agrees 24 (.lushr) 1 := by decide +kernel
theorem dX4_agrees_25 : DC mX4_agrees 25 (.lconst 1) 1 := by decide +kernel
theorem dX4_agrees_26 : DC mX4_agrees 26 (.land) 1 := by decide +kernel
theorem dX4_agrees_27 : DC mX4_agrees 27 (.iload_n 2) 1 := by decide +kernel
theorem dX4_agrees_28 : DC mX4_agrees 28 (.iload_n 3) 1 := by decide +kernel
theorem dX4_agrees_29 : DC mX4_agrees 29 (.iushr) 1 := by decide +kernel
theorem dX4_agrees_30 : DC mX4_agrees 30 (.iconst 1) 1 := by decide +kernel
theorem dX4_agrees_31 : DC mX4_agrees 31 (.iand) 1 := by decide +kernel
theorem dX4_agrees_32 : DC mX4_agrees 32 (.i2l) 1 := by decide +kernel
theorem dX4_agrees_33 : DC mX4_agrees 33 (.lcmp) 1 := by decide +kernel
theorem dX4_agrees_34 : DC mX4_agrees 34 (.ifCond .eq 5) 3 := by decide +kernel
theorem dX4_agrees_37 : DC mX4_agrees 37 (.iconst 0) 1 := by decide +kernel
theorem dX4_agrees_38 : DC mX4_agrees 38 (.ireturn) 1 := by decide +kernel
theorem dX4_agrees_39 : DC mX4_agrees 39 (.iinc 3 1) 3 := by decide +kernel
theorem dX4_agrees_42 : DC mX4_agrees 42 (.goto (-40)) 3 := by decide +kernel
theorem dX4_agrees_45 : DC mX4_agrees 45 (.iconst 1) 1 := by decide +kernel
theorem dX4_agrees_46 : DC mX4_agrees 46 (.ireturn) 1 := by decide +kernel
theorem dX5_isBeat_0 : DC mX5_isBeat 0 (.iconst 0) 1 := by decide +kernel
theorem dX5_isBeat_1 : DC mX5_isBeat 1 (.istore_n 2) 1 := by decide +kernel
theorem dX5_isBeat_2 : DC mX5_isBeat 2 (.iload_n 2) 1 := by decide +kernel
theorem dX5_isBeat_3 : DC mX5_isBeat 3 (.aload_n 0) 1 := by decide +kernel
theorem dX5_isBeat_4 : DC mX5_isBeat 4 (.getfield 21) 3 := by decide +kernel
theorem dX5_isBeat_7 : DC mX5_isBeat 7 (.getfield 39) 3 := by decide +kernel
theorem dX5_isBeat_10 : DC mX5_isBeat 10 (.if_icmp .ge 27) 3 := by decide +kernel
theorem dX5_isBeat_13 : DC mX5_isBeat 13 (.aload_n 0) 1 := by decide +kernel
theorem dX5_isBeat_14 : DC mX5_isBeat 14 (.getfield 21) 3 := by decide +kernel
theorem dX5_isBeat_17 : DC mX5_isBeat 17 (.getfield 43) 3 := by decide +kernel
theorem dX5_isBeat_20 : DC mX5_isBeat 20 (.iload_n 2) 1 := by decide +kernel
theorem dX5_isBeat_21 : DC mX5_isBeat 21 (.iaload) 1 := by decide +kernel
theorem dX5_isBeat_22 : DC mX5_isBeat 22 (.iload_n 1) 1 := by decide +kernel
theorem dX5_isBeat_23 : DC mX5_isBeat 23 (.invokestatic 47) 3 := by decide +kernel
theorem dX5_isBeat_26 : DC mX5_isBeat 26 (.ifCond .ne 5) 3 := by decide +kernel
theorem dX5_isBeat_29 : DC mX5_isBeat 29 (.iconst 0) 1 := by decide +kernel
theorem dX5_isBeat_30 : DC mX5_isBeat 30 (.ireturn) 1 := by decide +kernel
theorem dX5_isBeat_31 : DC mX5_isBeat 31 (.iinc 2 1) 3 := by decide +kernel
theorem dX5_isBeat_34 : DC mX5_isBeat 34 (.goto (-32)) 3 := by decide +kernel
theorem dX5_isBeat_37 : DC mX5_isBeat 37 (.aload_n 0) 1 := by decide +kernel
theorem dX5_isBeat_38 : DC mX5_isBeat 38 (.getfield 51) 3 := by decide +kernel
theorem dX5_isBeat_41 : DC mX5_isBeat 41 (.ifCond .eq 14) 3 := by decide +kernel
theorem dX5_isBeat_44 : DC mX5_isBeat 44 (.aload_n 0) 1 := by decide +kernel
theorem dX5_isBeat_45 : DC mX5_isBeat 45 (.getfield 51) 3 := by decide +kernel
theorem dX5_isBeat_48 : DC mX5_isBeat 48 (.iload_n 1) 1 := by decide +kernel
theorem dX5_isBeat_49 : DC mX5_isBeat 49 (.invokestatic 47) 3 := by decide +kernel
theorem dX5_isBeat_52 : DC mX5_isBeat 52 (.ifCond .eq 7) 3 := by decide +kernel
theorem dX5_isBeat_55 : DC mX5_isBeat 55 (.iconst 1) 1 := by decide +kernel
theorem dX5_isBeat_56 : DC mX5_isBeat 56 (.goto 4) 3 := by decide +kernel
theorem dX5_isBeat_59 : DC mX5_isBeat 59 (.iconst 0) 1 := by decide +kernel
theorem dX5_isBeat_60 : DC mX5_isBeat 60 (.ireturn) 1 := by decide +kernel
theorem dX5_canFail_0 : DC mX5_canFail 0 (.iload_n 1) 1 := by decide +kernel
theorem dX5_canFail_1 : DC mX5_canFail 1 (.bipush 10) 2 := by decide +kernel
theorem dX5_canFail_3 : DC mX5_canFail 3 (.if_icmp .ge 12) 3 := by decide +kernel
theorem dX5_canFail_6 : DC mX5_canFail 6 (.aload_n 0) 1 := by decide +kernel
theorem dX5_canFail_7 : DC mX5_canFail 7 (.getfield 21) 3 := by decide +kernel
theorem dX5_canFail_10 : DC mX5_canFail 10 (.iload_n 1) 1 := by decide +kernel
theorem dX5_canFail_11 : DC mX5_canFail 11 (.invokevirtual 54) 3 := by decide +kernel
theorem dX5_canFail_14 : DC mX5_canFail 14 (.ireturn) 1 := by decide +kernel
theorem dX5_canFail_15 : DC mX5_canFail 15 (.aload_n 0) 1 := by decide +kernel
theorem dX5_canFail_16 : DC mX5_canFail 16 (.getfield 12) 3 := by decide +kernel
theorem dX5_canFail_19 : DC mX5_canFail 19 (.iload_n 1) 1 := by decide +kernel
theorem dX5_canFail_20 : DC mX5_canFail 20 (.bipush 20) 2 := by decide +kernel
theorem dX5_canFail_22 : DC mX5_canFail 22 (.if_icmp .ge 10) 3 := by decide +kernel
theorem dX5_canFail_25 : DC mX5_canFail 25 (.iload_n 1) 1 := by decide +kernel
theorem dX5_canFail_26 : DC mX5_canFail 26 (.bipush 10) 2 := by decide +kernel
theorem dX5_canFail_28 : DC mX5_canFail 28 (.isub) 1 := by decide +kernel
theorem dX5_canFail_29 : DC mX5_canFail 29 (.goto 7) 3 := by decide +kernel
theorem dX5_canFail_32 : DC mX5_canFail 32 (.iload_n 1) 1 := by decide +kernel
theorem dX5_canFail_33 : DC mX5_canFail 33 (.bipush 20) 2 := by decide +kernel
theorem dX5_canFail_35 : DC mX5_canFail 35 (.isub) 1 := by decide +kernel
theorem dX5_canFail_36 : DC mX5_canFail 36 (.invokevirtual 58) 3 := by decide +kernel
theorem dX5_canFail_39 : DC mX5_canFail 39 (.ireturn) 1 := by decide +kernel
theorem dX6_add_0 : DC mX6_add 0 (.aload_n 0) 1 := by decide +kernel
theorem dX6_add_1 : DC mX6_add 1 (.getfield 18) 3 := by decide +kernel
theorem dX6_add_4 : DC mX6_add 4 (.bipush 10) 2 := by decide +kernel
theorem dX6_add_6 : DC mX6_add 6 (.if_icmp .lt 7) 3 := by decide +kernel
theorem dX6_add_9 : DC mX6_add 9 (.sipush (-1004)) 3 := by decide +kernel
theorem dX6_add_12 : DC mX6_add 12 (.ireturn) 1 := by decide +kernel
theorem dX6_add_13 : DC mX6_add 13 (.aload_n 0) 1 := by decide +kernel
theorem dX6_add_14 : DC mX6_add 14 (.getfield 9) 3 := by decide +kernel
theorem dX6_add_17 : DC mX6_add 17 (.aload_n 0) 1 := by decide +kernel
theorem dX6_add_18 : DC mX6_add 18 (.getfield 18) 3 := by decide +kernel
theorem dX6_add_21 : DC mX6_add 21 (.iload_n 1) 1 := by decide +kernel
theorem dX6_add_22 : DC mX6_add 22 (.iastore) 1 := by decide +kernel
theorem dX6_add_23 : DC mX6_add 23 (.aload_n 0) 1 := by decide +kernel
theorem dX6_add_24 : DC mX6_add 24 (.getfield 15) 3 := by decide +kernel
theorem dX6_add_27 : DC mX6_add 27 (.aload_n 0) 1 := by decide +kernel
theorem dX6_add_28 : DC mX6_add 28 (.getfield 18) 3 := by decide +kernel
theorem dX6_add_31 : DC mX6_add 31 (.iload_n 2) 1 := by decide +kernel
theorem dX6_add_32 : DC mX6_add 32 (.iastore) 1 := by decide +kernel
theorem dX6_add_33 : DC mX6_add 33 (.aload_n 0) 1 := by decide +kernel
theorem dX6_add_34 : DC mX6_add 34 (.dup) 1 := by decide +kernel
theorem dX6_add_35 : DC mX6_add 35 (.getfield 18) 3 := by decide +kernel
theorem dX6_add_38 : DC mX6_add 38 (.iconst 1) 1 := by decide +kernel
theorem dX6_add_39 : DC mX6_add 39 (.iadd) 1 := by decide +kernel
theorem dX6_add_40 : DC mX6_add 40 (.putfield 18) 3 := by decide +kernel
theorem dX6_add_43 : DC mX6_add 43 (.aload_n 0) 1 := by decide +kernel
theorem dX6_add_44 : DC mX6_add 44 (.getfield 18) 3 := by decide +kernel
theorem dX6_add_47 : DC mX6_add 47 (.ireturn) 1 := by decide +kernel
theorem dX6_wetAt_0 : DC mX6_wetAt 0 (.iconst 0) 1 := by decide +kernel
theorem dX6_wetAt_1 : DC mX6_wetAt 1 (.istore_n 2) 1 := by decide +kernel
theorem dX6_wetAt_2 : DC mX6_wetAt 2 (.iconst 0) 1 := by decide +kernel
theorem dX6_wetAt_3 : DC mX6_wetAt 3 (.istore_n 3) 1 := by decide +kernel
theorem dX6_wetAt_4 : DC mX6_wetAt 4 (.iconst 0) 1 := by decide +kernel
theorem dX6_wetAt_5 : DC mX6_wetAt 5 (.istore 4) 2 := by decide +kernel
theorem dX6_wetAt_7 : DC mX6_wetAt 7 (.iload 4) 2 := by decide +kernel
theorem dX6_wetAt_9 : DC mX6_wetAt 9 (.aload_n 0) 1 := by decide +kernel
theorem dX6_wetAt_10 : DC mX6_wetAt 10 (.getfield 18) 3 := by decide +kernel
theorem dX6_wetAt_13 : DC mX6_wetAt 13 (.if_icmp .ge 40) 3 := by decide +kernel
theorem dX6_wetAt_16 : DC mX6_wetAt 16 (.aload_n 0) 1 := by decide +kernel
theorem dX6_wetAt_17 : DC mX6_wetAt 17 (.getfield 9) 3 := by decide +kernel
theorem dX6_wetAt_20 : DC mX6_wetAt 20 (.iload 4) 2 := by decide +kernel
theorem dX6_wetAt_22 : DC mX6_wetAt 22 (.iaload) 1 := by decide +kernel
theorem dX6_wetAt_23 : DC mX6_wetAt 23 (.iload_n 2) 1 := by decide +kernel
theorem dX6_wetAt_24 : DC mX6_wetAt 24 (.iload_n 1) 1 := by decide +kernel
theorem dX6_wetAt_25 : DC mX6_wetAt 25 (.invokestatic 22) 3 := by decide +kernel
theorem dX6_wetAt_28 : DC mX6_wetAt 28 (.ifCond .eq 19) 3 := by decide +kernel
theorem dX6_wetAt_31 : DC mX6_wetAt 31 (.aload_n 0) 1 := by decide +kernel
theorem dX6_wetAt_32 : DC mX6_wetAt 32 (.getfield 9) 3 := by decide +kernel
theorem dX6_wetAt_35 : DC mX6_wetAt 35 (.iload 4) 2 := by decide +kernel
theorem dX6_wetAt_37 : DC mX6_wetAt 37 (.iaload) 1 := by decide +kernel
theorem dX6_wetAt_38 : DC mX6_wetAt 38 (.istore_n 2) 1 := by decide +kernel
theorem dX6_wetAt_39 : DC mX6_wetAt 39 (.aload_n 0) 1 := by decide +kernel
theorem dX6_wetAt_40 : DC mX6_wetAt 40 (.getfield 15) 3 := by decide +kernel
theorem dX6_wetAt_43 : DC mX6_wetAt 43 (.iload 4) 2 := by decide +kernel
theorem dX6_wetAt_45 : DC mX6_wetAt 45 (.iaload) 1 := by decide +kernel
theorem dX6_wetAt_46 : DC mX6_wetAt 46 (.istore_n 3) 1 := by decide +kernel
theorem dX6_wetAt_47 : DC mX6_wetAt 47 (.iinc 4 1) 3 := by decide +kernel
theorem dX6_wetAt_50 : DC mX6_wetAt 50 (.goto (-43)) 3 := by decide +kernel
theorem dX6_wetAt_53 : DC mX6_wetAt 53 (.iload_n 3) 1 := by decide +kernel
theorem dX6_wetAt_54 : DC mX6_wetAt 54 (.ireturn) 1 := by decide +kernel
theorem dX7_has_0 : DC mX7_has 0 (.iload_n 1) 1 := by decide +kernel
theorem dX7_has_1 : DC mX7_has 1 (.ifCond .lt 15) 3 := by decide +kernel
theorem dX7_has_4 : DC mX7_has 4 (.iload_n 1) 1 := by decide +kernel
theorem dX7_has_5 : DC mX7_has 5 (.aload_n 0) 1 := by decide +kernel
theorem dX7_has_6 : DC mX7_has 6 (.getfield 24) 3 := by decide +kernel
theorem dX7_has_9 : DC mX7_has 9 (.if_icmp .ge 7) 3 := by decide +kernel
theorem dX7_has_12 : DC mX7_has 12 (.iconst 1) 1 := by decide +kernel
theorem dX7_has_13 : DC mX7_has 13 (.goto 4) 3 := by decide +kernel
theorem dX7_has_16 : DC mX7_has 16 (.iconst 0) 1 := by decide +kernel
theorem dX7_has_17 : DC mX7_has 17 (.ireturn) 1 := by decide +kernel
theorem dX7_add_0 : DC mX7_add 0 (.aload_n 0) 1 := by decide +kernel
theorem dX7_add_1 : DC mX7_add 1 (.getfield 24) 3 := by decide +kernel
theorem dX7_add_4 : DC mX7_add 4 (.iconst 4) 1 := by decide +kernel
theorem dX7_add_5 : DC mX7_add 5 (.if_icmp .lt 7) 3 := by decide +kernel
theorem dX7_add_8 : DC mX7_add 8 (.sipush (-1004)) 3 := by decide +kernel
theorem dX7_add_11 : DC mX7_add 11 (.ireturn) 1 := by decide +kernel
theorem dX7_add_12 : DC mX7_add 12 (.aload_n 0) 1 := by decide +kernel
theorem dX7_add_13 : DC mX7_add 13 (.getfield 9) 3 := by decide +kernel
theorem dX7_add_16 : DC mX7_add 16 (.aload_n 0) 1 := by decide +kernel
theorem dX7_add_17 : DC mX7_add 17 (.getfield 24) 3 := by decide +kernel
theorem dX7_add_20 : DC mX7_add 20 (.iload_n 1) 1 := by decide +kernel
theorem dX7_add_21 : DC mX7_add 21 (.iastore) 1 := by decide +kernel
theorem dX7_add_22 : DC mX7_add 22 (.aload_n 0) 1 := by decide +kernel
theorem dX7_add_23 : DC mX7_add 23 (.getfield 15) 3 := by decide +kernel
theorem dX7_add_26 : DC mX7_add 26 (.aload_n 0) 1 := by decide +kernel
theorem dX7_add_27 : DC mX7_add 27 (.getfield 24) 3 := by decide +kernel
theorem dX7_add_30 : DC mX7_add 30 (.iload_n 2) 1 := by decide +kernel
theorem dX7_add_31 : DC mX7_add 31 (.iastore) 1 := by decide +kernel
theorem dX7_add_32 : DC mX7_add 32 (.aload_n 0) 1 := by decide +kernel
theorem dX7_add_33 : DC mX7_add 33 (.getfield 18) 3 := by decide +kernel
theorem dX7_add_36 : DC mX7_add 36 (.aload_n 0) 1 := by decide +kernel
theorem dX7_add_37 : DC mX7_add 37 (.getfield 24) 3 := by decide +kernel
theorem dX7_add_40 : DC mX7_add 40 (.iload_n 3) 1 := by decide +kernel
theorem dX7_add_41 : DC mX7_add 41 (.iastore) 1 := by decide +kernel
theorem dX7_add_42 : DC mX7_add 42 (.aload_n 0) 1 := by decide +kernel
theorem dX7_add_43 : DC mX7_add 43 (.getfield 21) 3 := by decide +kernel
theorem dX7_add_46 : DC mX7_add 46 (.aload_n 0) 1 := by decide +kernel
theorem dX7_add_47 : DC mX7_add 47 (.getfield 24) 3 := by decide +kernel
theorem dX7_add_50 : DC mX7_add 50 (.iload 4) 2 := by decide +kernel
theorem dX7_add_52 : DC mX7_add 52 (.iastore) 1 := by decide +kernel
theorem dX7_add_53 : DC mX7_add 53 (.aload_n 0) 1 := by decide +kernel
theorem dX7_add_54 : DC mX7_add 54 (.dup) 1 := by decide +kernel
theorem dX7_add_55 : DC mX7_add 55 (.getfield 24) 3 := by decide +kernel
theorem dX7_add_58 : DC mX7_add 58 (.dup_x1) 1 := by decide +kernel
theorem dX7_add_59 : DC mX7_add 59 (.iconst 1) 1 := by decide +kernel
theorem dX7_add_60 : DC mX7_add 60 (.iadd) 1 := by decide +kernel
theorem dX7_add_61 : DC mX7_add 61 (.putfield 24) 3 := by decide +kernel
theorem dX7_add_64 : DC mX7_add 64 (.ireturn) 1 := by decide +kernel
theorem dX7_isDue_0 : DC mX7_isDue 0 (.iload_n 2) 1 := by decide +kernel
theorem dX7_isDue_1 : DC mX7_isDue 1 (.aload_n 0) 1 := by decide +kernel
theorem dX7_isDue_2 : DC mX7_isDue 2 (.getfield 21) 3 := by decide +kernel
theorem dX7_isDue_5 : DC mX7_isDue 5 (.iload_n 1) 1 := by decide +kernel
theorem dX7_isDue_6 : DC mX7_isDue 6 (.iaload) 1 := by decide +kernel
theorem dX7_isDue_7 : DC mX7_isDue 7 (.if_icmp .lt 27) 3 := by decide +kernel
theorem dX7_isDue_10 : DC mX7_isDue 10 (.aload_n 0) 1 := by decide +kernel
theorem dX7_isDue_11 : DC mX7_isDue 11 (.getfield 18) 3 := by decide +kernel
theorem dX7_isDue_14 : DC mX7_isDue 14 (.iload_n 1) 1 := by decide +kernel
theorem dX7_isDue_15 : DC mX7_isDue 15 (.iaload) 1 := by decide +kernel
theorem dX7_isDue_16 : DC mX7_isDue 16 (.iload_n 2) 1 := by decide +kernel
theorem dX7_isDue_17 : DC mX7_isDue 17 (.aload_n 0) 1 := by decide +kernel
theorem dX7_isDue_18 : DC mX7_isDue 18 (.getfield 21) 3 := by decide +kernel
theorem dX7_isDue_21 : DC mX7_isDue 21 (.iload_n 1) 1 := by decide +kernel
theorem dX7_isDue_22 : DC mX7_isDue 22 (.iaload) 1 := by decide +kernel
theorem dX7_isDue_23 : DC mX7_isDue 23 (.isub) 1 := by decide +kernel
theorem dX7_isDue_24 : DC mX7_isDue 24 (.invokestatic 28) 3 := by decide +kernel
theorem dX7_isDue_27 : DC mX7_isDue 27 (.ifCond .eq 7) 3 := by decide +kernel
theorem dX7_isDue_30 : DC mX7_isDue 30 (.iconst 1) 1 := by decide +kernel
theorem dX7_isDue_31 : DC mX7_isDue 31 (.goto 4) 3 := by decide +kernel
theorem dX7_isDue_34 : DC mX7_isDue 34 (.iconst 0) 1 := by decide +kernel
theorem dX7_isDue_35 : DC mX7_isDue 35 (.ireturn) 1 := by decide +kernel
theorem dX8_reset_0 : DC mX8_reset 0 (.aload_n 0) 1 := by decide +kernel
theorem dX8_reset_1 : DC mX8_reset 1 (.iload_n 1) 1 := by decide +kernel
theorem dX8_reset_2 : DC mX8_reset 2 (.putfield 25) 3 := by decide +kernel
theorem dX8_reset_5 : DC mX8_reset 5 (.iconst 0) 1 := by decide +kernel
theorem dX8_reset_6 : DC mX8_reset 6 (.istore_n 2) 1 := by decide +kernel
theorem dX8_reset_7 : DC mX8_reset 7 (.iload_n 2) 1 := by decide +kernel
theorem dX8_reset_8 : DC mX8_reset 8 (.iconst 4) 1 := by decide +kernel
theorem dX8_reset_9 : DC mX8_reset 9 (.if_icmp .ge 23) 3 := by decide +kernel
theorem dX8_reset_12 : DC mX8_reset 12 (.aload_n 0) 1 := by decide +kernel
theorem dX8_reset_13 : DC mX8_reset 13 (.getfield 9) 3 := by decide +kernel
theorem dX8_reset_16 : DC mX8_reset 16 (.iload_n 2) 1 := by decide +kernel
theorem dX8_reset_17 : DC mX8_reset 17 (.iconst 0) 1 := by decide +kernel
theorem dX8_reset_18 : DC mX8_reset 18 (.iastore) 1 := by decide +kernel
theorem dX8_reset_19 : DC mX8_reset 19 (.aload_n 0) 1 := by decide +kernel
theorem dX8_reset_20 : DC mX8_reset 20 (.getfield 15) 3 := by decide +kernel
theorem dX8_reset_23 : DC mX8_reset 23 (.iload_n 2) 1 := by decide +kernel
theorem dX8_reset_24 : DC mX8_reset 24 (.iconst 0) 1 := by decide +kernel
theorem dX8_reset_25 : DC mX8_reset 25 (.bastore) 1 := by decide +kernel
theorem dX8_reset_26 : DC mX8_reset 26 (.iinc 2 1) 3 := by decide +kernel
theorem dX8_reset_29 : DC mX8_reset 29 (.goto (-22)) 3 := by decide +kernel
theorem dX8_reset_32 : DC mX8_reset 32 (.iconst 0) 1 := by decide +kernel
theorem dX8_reset_33 : DC mX8_reset 33 (.istore_n 2) 1 := by decide +kernel
theorem dX8_reset_34 : DC mX8_reset 34 (.iload_n 2) 1 := by decide +kernel
theorem dX8_reset_35 : DC mX8_reset 35 (.bipush 8) 2 := by decide +kernel
theorem dX8_reset_37 : DC mX8_reset 37 (.if_icmp .ge 23) 3 := by decide +kernel
theorem dX8_reset_40 : DC mX8_reset 40 (.aload_n 0) 1 := by decide +kernel
theorem dX8_reset_41 : DC mX8_reset 41 (.getfield 19) 3 := by decide +kernel
theorem dX8_reset_44 : DC mX8_reset 44 (.iload_n 2) 1 := by decide +kernel
theorem dX8_reset_45 : DC mX8_reset 45 (.iconst 0) 1 := by decide +kernel
theorem dX8_reset_46 : DC mX8_reset 46 (.bastore) 1 := by decide +kernel
theorem dX8_reset_47 : DC mX8_reset 47 (.aload_n 0) 1 := by decide +kernel
theorem dX8_reset_48 : DC mX8_reset 48 (.getfield 22) 3 := by decide +kernel
theorem dX8_reset_51 : DC mX8_reset 51 (.iload_n 2) 1 := by decide +kernel
theorem dX8_reset_52 : DC mX8_reset 52 (.iconst 0) 1 := by decide +kernel
theorem dX8_reset_53 : DC mX8_reset 53 (.bastore) 1 := by decide +kernel
theorem dX8_reset_54 : DC mX8_reset 54 (.iinc 2 1) 3 := by decide +kernel
theorem dX8_reset_57 : DC mX8_reset 57 (.goto (-23)) 3 := by decide +kernel
theorem dX8_reset_60 : DC mX8_reset 60 (.return_) 1 := by decide +kernel
theorem dX8_fail_0 : DC mX8_fail 0 (.iload_n 1) 1 := by decide +kernel
theorem dX8_fail_1 : DC mX8_fail 1 (.iconst 0) 1 := by decide +kernel
theorem dX8_fail_2 : DC mX8_fail 2 (.iconst 3) 1 := by decide +kernel
theorem dX8_fail_3 : DC mX8_fail 3 (.invokestatic 29) 3 := by decide +kernel
theorem dX8_fail_6 : DC mX8_fail 6 (.ifCond .eq 13) 3 := by decide +kernel
theorem dX8_fail_9 : DC mX8_fail 9 (.aload_n 0) 1 := by decide +kernel
theorem dX8_fail_10 : DC mX8_fail 10 (.getfield 15) 3 := by decide +kernel
theorem dX8_fail_13 : DC mX8_fail 13 (.iload_n 1) 1 := by decide +kernel
theorem dX8_fail_14 : DC mX8_fail 14 (.iconst 1) 1 := by decide +kernel
theorem dX8_fail_15 : DC mX8_fail 15 (.bastore) 1 := by decide +kernel
theorem dX8_fail_16 : DC mX8_fail 16 (.goto 48) 3 := by decide +kernel
theorem dX8_fail_19 : DC mX8_fail 19 (.iload_n 1) 1 := by decide +kernel
theorem dX8_fail_20 : DC mX8_fail 20 (.bipush 10) 2 := by decide +kernel
theorem dX8_fail_22 : DC mX8_fail 22 (.bipush 17) 2 := by decide +kernel
theorem dX8_fail_24 : DC mX8_fail 24 (.invokestatic 29) 3 := by decide +kernel
theorem dX8_fail_27 : DC mX8_fail 27 (.ifCond .eq 16) 3 := by decide +kernel
theorem dX8_fail_30 : DC mX8_fail 30 (.aload_n 0) 1 := by decide +kernel
theorem dX8_fail_31 : DC mX8_fail 31 (.getfield 19) 3 := by decide +kernel
theorem dX8_fail_34 : DC mX8_fail 34 (.iload_n 1) 1 := by decide +kernel
theorem dX8_fail_35 : DC mX8_fail 35 (.bipush 10) 2 := by decide +kernel
theorem dX8_fail_37 : DC mX8_fail 37 (.isub) 1 := by decide +kernel
theorem dX8_fail_38 : DC mX8_fail 38 (.iconst 1) 1 := by decide +kernel
theorem dX8_fail_39 : DC mX8_fail 39 (.bastore) 1 := by decide +kernel
theorem dX8_fail_40 : DC mX8_fail 40 (.goto 24) 3 := by decide +kernel
theorem dX8_fail_43 : DC mX8_fail 43 (.iload_n 1) 1 := by decide +kernel
theorem dX8_fail_44 : DC mX8_fail 44 (.bipush 20) 2 := by decide +kernel
theorem dX8_fail_46 : DC mX8_fail 46 (.bipush 27) 2 := by decide +kernel
theorem dX8_fail_48 : DC mX8_fail 48 (.invokestatic 29) 3 := by decide +kernel
theorem dX8_fail_51 : DC mX8_fail 51 (.ifCond .eq 13) 3 := by decide +kernel
theorem dX8_fail_54 : DC mX8_fail 54 (.aload_n 0) 1 := by decide +kernel
theorem dX8_fail_55 : DC mX8_fail 55 (.getfield 22) 3 := by decide +kernel
theorem dX8_fail_58 : DC mX8_fail 58 (.iload_n 1) 1 := by decide +kernel
theorem dX8_fail_59 : DC mX8_fail 59 (.bipush 20) 2 := by decide +kernel
theorem dX8_fail_61 : DC mX8_fail 61 (.isub) 1 := by decide +kernel
theorem dX8_fail_62 : DC mX8_fail 62 (.iconst 1) 1 := by decide +kernel
theorem dX8_fail_63 : DC mX8_fail 63 (.bastore) 1 := by decide +kernel
theorem dX8_fail_64 : DC mX8_fail 64 (.return_) 1 := by decide +kernel
theorem dX9_bucket_0 : DC mX9_bucket 0 (.iload_n 1) 1 := by decide +kernel
theorem dX9_bucket_1 : DC mX9_bucket 1 (.iconst 1) 1 := by decide +kernel
theorem dX9_bucket_2 : DC mX9_bucket 2 (.bipush 100) 2 := by decide +kernel
theorem dX9_bucket_4 : DC mX9_bucket 4 (.invokestatic 52) 3 := by decide +kernel
theorem dX9_bucket_7 : DC mX9_bucket 7 (.ifCond .eq 13) 3 := by decide +kernel
theorem dX9_bucket_10 : DC mX9_bucket 10 (.iload_n 2) 1 := by decide +kernel
theorem dX9_bucket_11 : DC mX9_bucket 11 (.iconst 0) 1 := by decide +kernel
theorem dX9_bucket_12 : DC mX9_bucket 12 (.bipush 20) 2 := by decide +kernel
theorem dX9_bucket_14 : DC mX9_bucket 14 (.invokestatic 52) 3 := by decide +kernel
theorem dX9_bucket_17 : DC mX9_bucket 17 (.ifCond .ne 7) 3 := by decide +kernel
theorem dX9_bucket_20 : DC mX9_bucket 20 (.sipush (-1002)) 3 := by decide +kernel
theorem dX9_bucket_23 : DC mX9_bucket 23 (.ireturn) 1 := by decide +kernel
theorem dX9_bucket_24 : DC mX9_bucket 24 (.aload_n 0) 1 := by decide +kernel
theorem dX9_bucket_25 : DC mX9_bucket 25 (.getfield 12) 3 := by decide +kernel
theorem dX9_bucket_28 : DC mX9_bucket 28 (.getfield 56) 3 := by decide +kernel
theorem dX9_bucket_31 : DC mX9_bucket 31 (.iload_n 1) 1 := by decide +kernel
theorem dX9_bucket_32 : DC mX9_bucket 32 (.iload_n 2) 1 := by decide +kernel
theorem dX9_bucket_33 : DC mX9_bucket 33 (.invokevirtual 60) 3 := by decide +kernel
theorem dX9_bucket_36 : DC mX9_bucket 36 (.ireturn) 1 := by decide +kernel
theorem dX9_pipe_0 : DC mX9_pipe 0 (.aload_n 0) 1 := by decide +kernel
theorem dX9_pipe_1 : DC mX9_pipe 1 (.getfield 12) 3 := by decide +kernel
theorem dX9_pipe_4 : DC mX9_pipe 4 (.getfield 56) 3 := by decide +kernel
theorem dX9_pipe_7 : DC mX9_pipe 7 (.iload_n 1) 1 := by decide +kernel
theorem dX9_pipe_8 : DC mX9_pipe 8 (.invokevirtual 66) 3 := by decide +kernel
theorem dX9_pipe_11 : DC mX9_pipe 11 (.ifCond .eq 22) 3 := by decide +kernel
theorem dX9_pipe_14 : DC mX9_pipe 14 (.iload_n 2) 1 := by decide +kernel
theorem dX9_pipe_15 : DC mX9_pipe 15 (.iconst (-1)) 1 := by decide +kernel
theorem dX9_pipe_16 : DC mX9_pipe 16 (.if_icmp .eq 21) 3 := by decide +kernel
theorem dX9_pipe_19 : DC mX9_pipe 19 (.aload_n 0) 1 := by decide +kernel
theorem dX9_pipe_20 : DC mX9_pipe 20 (.getfield 12) 3 := by decide +kernel
theorem dX9_pipe_23 : DC mX9_pipe 23 (.getfield 56) 3 := by decide +kernel
theorem dX9_pipe_26 : DC mX9_pipe 26 (.iload_n 2) 1 := by decide +kernel
theorem dX9_pipe_27 : DC mX9_pipe 27 (.invokevirtual 66) 3 := by decide +kernel
theorem dX9_pipe_30 : DC mX9_pipe 30 (.ifCond .ne 7) 3 := by decide +kernel
theorem dX9_pipe_33 : DC mX9_pipe 33 (.sipush (-1001)) 3 := by decide +kernel
theorem dX9_pipe_36 : DC mX9_pipe 36 (.ireturn) 1 := by decide +kernel
theorem dX9_pipe_37 : DC mX9_pipe 37 (.iload_n 3) 1 := by decide +kernel
theorem dX9_pipe_38 : DC mX9_pipe 38 (.iconst 1) 1 := by decide +kernel
theorem dX9_pipe_39 : DC mX9_pipe 39 (.bipush 20) 2 := by decide +kernel
theorem dX9_pipe_41 : DC mX9_pipe 41 (.invokestatic 52) 3 := by decide +kernel
theorem dX9_pipe_44 : DC mX9_pipe 44 (.ifCond .ne 7) 3 := by decide +kernel
theorem dX9_pipe_47 : DC mX9_pipe 47 (.sipush (-1002)) 3 := by decide +kernel
theorem dX9_pipe_50 : DC mX9_pipe 50 (.ireturn) 1 := by decide +kernel
theorem dX9_pipe_51 : DC mX9_pipe 51 (.aload_n 0) 1 := by decide +kernel
theorem dX9_pipe_52 : DC mX9_pipe 52 (.getfield 12) 3 := by decide +kernel
theorem dX9_pipe_55 : DC mX9_pipe 55 (.getfield 56) 3 := by decide +kernel
theorem dX9_pipe_58 : DC mX9_pipe 58 (.iload_n 1) 1 := by decide +kernel
theorem dX9_pipe_59 : DC mX9_pipe 59 (.iload_n 2) 1 := by decide +kernel
theorem dX9_pipe_60 : DC mX9_pipe 60 (.iload_n 3) 1 := by decide +kernel
theorem dX9_pipe_61 : DC mX9_pipe 61 (.invokevirtual 70) 3 := by decide +kernel
theorem dX9_pipe_64 : DC mX9_pipe 64 (.iconst 1) 1 := by decide +kernel
theorem dX9_pipe_65 : DC mX9_pipe 65 (.ireturn) 1 := by decide +kernel
theorem dX9_spout_0 : DC mX9_spout 0 (.aload_n 0) 1 := by decide +kernel
theorem dX9_spout_1 : DC mX9_spout 1 (.getfield 12) 3 := by decide +kernel
theorem dX9_spout_4 : DC mX9_spout 4 (.getfield 56) 3 := by decide +kernel
theorem dX9_spout_7 : DC mX9_spout 7 (.iload_n 1) 1 := by decide +kernel
theorem dX9_spout_8 : DC mX9_spout 8 (.invokevirtual 66) 3 := by decide +kernel
theorem dX9_spout_11 : DC mX9_spout 11 (.ifCond .ne 7) 3 := by decide +kernel
theorem dX9_spout_14 : DC mX9_spout 14 (.sipush (-1001)) 3 := by decide +kernel
theorem dX9_spout_17 : DC mX9_spout 17 (.ireturn) 1 := by decide +kernel
theorem dX9_spout_18 : DC mX9_spout 18 (.iload_n 2) 1 := by decide +kernel
theorem dX9_spout_19 : DC mX9_spout 19 (.iconst 0) 1 := by decide +kernel
theorem dX9_spout_20 : DC mX9_spout 20 (.bipush 20) 2 := by decide +kernel
theorem dX9_spout_22 : DC mX9_spout 22 (.invokestatic 52) 3 := by decide +kernel
theorem dX9_spout_25 : DC mX9_spout 25 (.ifCond .eq 24) 3 := by decide +kernel
theorem dX9_spout_28 : DC mX9_spout 28 (.iload_n 3) 1 := by decide +kernel
theorem dX9_spout_29 : DC mX9_spout 29 (.iconst 1) 1 := by decide +kernel
theorem dX9_spout_30 : DC mX9_spout 30 (.bipush 30) 2 := by decide +kernel
theorem dX9_spout_32 : DC mX9_spout 32 (.invokestatic 52) 3 := by decide +kernel
theorem dX9_spout_35 : DC mX9_spout 35 (.ifCond .eq 14) 3 := by decide +kernel
theorem dX9_spout_38 : DC mX9_spout 38 (.iload 4) 2 := by decide +kernel
theorem dX9_spout_40 : DC mX9_spout 40 (.iconst 0) 1 := by decide +kernel
theorem dX9_spout_41 : DC mX9_spout 41 (.bipush 30) 2 := by decide +kernel
theorem dX9_spout_43 : DC mX9_spout 43 (.invokestatic 52) 3 := by decide +kernel
theorem dX9_spout_46 : DC mX9_spout 46 (.ifCond .ne 7) 3 := by decide +kernel
theorem dX9_spout_49 : DC mX9_spout 49 (.sipush (-1002)) 3 := by decide +kernel
theorem dX9_spout_52 : DC mX9_spout 52 (.ireturn) 1 := by decide +kernel
theorem dX9_spout_53 : DC mX9_spout 53 (.aload_n 0) 1 := by decide +kernel
theorem dX9_spout_54 : DC mX9_spout 54 (.getfield 12) 3 := by decide +kernel
theorem dX9_spout_57 : DC mX9_spout 57 (.getfield 74) 3 := by decide +kernel
theorem dX9_spout_60 : DC mX9_spout 60 (.iload_n 1) 1 := by decide +kernel
theorem dX9_spout_61 : DC mX9_spout 61 (.iload_n 2) 1 := by decide +kernel
theorem dX9_spout_62 : DC mX9_spout 62 (.iload_n 3) 1 := by decide +kernel
theorem dX9_spout_63 : DC mX9_spout 63 (.iload 4) 2 := by decide +kernel
theorem dX9_spout_65 : DC mX9_spout 65 (.invokevirtual 78) 3 := by decide +kernel
theorem dX9_spout_68 : DC mX9_spout 68 (.ireturn) 1 := by decide +kernel
theorem dX9_turn_0 : DC mX9_turn 0 (.aload_n 0) 1 := by decide +kernel
theorem dX9_turn_1 : DC mX9_turn 1 (.getfield 12) 3 := by decide +kernel
theorem dX9_turn_4 : DC mX9_turn 4 (.getfield 74) 3 := by decide +kernel
theorem dX9_turn_7 : DC mX9_turn 7 (.iload_n 1) 1 := by decide +kernel
theorem dX9_turn_8 : DC mX9_turn 8 (.invokevirtual 83) 3 := by decide +kernel
theorem dX9_turn_11 : DC mX9_turn 11 (.ifCond .ne 7) 3 := by decide +kernel
theorem dX9_turn_14 : DC mX9_turn 14 (.sipush (-1001)) 3 := by decide +kernel
theorem dX9_turn_17 : DC mX9_turn 17 (.ireturn) 1 := by decide +kernel
theorem dX9_turn_18 : DC mX9_turn 18 (.iload_n 2) 1 := by decide +kernel
theorem dX9_turn_19 : DC mX9_turn 19 (.iconst 0) 1 := by decide +kernel
theorem dX9_turn_20 : DC mX9_turn 20 (.bipush 20) 2 := by decide +kernel
theorem dX9_turn_22 : DC mX9_turn 22 (.invokestatic 52) 3 := by decide +kernel
theorem dX9_turn_25 : DC mX9_turn 25 (.ifCond .ne 7) 3 := by decide +kernel
theorem dX9_turn_28 : DC mX9_turn 28 (.sipush (-1002)) 3 := by decide +kernel
theorem dX9_turn_31 : DC mX9_turn 31 (.ireturn) 1 := by decide +kernel
theorem dX9_turn_32 : DC mX9_turn 32 (.aload_n 0) 1 := by decide +kernel
theorem dX9_turn_33 : DC mX9_turn 33 (.getfield 12) 3 := by decide +kernel
theorem dX9_turn_36 : DC mX9_turn 36 (.getfield 74) 3 := by decide +kernel
theorem dX9_turn_39 : DC mX9_turn 39 (.getfield 84) 3 := by decide +kernel
theorem dX9_turn_42 : DC mX9_turn 42 (.iload_n 1) 1 := by decide +kernel
theorem dX9_turn_43 : DC mX9_turn 43 (.iaload) 1 := by decide +kernel
theorem dX9_turn_44 : DC mX9_turn 44 (.istore_n 3) 1 := by decide +kernel
theorem dX9_turn_45 : DC mX9_turn 45 (.aload_n 0) 1 := by decide +kernel
theorem dX9_turn_46 : DC mX9_turn 46 (.getfield 12) 3 := by decide +kernel
theorem dX9_turn_49 : DC mX9_turn 49 (.getfield 74) 3 := by decide +kernel
theorem dX9_turn_52 : DC mX9_turn 52 (.getfield 84) 3 := by decide +kernel
theorem dX9_turn_55 : DC mX9_turn 55 (.iload_n 1) 1 := by decide +kernel
theorem dX9_turn_56 : DC mX9_turn 56 (.iload_n 2) 1 := by decide +kernel
theorem dX9_turn_57 : DC mX9_turn 57 (.iastore) 1 := by decide +kernel
theorem dX9_turn_58 : DC mX9_turn 58 (.iload_n 3) 1 := by decide +kernel
theorem dX9_turn_59 : DC mX9_turn 59 (.ireturn) 1 := by decide +kernel
theorem dX9_frog_0 : DC mX9_frog 0 (.aload_n 0) 1 := by decide +kernel
theorem dX9_frog_1 : DC mX9_frog 1 (.getfield 12) 3 := by decide +kernel
theorem dX9_frog_4 : DC mX9_frog 4 (.getfield 74) 3 := by decide +kernel
theorem dX9_frog_7 : DC mX9_frog 7 (.iload_n 1) 1 := by decide +kernel
theorem dX9_frog_8 : DC mX9_frog 8 (.invokevirtual 83) 3 := by decide +kernel
theorem dX9_frog_11 : DC mX9_frog 11 (.ifCond .ne 7) 3 := by decide +kernel
theorem dX9_frog_14 : DC mX9_frog 14 (.sipush (-1001)) 3 := by decide +kernel
theorem dX9_frog_17 : DC mX9_frog 17 (.ireturn) 1 := by decide +kernel
theorem dX9_frog_18 : DC mX9_frog 18 (.iload_n 2) 1 := by decide +kernel
theorem dX9_frog_19 : DC mX9_frog 19 (.iconst 0) 1 := by decide +kernel
theorem dX9_frog_20 : DC mX9_frog 20 (.sipush 2000) 3 := by decide +kernel
theorem dX9_frog_23 : DC mX9_frog 23 (.invokestatic 52) 3 := by decide +kernel
theorem dX9_frog_26 : DC mX9_frog 26 (.ifCond .eq 14) 3 := by decide +kernel
theorem dX9_frog_29 : DC mX9_frog 29 (.iload_n 3) 1 := by decide +kernel
theorem dX9_frog_30 : DC mX9_frog 30 (.iload_n 2) 1 := by decide +kernel
theorem dX9_frog_31 : DC mX9_frog 31 (.sipush 2000) 3 := by decide +kernel
theorem dX9_frog_34 : DC mX9_frog 34 (.invokestatic 52) 3 := by decide +kernel
theorem dX9_frog_37 : DC mX9_frog 37 (.ifCond .ne 7) 3 := by decide +kernel
theorem dX9_frog_40 : DC mX9_frog 40 (.sipush (-1002)) 3 := by decide +kernel
theorem dX9_frog_43 : DC mX9_frog 43 (.ireturn) 1 := by decide +kernel
theorem dX9_frog_44 : DC mX9_frog 44 (.aload_n 0) 1 := by decide +kernel
theorem dX9_frog_45 : DC mX9_frog 45 (.getfield 12) 3 := by decide +kernel
theorem dX9_frog_48 : DC mX9_frog 48 (.getfield 88) 3 := by decide +kernel
theorem dX9_frog_51 : DC mX9_frog 51 (.iload_n 1) 1 := by decide +kernel
theorem dX9_frog_52 : DC mX9_frog 52 (.iload_n 2) 1 := by decide +kernel
theorem dX9_frog_53 : DC mX9_frog 53 (.iload_n 3) 1 := by decide +kernel
theorem dX9_frog_54 : DC mX9_frog 54 (.invokevirtual 92) 3 := by decide +kernel
theorem dX9_frog_57 : DC mX9_frog 57 (.ireturn) 1 := by decide +kernel
theorem dX9_weather_0 : DC mX9_weather 0 (.iload_n 1) 1 := by decide +kernel
theorem dX9_weather_1 : DC mX9_weather 1 (.iconst 0) 1 := by decide +kernel
theorem dX9_weather_2 : DC mX9_weather 2 (.sipush 2000) 3 := by decide +kernel
theorem dX9_weather_5 : DC mX9_weather 5 (.invokestatic 52) 3 := by decide +kernel
theorem dX9_weather_8 : DC mX9_weather 8 (.ifCond .eq 14) 3 := by decide +kernel
theorem dX9_weather_11 : DC mX9_weather 11 (.iload_n 2) 1 := by decide +kernel
theorem dX9_weather_12 : DC mX9_weather 12 (.bipush (-20)) 2 := by decide +kernel
theorem dX9_weather_14 : DC mX9_weather 14 (.bipush 20) 2 := by decide +kernel
theorem dX9_weather_16 : DC mX9_weather 16 (.invokestatic 52) 3 := by decide +kernel
theorem dX9_weather_19 : DC mX9_weather 19 (.ifCond .ne 7) 3 := by decide +kernel
theorem dX9_weather_22 : DC mX9_weather 22 (.sipush (-1002)) 3 := by decide +kernel
theorem dX9_weather_25 : DC mX9_weather 25 (.ireturn) 1 := by decide +kernel
theorem dX9_weather_26 : DC mX9_weather 26 (.aload_n 0) 1 := by decide +kernel
theorem dX9_weather_27 : DC mX9_weather 27 (.getfield 12) 3 := by decide +kernel
theorem dX9_weather_30 : DC mX9_weather 30 (.getfield 97) 3 := by decide +kernel
theorem dX9_weather_33 : DC mX9_weather 33 (.iload_n 1) 1 := by decide +kernel
theorem dX9_weather_34 : DC mX9_weather 34 (.iload_n 2) 1 := by decide +kernel
theorem dX9_weather_35 : DC mX9_weather 35 (.invokevirtual 101) 3 := by decide +kernel
theorem dX9_weather_38 : DC mX9_weather 38 (.ireturn) 1 := by decide +kernel
theorem dX9_dry_0 : DC mX9_dry 0 (.iload_n 1) 1 := by decide +kernel
theorem dX9_dry_1 : DC mX9_dry 1 (.iconst 0) 1 := by decide +kernel
theorem dX9_dry_2 : DC mX9_dry 2 (.bipush 50) 2 := by decide +kernel
theorem dX9_dry_4 : DC mX9_dry 4 (.invokestatic 52) 3 := by decide +kernel
theorem dX9_dry_7 : DC mX9_dry 7 (.ifCond .ne 7) 3 := by decide +kernel
theorem dX9_dry_10 : DC mX9_dry 10 (.sipush (-1002)) 3 := by decide +kernel
theorem dX9_dry_13 : DC mX9_dry 13 (.ireturn) 1 := by decide +kernel
theorem dX9_dry_14 : DC mX9_dry 14 (.aload_n 0) 1 := by decide +kernel
theorem dX9_dry_15 : DC mX9_dry 15 (.getfield 12) 3 := by decide +kernel
theorem dX9_dry_18 : DC mX9_dry 18 (.getfield 104) 3 := by decide +kernel
theorem dX9_dry_21 : DC mX9_dry 21 (.istore_n 2) 1 := by decide +kernel
theorem dX9_dry_22 : DC mX9_dry 22 (.aload_n 0) 1 := by decide +kernel
theorem dX9_dry_23 : DC mX9_dry 23 (.getfield 12) 3 := by decide +kernel
theorem dX9_dry_26 : DC mX9_dry 26 (.iload_n 1) 1 := by decide +kernel
theorem dX9_dry_27 : DC mX9_dry 27 (.putfield 104) 3 := by decide +kernel
theorem dX9_dry_30 : DC mX9_dry 30 (.iload_n 2) 1 := by decide +kernel
theorem dX9_dry_31 : DC mX9_dry 31 (.ireturn) 1 := by decide +kernel
theorem dX9_told_0 : DC mX9_told 0 (.aload_n 0) 1 := by decide +kernel
theorem dX9_told_1 : DC mX9_told 1 (.getfield 12) 3 := by decide +kernel
theorem dX9_told_4 : DC mX9_told 4 (.getfield 56) 3 := by decide +kernel
theorem dX9_told_7 : DC mX9_told 7 (.iload_n 1) 1 := by decide +kernel
theorem dX9_told_8 : DC mX9_told 8 (.invokevirtual 66) 3 := by decide +kernel
theorem dX9_told_11 : DC mX9_told 11 (.ifCond .ne 7) 3 := by decide +kernel
theorem dX9_told_14 : DC mX9_told 14 (.sipush (-1001)) 3 := by decide +kernel
theorem dX9_told_17 : DC mX9_told 17 (.ireturn) 1 := by decide +kernel
theorem dX9_told_18 : DC mX9_told 18 (.iload_n 2) 1 := by decide +kernel
theorem dX9_told_19 : DC mX9_told 19 (.tableswitch 174 0 8 #[49, 62, 75, 88, 121, 131, 141, 151, 161]) 49 := by decide +kernel
theorem dX9_told_68 : DC mX9_told 68 (.aload_n 0) 1 := by decide +kernel
theorem dX9_told_69 : DC mX9_told 69 (.getfield 12) 3 := by decide +kernel
theorem dX9_told_72 : DC mX9_told 72 (.getfield 56) 3 := by decide +kernel
theorem dX9_told_75 : DC mX9_told 75 (.getfield 108) 3 := by decide +kernel
theorem dX9_told_78 : DC mX9_told 78 (.iload_n 1) 1 := by decide +kernel
theorem dX9_told_79 : DC mX9_told 79 (.iaload) 1 := by decide +kernel
theorem dX9_told_80 : DC mX9_told 80 (.ireturn) 1 := by decide +kernel
theorem dX9_told_81 : DC mX9_told 81 (.aload_n 0) 1 := by decide +kernel
theorem dX9_told_82 : DC mX9_told 82 (.getfield 12) 3 := by decide +kernel
theorem dX9_told_85 : DC mX9_told 85 (.getfield 56) 3 := by decide +kernel
theorem dX9_told_88 : DC mX9_told 88 (.getfield 111) 3 := by decide +kernel
theorem dX9_told_91 : DC mX9_told 91 (.iload_n 1) 1 := by decide +kernel
theorem dX9_told_92 : DC mX9_told 92 (.iaload) 1 := by decide +kernel
theorem dX9_told_93 : DC mX9_told 93 (.ireturn) 1 := by decide +kernel
theorem dX9_told_94 : DC mX9_told 94 (.aload_n 0) 1 := by decide +kernel
theorem dX9_told_95 : DC mX9_told 95 (.getfield 12) 3 := by decide +kernel
theorem dX9_told_98 : DC mX9_told 98 (.getfield 56) 3 := by decide +kernel
theorem dX9_told_101 : DC mX9_told 101 (.getfield 114) 3 := by decide +kernel
theorem dX9_told_104 : DC mX9_told 104 (.iload_n 1) 1 := by decide +kernel
theorem dX9_told_105 : DC mX9_told 105 (.iaload) 1 := by decide +kernel
theorem dX9_told_106 : DC mX9_told 106 (.ireturn) 1 := by decide +kernel
theorem dX9_told_107 : DC mX9_told 107 (.aload_n 0) 1 := by decide +kernel
theorem dX9_told_108 : DC mX9_told 108 (.getfield 12) 3 := by decide +kernel
theorem dX9_told_111 : DC mX9_told 111 (.getfield 56) 3 := by decide +kernel
theorem dX9_told_114 : DC mX9_told 114 (.getfield 114) 3 := by decide +kernel
theorem dX9_told_117 : DC mX9_told 117 (.iload_n 1) 1 := by decide +kernel
theorem dX9_told_118 : DC mX9_told 118 (.iaload) 1 := by decide +kernel
theorem dX9_told_119 : DC mX9_told 119 (.iconst (-1)) 1 := by decide +kernel
theorem dX9_told_120 : DC mX9_told 120 (.if_icmp .ne 7) 3 := by decide +kernel
theorem dX9_told_123 : DC mX9_told 123 (.iconst (-1)) 1 := by decide +kernel
theorem dX9_told_124 : DC mX9_told 124 (.goto 15) 3 := by decide +kernel
theorem dX9_told_127 : DC mX9_told 127 (.aload_n 0) 1 := by decide +kernel
theorem dX9_told_128 : DC mX9_told 128 (.getfield 12) 3 := by decide +kernel
theorem dX9_told_131 : DC mX9_told 131 (.getfield 56) 3 := by decide +kernel
theorem dX9_told_134 : DC mX9_told 134 (.getfield 117) 3 := by decide +kernel
theorem dX9_told_137 : DC mX9_told 137 (.iload_n 1) 1 := by decide +kernel
theorem dX9_told_138 : DC mX9_told 138 (.iaload) 1 := by decide +kernel
theorem dX9_told_139 : DC mX9_told 139 (.ireturn) 1 := by decide +kernel
theorem dX9_told_140 : DC mX9_told 140 (.aload_n 0) 1 := by decide +kernel
theorem dX9_told_141 : DC mX9_told 141 (.getfield 24) 3 := by decide +kernel
theorem dX9_told_144 : DC mX9_told 144 (.getfield 120) 3 := by decide +kernel
theorem dX9_told_147 : DC mX9_told 147 (.iload_n 1) 1 := by decide +kernel
theorem dX9_told_148 : DC mX9_told 148 (.iaload) 1 := by decide +kernel
theorem dX9_told_149 : DC mX9_told 149 (.ireturn) 1 := by decide +kernel
theorem dX9_told_150 : DC mX9_told 150 (.aload_n 0) 1 := by decide +kernel
theorem dX9_told_151 : DC mX9_told 151 (.getfield 24) 3 := by decide +kernel
theorem dX9_told_154 : DC mX9_told 154 (.getfield 123) 3 := by decide +kernel
theorem dX9_told_157 : DC mX9_told 157 (.iload_n 1) 1 := by decide +kernel
theorem dX9_told_158 : DC mX9_told 158 (.iaload) 1 := by decide +kernel
theorem dX9_told_159 : DC mX9_told 159 (.ireturn) 1 := by decide +kernel
theorem dX9_told_160 : DC mX9_told 160 (.aload_n 0) 1 := by decide +kernel
theorem dX9_told_161 : DC mX9_told 161 (.getfield 24) 3 := by decide +kernel
theorem dX9_told_164 : DC mX9_told 164 (.getfield 126) 3 := by decide +kernel
theorem dX9_told_167 : DC mX9_told 167 (.iload_n 1) 1 := by decide +kernel
theorem dX9_told_168 : DC mX9_told 168 (.iaload) 1 := by decide +kernel
theorem dX9_told_169 : DC mX9_told 169 (.ireturn) 1 := by decide +kernel
theorem dX9_told_170 : DC mX9_told 170 (.aload_n 0) 1 := by decide +kernel
theorem dX9_told_171 : DC mX9_told 171 (.getfield 24) 3 := by decide +kernel
theorem dX9_told_174 : DC mX9_told 174 (.getfield 129) 3 := by decide +kernel
theorem dX9_told_177 : DC mX9_told 177 (.iload_n 1) 1 := by decide +kernel
theorem dX9_told_178 : DC mX9_told 178 (.iaload) 1 := by decide +kernel
theorem dX9_told_179 : DC mX9_told 179 (.ireturn) 1 := by decide +kernel
theorem dX9_told_180 : DC mX9_told 180 (.aload_n 0) 1 := by decide +kernel
theorem dX9_told_181 : DC mX9_told 181 (.getfield 24) 3 := by decide +kernel
theorem dX9_told_184 : DC mX9_told 184 (.getfield 132) 3 := by decide +kernel
theorem dX9_told_187 : DC mX9_told 187 (.iload_n 1) 1 := by decide +kernel
theorem dX9_told_188 : DC mX9_told 188 (.aaload) 1 := by decide +kernel
theorem dX9_told_189 : DC mX9_told 189 (.invokestatic 136) 3 := by decide +kernel
theorem dX9_told_192 : DC mX9_told 192 (.ireturn) 1 := by decide +kernel
theorem dX9_told_193 : DC mX9_told 193 (.sipush (-1002)) 3 := by decide +kernel
theorem dX9_told_196 : DC mX9_told 196 (.ireturn) 1 := by decide +kernel
theorem dX9_count_0 : DC mX9_count 0 (.iload_n 1) 1 := by decide +kernel
theorem dX9_count_1 : DC mX9_count 1 (.tableswitch 177 0 11 #[63, 71, 82, 93, 104, 115, 126, 134, 145, 153, 161, 169]) 63 := by decide +kernel
theorem dX9_count_64 : DC mX9_count 64 (.aload_n 0) 1 := by decide +kernel
theorem dX9_count_65 : DC mX9_count 65 (.getfield 24) 3 := by decide +kernel
theorem dX9_count_68 : DC mX9_count 68 (.getfield 140) 3 := by decide +kernel
theorem dX9_count_71 : DC mX9_count 71 (.ireturn) 1 := by decide +kernel
theorem dX9_count_72 : DC mX9_count 72 (.aload_n 0) 1 := by decide +kernel
theorem dX9_count_73 : DC mX9_count 73 (.getfield 12) 3 := by decide +kernel
theorem dX9_count_76 : DC mX9_count 76 (.getfield 56) 3 := by decide +kernel
theorem dX9_count_79 : DC mX9_count 79 (.getfield 143) 3 := by decide +kernel
theorem dX9_count_82 : DC mX9_count 82 (.ireturn) 1 := by decide +kernel
theorem dX9_count_83 : DC mX9_count 83 (.aload_n 0) 1 := by decide +kernel
theorem dX9_count_84 : DC mX9_count 84 (.getfield 12) 3 := by decide +kernel
theorem dX9_count_87 : DC mX9_count 87 (.getfield 74) 3 := by decide +kernel
theorem dX9_count_90 : DC mX9_count 90 (.getfield 146) 3 := by decide +kernel
theorem dX9_count_93 : DC mX9_count 93 (.ireturn) 1 := by decide +kernel
theorem dX9_count_94 : DC mX9_count 94 (.aload_n 0) 1 := by decide +kernel
theorem dX9_count_95 : DC mX9_count 95 (.getfield 12) 3 := by decide +kernel
theorem dX9_count_98 : DC mX9_count 98 (.getfield 88) 3 := by decide +kernel
theorem dX9_count_101 : DC mX9_count 101 (.getfield 147) 3 := by decide +kernel
theorem dX9_count_104 : DC mX9_count 104 (.ireturn) 1 := by decide +kernel
theorem dX9_count_105 : DC mX9_count 105 (.aload_n 0) 1 := by decide +kernel
theorem dX9_count_106 : DC mX9_count 106 (.getfield 12) 3 := by decide +kernel
theorem dX9_count_109 : DC mX9_count 109 (.getfield 97) 3 := by decide +kernel
theorem dX9_count_112 : DC mX9_count 112 (.getfield 148) 3 := by decide +kernel
theorem dX9_count_115 : DC mX9_count 115 (.ireturn) 1 := by decide +kernel
theorem dX9_count_116 : DC mX9_count 116 (.aload_n 0) 1 := by decide +kernel
theorem dX9_count_117 : DC mX9_count 117 (.getfield 24) 3 := by decide +kernel
theorem dX9_count_120 : DC mX9_count 120 (.getfield 126) 3 := by decide +kernel
theorem dX9_count_123 : DC mX9_count 123 (.invokestatic 136) 3 := by decide +kernel
theorem dX9_count_126 : DC mX9_count 126 (.ireturn) 1 := by decide +kernel
theorem dX9_count_127 : DC mX9_count 127 (.aload_n 0) 1 := by decide +kernel
theorem dX9_count_128 : DC mX9_count 128 (.getfield 24) 3 := by decide +kernel
theorem dX9_count_131 : DC mX9_count 131 (.getfield 149) 3 := by decide +kernel
theorem dX9_count_134 : DC mX9_count 134 (.ireturn) 1 := by decide +kernel
theorem dX9_count_135 : DC mX9_count 135 (.aload_n 0) 1 := by decide +kernel
theorem dX9_count_136 : DC mX9_count 136 (.getfield 24) 3 := by decide +kernel
theorem dX9_count_139 : DC mX9_count 139 (.getfield 120) 3 := by decide +kernel
theorem dX9_count_142 : DC mX9_count 142 (.invokestatic 136) 3 := by decide +kernel
theorem dX9_count_145 : DC mX9_count 145 (.ireturn) 1 := by decide +kernel
theorem dX9_count_146 : DC mX9_count 146 (.aload_n 0) 1 := by decide +kernel
theorem dX9_count_147 : DC mX9_count 147 (.getfield 24) 3 := by decide +kernel
theorem dX9_count_150 : DC mX9_count 150 (.invokevirtual 152) 3 := by decide +kernel
theorem dX9_count_153 : DC mX9_count 153 (.ireturn) 1 := by decide +kernel
theorem dX9_count_154 : DC mX9_count 154 (.aload_n 0) 1 := by decide +kernel
theorem dX9_count_155 : DC mX9_count 155 (.getfield 24) 3 := by decide +kernel
theorem dX9_count_158 : DC mX9_count 158 (.getfield 156) 3 := by decide +kernel
theorem dX9_count_161 : DC mX9_count 161 (.ireturn) 1 := by decide +kernel
theorem dX9_count_162 : DC mX9_count 162 (.aload_n 0) 1 := by decide +kernel
theorem dX9_count_163 : DC mX9_count 163 (.getfield 24) 3 := by decide +kernel
theorem dX9_count_166 : DC mX9_count 166 (.getfield 159) 3 := by decide +kernel
theorem dX9_count_169 : DC mX9_count 169 (.ireturn) 1 := by decide +kernel
theorem dX9_count_170 : DC mX9_count 170 (.aload_n 0) 1 := by decide +kernel
theorem dX9_count_171 : DC mX9_count 171 (.getfield 41) 3 := by decide +kernel
theorem dX9_count_174 : DC mX9_count 174 (.getfield 162) 3 := by decide +kernel
theorem dX9_count_177 : DC mX9_count 177 (.ireturn) 1 := by decide +kernel
theorem dX9_count_178 : DC mX9_count 178 (.sipush (-1002)) 3 := by decide +kernel
theorem dX9_count_181 : DC mX9_count 181 (.ireturn) 1 := by decide +kernel
theorem dX9_tick_0 : DC mX9_tick 0 (.iload_n 1) 1 := by decide +kernel
theorem dX9_tick_1 : DC mX9_tick 1 (.iconst 0) 1 := by decide +kernel
theorem dX9_tick_2 : DC mX9_tick 2 (.sipush 200) 3 := by decide +kernel
theorem dX9_tick_5 : DC mX9_tick 5 (.invokestatic 52) 3 := by decide +kernel
theorem dX9_tick_8 : DC mX9_tick 8 (.ifCond .ne 7) 3 := by decide +kernel
theorem dX9_tick_11 : DC mX9_tick 11 (.sipush (-1002)) 3 := by decide +kernel
theorem dX9_tick_14 : DC mX9_tick 14 (.ireturn) 1 := by decide +kernel
theorem dX9_tick_15 : DC mX9_tick 15 (.aload_n 0) 1 := by decide +kernel
theorem dX9_tick_16 : DC mX9_tick 16 (.getfield 24) 3 := by decide +kernel
theorem dX9_tick_19 : DC mX9_tick 19 (.getfield 140) 3 := by decide +kernel
theorem dX9_tick_22 : DC mX9_tick 22 (.iload_n 1) 1 := by decide +kernel
theorem dX9_tick_23 : DC mX9_tick 23 (.iadd) 1 := by decide +kernel
theorem dX9_tick_24 : DC mX9_tick 24 (.sipush 2000) 3 := by decide +kernel
theorem dX9_tick_27 : DC mX9_tick 27 (.if_icmp .le 7) 3 := by decide +kernel
theorem dX9_tick_30 : DC mX9_tick 30 (.sipush (-1003)) 3 := by decide +kernel
theorem dX9_tick_33 : DC mX9_tick 33 (.ireturn) 1 := by decide +kernel
theorem dX9_tick_34 : DC mX9_tick 34 (.iconst 0) 1 := by decide +kernel
theorem dX9_tick_35 : DC mX9_tick 35 (.istore_n 2) 1 := by decide +kernel
theorem dX9_tick_36 : DC mX9_tick 36 (.iconst 0) 1 := by decide +kernel
theorem dX9_tick_37 : DC mX9_tick 37 (.istore_n 3) 1 := by decide +kernel
theorem dX9_tick_38 : DC mX9_tick 38 (.iload_n 3) 1 := by decide +kernel
theorem dX9_tick_39 : DC mX9_tick 39 (.iload_n 1) 1 := by decide +kernel
theorem dX9_tick_40 : DC mX9_tick 40 (.if_icmp .ge 22) 3 := by decide +kernel
theorem dX9_tick_43 : DC mX9_tick 43 (.iload_n 2) 1 := by decide +kernel
theorem dX9_tick_44 : DC mX9_tick 44 (.aload_n 0) 1 := by decide +kernel
theorem dX9_tick_45 : DC mX9_tick 45 (.getfield 24) 3 := by decide +kernel
theorem dX9_tick_48 : DC mX9_tick 48 (.invokevirtual 163) 3 := by decide +kernel
theorem dX9_tick_51 : DC mX9_tick 51 (.invokestatic 166) 3 := by decide +kernel
theorem dX9_tick_54 : DC mX9_tick 54 (.iadd) 1 := by decide +kernel
theorem dX9_tick_55 : DC mX9_tick 55 (.istore_n 2) 1 := by decide +kernel
theorem dX9_tick_56 : DC mX9_tick 56 (.iinc 3 1) 3 := by decide +kernel
theorem dX9_tick_59 : DC mX9_tick 59 (.goto (-21)) 3 := by decide +kernel
theorem dX9_tick_62 : DC mX9_tick 62 (.iload_n 2) 1 := by decide +kernel
theorem dX9_tick_63 : DC mX9_tick 63 (.ireturn) 1 := by decide +kernel
theorem dX9_again_0 : DC mX9_again 0 (.aload_n 0) 1 := by decide +kernel
theorem dX9_again_1 : DC mX9_again 1 (.getfield 24) 3 := by decide +kernel
theorem dX9_again_4 : DC mX9_again 4 (.getfield 140) 3 := by decide +kernel
theorem dX9_again_7 : DC mX9_again 7 (.istore_n 1) 1 := by decide +kernel
theorem dX9_again_8 : DC mX9_again 8 (.aload_n 0) 1 := by decide +kernel
theorem dX9_again_9 : DC mX9_again 9 (.getfield 24) 3 := by decide +kernel
theorem dX9_again_12 : DC mX9_again 12 (.invokevirtual 172) 3 := by decide +kernel
theorem dX9_again_15 : DC mX9_again 15 (.iload_n 1) 1 := by decide +kernel
theorem dX9_again_16 : DC mX9_again 16 (.ireturn) 1 := by decide +kernel
theorem dX9_row_0 : DC mX9_row 0 (.aload_n 0) 1 := by decide +kernel
theorem dX9_row_1 : DC mX9_row 1 (.getfield 12) 3 := by decide +kernel
theorem dX9_row_4 : DC mX9_row 4 (.getfield 56) 3 := by decide +kernel
theorem dX9_row_7 : DC mX9_row 7 (.iload_n 1) 1 := by decide +kernel
theorem dX9_row_8 : DC mX9_row 8 (.invokevirtual 66) 3 := by decide +kernel
theorem dX9_row_11 : DC mX9_row 11 (.ifCond .ne 7) 3 := by decide +kernel
theorem dX9_row_14 : DC mX9_row 14 (.ldc2_w 175) 3 := by decide +kernel
theorem dX9_row_17 : DC mX9_row 17 (.lreturn) 1 := by decide +kernel
theorem dX9_row_18 : DC mX9_row 18 (.aload_n 0) 1 := by decide +kernel
theorem dX9_row_19 : DC mX9_row 19 (.getfield 28) 3 := by decide +kernel
theorem dX9_row_22 : DC mX9_row 22 (.iload_n 2) 1 := by decide +kernel
theorem dX9_row_23 : DC mX9_row 23 (.invokevirtual 177) 3 := by decide +kernel
theorem dX9_row_26 : DC mX9_row 26 (.aload_n 0) 1 := by decide +kernel
theorem dX9_row_27 : DC mX9_row 27 (.getfield 32) 3 := by decide +kernel
theorem dX9_row_30 : DC mX9_row 30 (.invokevirtual 172) 3 := by decide +kernel
theorem dX9_row_33 : DC mX9_row 33 (.lconst 0) 1 := by decide +kernel
theorem dX9_row_34 : DC mX9_row 34 (.lstore_n 3) 1 := by decide +kernel
theorem dX9_row_35 : DC mX9_row 35 (.iconst 0) 1 := by decide +kernel
theorem dX9_row_36 : DC mX9_row 36 (.istore 5) 2 := by decide +kernel
theorem dX9_row_38 : DC mX9_row 38 (.iload 5) 2 := by decide +kernel
theorem dX9_row_40 : DC mX9_row 40 (.bipush 60) 2 := by decide +kernel
theorem dX9_row_42 : DC mX9_row 42 (.if_icmp .ge 31) 3 := by decide +kernel
theorem dX9_row_45 : DC mX9_row 45 (.aload_n 0) 1 := by decide +kernel
theorem dX9_row_46 : DC mX9_row 46 (.getfield 32) 3 := by decide +kernel
theorem dX9_row_49 : DC mX9_row 49 (.invokevirtual 163) 3 := by decide +kernel
theorem dX9_row_52 : DC mX9_row 52 (.iload_n 1) 1 := by decide +kernel
theorem dX9_row_53 : DC mX9_row 53 (.iushr) 1 := by decide +kernel
theorem dX9_row_54 : DC mX9_row 54 (.iconst 1) 1 := by decide +kernel
theorem dX9_row_55 : DC mX9_row 55 (.iand) 1 := by decide +kernel
theorem dX9_row_56 : DC mX9_row 56 (.i2l) 1 := by decide +kernel
theorem dX9_row_57 : DC mX9_row 57 (.lstore 6) 2 := by decide +kernel
theorem dX9_row_59 : DC mX9_row 59 (.lload_n 3) 1 := by decide +kernel
theorem dX9_row_60 : DC mX9_row 60 (.lload 6) 2 := by decide +kernel
theorem dX9_row_62 : DC mX9_row 62 (.iload 5) 2 := by decide +kernel
theorem dX9_row_64 : DC mX9_row 64 (.lshl) 1 := by decide +kernel
theorem dX9_row_65 : DC mX9_row 65 (.lor) 1 := by decide +kernel
theorem dX9_row_66 : DC mX9_row 66 (.lstore_n 3) 1 := by decide +kernel
theorem dX9_row_67 : DC mX9_row 67 (.iinc 5 1) 3 := by decide +kernel
theorem dX9_row_70 : DC mX9_row 70 (.goto (-32)) 3 := by decide +kernel
theorem dX9_row_73 : DC mX9_row 73 (.lload_n 3) 1 := by decide +kernel
theorem dX9_row_74 : DC mX9_row 74 (.lreturn) 1 := by decide +kernel
theorem dX9_round_0 : DC mX9_round 0 (.iload_n 1) 1 := by decide +kernel
theorem dX9_round_1 : DC mX9_round 1 (.iconst 0) 1 := by decide +kernel
theorem dX9_round_2 : DC mX9_round 2 (.iconst 1) 1 := by decide +kernel
theorem dX9_round_3 : DC mX9_round 3 (.invokestatic 52) 3 := by decide +kernel
theorem dX9_round_6 : DC mX9_round 6 (.ifCond .ne 7) 3 := by decide +kernel
theorem dX9_round_9 : DC mX9_round 9 (.sipush (-1002)) 3 := by decide +kernel
theorem dX9_round_12 : DC mX9_round 12 (.ireturn) 1 := by decide +kernel
theorem dX9_round_13 : DC mX9_round 13 (.aload_n 0) 1 := by decide +kernel
theorem dX9_round_14 : DC mX9_round 14 (.invokevirtual 181) 3 := by decide +kernel
theorem dX9_round_17 : DC mX9_round 17 (.istore_n 2) 1 := by decide +kernel
theorem dX9_round_18 : DC mX9_round 18 (.iload_n 2) 1 := by decide +kernel
theorem dX9_round_19 : DC mX9_round 19 (.iconst (-1)) 1 := by decide +kernel
theorem dX9_round_20 : DC mX9_round 20 (.if_icmp .eq 8) 3 := by decide +kernel
theorem dX9_round_23 : DC mX9_round 23 (.iload_n 1) 1 := by decide +kernel
theorem dX9_round_24 : DC mX9_round 24 (.iconst 1) 1 := by decide +kernel
theorem dX9_round_25 : DC mX9_round 25 (.if_icmp .ne 7) 3 := by decide +kernel
theorem dX9_round_28 : DC mX9_round 28 (.iload_n 2) 1 := by decide +kernel
theorem dX9_round_29 : DC mX9_round 29 (.goto 8) 3 := by decide +kernel
theorem dX9_round_32 : DC mX9_round 32 (.aload_n 0) 1 := by decide +kernel
theorem dX9_round_33 : DC mX9_round 33 (.iload_n 2) 1 := by decide +kernel
theorem dX9_round_34 : DC mX9_round 34 (.invokevirtual 184) 3 := by decide +kernel
theorem dX9_round_37 : DC mX9_round 37 (.ireturn) 1 := by decide +kernel
theorem dX9_meeting_0 : DC mX9_meeting 0 (.aload_n 0) 1 := by decide +kernel
theorem dX9_meeting_1 : DC mX9_meeting 1 (.getfield 12) 3 := by decide +kernel
theorem dX9_meeting_4 : DC mX9_meeting 4 (.getfield 56) 3 := by decide +kernel
theorem dX9_meeting_7 : DC mX9_meeting 7 (.iload_n 1) 1 := by decide +kernel
theorem dX9_meeting_8 : DC mX9_meeting 8 (.invokevirtual 66) 3 := by decide +kernel
theorem dX9_meeting_11 : DC mX9_meeting 11 (.ifCond .eq 17) 3 := by decide +kernel
theorem dX9_meeting_14 : DC mX9_meeting 14 (.aload_n 0) 1 := by decide +kernel
theorem dX9_meeting_15 : DC mX9_meeting 15 (.getfield 12) 3 := by decide +kernel
theorem dX9_meeting_18 : DC mX9_meeting 18 (.getfield 56) 3 := by decide +kernel
theorem dX9_meeting_21 : DC mX9_meeting 21 (.iload_n 2) 1 := by decide +kernel
theorem dX9_meeting_22 : DC mX9_meeting 22 (.invokevirtual 66) 3 := by decide +kernel
theorem dX9_meeting_25 : DC mX9_meeting 25 (.ifCond .ne 7) 3 := by decide +kernel
theorem dX9_meeting_28 : DC mX9_meeting 28 (.sipush (-1001)) 3 := by decide +kernel
theorem dX9_meeting_31 : DC mX9_meeting 31 (.ireturn) 1 := by decide +kernel
theorem dX9_meeting_32 : DC mX9_meeting 32 (.iload_n 1) 1 := by decide +kernel
theorem dX9_meeting_33 : DC mX9_meeting 33 (.iload_n 2) 1 := by decide +kernel
theorem dX9_meeting_34 : DC mX9_meeting 34 (.if_icmp .ne 7) 3 := by decide +kernel
theorem dX9_meeting_37 : DC mX9_meeting 37 (.sipush (-1003)) 3 := by decide +kernel
theorem dX9_meeting_40 : DC mX9_meeting 40 (.ireturn) 1 := by decide +kernel
theorem dX9_meeting_41 : DC mX9_meeting 41 (.iconst 1) 1 := by decide +kernel
theorem dX9_meeting_42 : DC mX9_meeting 42 (.iload_n 1) 1 := by decide +kernel
theorem dX9_meeting_43 : DC mX9_meeting 43 (.ishl) 1 := by decide +kernel
theorem dX9_meeting_44 : DC mX9_meeting 44 (.iconst 1) 1 := by decide +kernel
theorem dX9_meeting_45 : DC mX9_meeting 45 (.iload_n 2) 1 := by decide +kernel
theorem dX9_meeting_46 : DC mX9_meeting 46 (.ishl) 1 := by decide +kernel
theorem dX9_meeting_47 : DC mX9_meeting 47 (.ior) 1 := by decide +kernel
theorem dX9_meeting_48 : DC mX9_meeting 48 (.istore_n 3) 1 := by decide +kernel
theorem dX9_meeting_49 : DC mX9_meeting 49 (.aload_n 0) 1 := by decide +kernel
theorem dX9_meeting_50 : DC mX9_meeting 50 (.getfield 28) 3 := by decide +kernel
theorem dX9_meeting_53 : DC mX9_meeting 53 (.iconst 1) 1 := by decide +kernel
theorem dX9_meeting_54 : DC mX9_meeting 54 (.invokevirtual 177) 3 := by decide +kernel
theorem dX9_meeting_57 : DC mX9_meeting 57 (.aload_n 0) 1 := by decide +kernel
theorem dX9_meeting_58 : DC mX9_meeting 58 (.getfield 32) 3 := by decide +kernel
theorem dX9_meeting_61 : DC mX9_meeting 61 (.invokevirtual 172) 3 := by decide +kernel
theorem dX9_meeting_64 : DC mX9_meeting 64 (.iconst 0) 1 := by decide +kernel
theorem dX9_meeting_65 : DC mX9_meeting 65 (.istore 4) 2 := by decide +kernel
theorem dX9_meeting_67 : DC mX9_meeting 67 (.iload 4) 2 := by decide +kernel
theorem dX9_meeting_69 : DC mX9_meeting 69 (.sipush 1000) 3 := by decide +kernel
theorem dX9_meeting_72 : DC mX9_meeting 72 (.if_icmp .ge 25) 3 := by decide +kernel
theorem dX9_meeting_75 : DC mX9_meeting 75 (.aload_n 0) 1 := by decide +kernel
theorem dX9_meeting_76 : DC mX9_meeting 76 (.getfield 32) 3 := by decide +kernel
theorem dX9_meeting_79 : DC mX9_meeting 79 (.invokevirtual 163) 3 := by decide +kernel
theorem dX9_meeting_82 : DC mX9_meeting 82 (.iload_n 3) 1 := by decide +kernel
theorem dX9_meeting_83 : DC mX9_meeting 83 (.iand) 1 := by decide +kernel
theorem dX9_meeting_84 : DC mX9_meeting 84 (.iload_n 3) 1 := by decide +kernel
theorem dX9_meeting_85 : DC mX9_meeting 85 (.if_icmp .ne 6) 3 := by decide +kernel
theorem dX9_meeting_88 : DC mX9_meeting 88 (.iload 4) 2 := by decide +kernel
theorem dX9_meeting_90 : DC mX9_meeting 90 (.ireturn) 1 := by decide +kernel
theorem dX9_meeting_91 : DC mX9_meeting 91 (.iinc 4 1) 3 := by decide +kernel
theorem dX9_meeting_94 : DC mX9_meeting 94 (.goto (-27)) 3 := by decide +kernel
theorem dX9_meeting_97 : DC mX9_meeting 97 (.iconst (-1)) 1 := by decide +kernel
theorem dX9_meeting_98 : DC mX9_meeting 98 (.ireturn) 1 := by decide +kernel
theorem dX9_drip_0 : DC mX9_drip 0 (.lload_n 1) 1 := by decide +kernel
theorem dX9_drip_1 : DC mX9_drip 1 (.invokestatic 187) 3 := by decide +kernel
theorem dX9_drip_4 : DC mX9_drip 4 (.ifCond .eq 34) 3 := by decide +kernel
theorem dX9_drip_7 : DC mX9_drip 7 (.iload_n 3) 1 := by decide +kernel
theorem dX9_drip_8 : DC mX9_drip 8 (.iconst 1) 1 := by decide +kernel
theorem dX9_drip_9 : DC mX9_drip 9 (.bipush 100) 2 := by decide +kernel
theorem dX9_drip_11 : DC mX9_drip 11 (.invokestatic 52) 3 := by decide +kernel
theorem dX9_drip_14 : DC mX9_drip 14 (.ifCond .eq 24) 3 := by decide +kernel
theorem dX9_drip_17 : DC mX9_drip 17 (.iload 4) 2 := by decide +kernel
theorem dX9_drip_19 : DC mX9_drip 19 (.iconst 0) 1 := by decide +kernel
theorem dX9_drip_20 : DC mX9_drip 20 (.bipush 20) 2 := by decide +kernel
theorem dX9_drip_22 : DC mX9_drip 22 (.invokestatic 52) 3 := by decide +kernel
theorem dX9_drip_25 : DC mX9_drip 25 (.ifCond .eq 13) 3 := by decide +kernel
theorem dX9_drip_28 : DC mX9_drip 28 (.iload 5) 2 := by decide +kernel
theorem dX9_drip_30 : DC mX9_drip 30 (.iconst 0) 1 := by decide +kernel
theorem dX9_drip_31 : DC mX9_drip 31 (.iconst 2) 1 := by decide +kernel
theorem dX9_drip_32 : DC mX9_drip 32 (.invokestatic 52) 3 := by decide +kernel
theorem dX9_drip_35 : DC mX9_drip 35 (.ifCond .ne 7) 3 := by decide +kernel
theorem dX9_drip_38 : DC mX9_drip 38 (.sipush (-1002)) 3 := by decide +kernel
theorem dX9_drip_41 : DC mX9_drip 41 (.ireturn) 1 := by decide +kernel
theorem dX9_drip_42 : DC mX9_drip 42 (.iconst 0) 1 := by decide +kernel
theorem dX9_drip_43 : DC mX9_drip 43 (.istore 6) 2 := by decide +kernel
theorem dX9_drip_45 : DC mX9_drip 45 (.iconst 0) 1 := by decide +kernel
theorem dX9_drip_46 : DC mX9_drip 46 (.istore 7) 2 := by decide +kernel
theorem dX9_drip_48 : DC mX9_drip 48 (.bipush 61) 2 := by decide +kernel
theorem dX9_drip_50 : DC mX9_drip 50 (.istore 8) 2 := by decide +kernel
theorem dX9_drip_52 : DC mX9_drip 52 (.iconst 1) 1 := by decide +kernel
theorem dX9_drip_53 : DC mX9_drip 53 (.istore 9) 2 := by decide +kernel
theorem dX9_drip_55 : DC mX9_drip 55 (.iload 9) 2 := by decide +kernel
theorem dX9_drip_57 : DC mX9_drip 57 (.bipush 8) 2 := by decide +kernel
theorem dX9_drip_59 : DC mX9_drip 59 (.if_icmp .gt 60) 3 := by decide +kernel
theorem dX9_drip_62 : DC mX9_drip 62 (.iconst 1) 1 := by decide +kernel
theorem dX9_drip_63 : DC mX9_drip 63 (.istore 10) 2 := by decide +kernel
theorem dX9_drip_65 : DC mX9_drip 65 (.iload 10) 2 := by decide +kernel
theorem dX9_drip_67 : DC mX9_drip 67 (.bipush 8) 2 := by decide +kernel
theorem dX9_drip_69 : DC mX9_drip 69 (.if_icmp .gt 44) 3 := by decide +kernel
theorem dX9_drip_72 : DC mX9_drip 72 (.lload_n 1) 1 := by decide +kernel
theorem dX9_drip_73 : DC mX9_drip 73 (.iload_n 3) 1 := by decide +kernel
theorem dX9_drip_74 : DC mX9_drip 74 (.iload 4) 2 := by decide +kernel
theorem dX9_drip_76 : DC mX9_drip 76 (.iload 9) 2 := by decide +kernel
theorem dX9_drip_78 : DC mX9_drip 78 (.iload 10) 2 := by decide +kernel
theorem dX9_drip_80 : DC mX9_drip 80 (.invokestatic 191) 3 := by decide +kernel
theorem dX9_drip_83 : DC mX9_drip 83 (.invokestatic 195) 3 := by decide +kernel
theorem dX9_drip_86 : DC mX9_drip 86 (.istore 11) 2 := by decide +kernel
theorem dX9_drip_88 : DC mX9_drip 88 (.iload 11) 2 := by decide +kernel
theorem dX9_drip_90 : DC mX9_drip 90 (.iload 8) 2 := by decide +kernel
theorem dX9_drip_92 : DC mX9_drip 92 (.if_icmp .ge 15) 3 := by decide +kernel
theorem dX9_drip_95 : DC mX9_drip 95 (.iload 9) 2 := by decide +kernel
theorem dX9_drip_97 : DC mX9_drip 97 (.istore 6) 2 := by decide +kernel
theorem dX9_drip_99 : DC mX9_drip 99 (.iload 10) 2 := by decide +kernel
theorem dX9_drip_101 : DC mX9_drip 101 (.istore 7) 2 := by decide +kernel
theorem dX9_drip_103 : DC mX9_drip 103 (.iload 11) 2 := by decide +kernel
theorem dX9_drip_105 : DC mX9_drip 105 (.istore 8) 2 := by decide +kernel
theorem dX9_drip_107 : DC mX9_drip 107 (.iinc 10 1) 3 := by decide +kernel
theorem dX9_drip_110 : DC mX9_drip 110 (.goto (-45)) 3 := by decide +kernel
theorem dX9_drip_113 : DC mX9_drip 113 (.iinc 9 1) 3 := by decide +kernel
theorem dX9_drip_116 : DC mX9_drip 116 (.goto (-61)) 3 := by decide +kernel
theorem dX9_drip_119 : DC mX9_drip 119 (.iload 5) 2 := by decide +kernel
theorem dX9_drip_121 : DC mX9_drip 121 (.ifCond .ne 8) 3 := by decide +kernel
theorem dX9_drip_124 : DC mX9_drip 124 (.iload 6) 2 := by decide +kernel
theorem dX9_drip_126 : DC mX9_drip 126 (.goto 16) 3 := by decide +kernel
theorem dX9_drip_129 : DC mX9_drip 129 (.iload 5) 2 := by decide +kernel
theorem dX9_drip_131 : DC mX9_drip 131 (.iconst 1) 1 := by decide +kernel
theorem dX9_drip_132 : DC mX9_drip 132 (.if_icmp .ne 8) 3 := by decide +kernel
theorem dX9_drip_135 : DC mX9_drip 135 (.iload 7) 2 := by decide +kernel
theorem dX9_drip_137 : DC mX9_drip 137 (.goto 5) 3 := by decide +kernel
theorem dX9_drip_140 : DC mX9_drip 140 (.iload 8) 2 := by decide +kernel
theorem dX9_drip_142 : DC mX9_drip 142 (.ireturn) 1 := by decide +kernel
theorem dX9_hear_0 : DC mX9_hear 0 (.aload_n 0) 1 := by decide +kernel
theorem dX9_hear_1 : DC mX9_hear 1 (.getfield 12) 3 := by decide +kernel
theorem dX9_hear_4 : DC mX9_hear 4 (.getfield 56) 3 := by decide +kernel
theorem dX9_hear_7 : DC mX9_hear 7 (.iload_n 1) 1 := by decide +kernel
theorem dX9_hear_8 : DC mX9_hear 8 (.invokevirtual 66) 3 := by decide +kernel
theorem dX9_hear_11 : DC mX9_hear 11 (.ifCond .ne 7) 3 := by decide +kernel
theorem dX9_hear_14 : DC mX9_hear 14 (.sipush (-1001)) 3 := by decide +kernel
theorem dX9_hear_17 : DC mX9_hear 17 (.ireturn) 1 := by decide +kernel
theorem dX9_hear_18 : DC mX9_hear 18 (.lload_n 2) 1 := by decide +kernel
theorem dX9_hear_19 : DC mX9_hear 19 (.invokestatic 187) 3 := by decide +kernel
theorem dX9_hear_22 : DC mX9_hear 22 (.ifCond .ne 7) 3 := by decide +kernel
theorem dX9_hear_25 : DC mX9_hear 25 (.sipush (-1002)) 3 := by decide +kernel
theorem dX9_hear_28 : DC mX9_hear 28 (.ireturn) 1 := by decide +kernel
theorem dX9_hear_29 : DC mX9_hear 29 (.aload_n 0) 1 := by decide +kernel
theorem dX9_hear_30 : DC mX9_hear 30 (.getfield 41) 3 := by decide +kernel
theorem dX9_hear_33 : DC mX9_hear 33 (.iload_n 1) 1 := by decide +kernel
theorem dX9_hear_34 : DC mX9_hear 34 (.lload_n 2) 1 := by decide +kernel
theorem dX9_hear_35 : DC mX9_hear 35 (.invokevirtual 199) 3 := by decide +kernel
theorem dX9_hear_38 : DC mX9_hear 38 (.ireturn) 1 := by decide +kernel
theorem dX9_hush_0 : DC mX9_hush 0 (.aload_n 0) 1 := by decide +kernel
theorem dX9_hush_1 : DC mX9_hush 1 (.getfield 41) 3 := by decide +kernel
theorem dX9_hush_4 : DC mX9_hush 4 (.getfield 162) 3 := by decide +kernel
theorem dX9_hush_7 : DC mX9_hush 7 (.istore_n 1) 1 := by decide +kernel
theorem dX9_hush_8 : DC mX9_hush 8 (.aload_n 0) 1 := by decide +kernel
theorem dX9_hush_9 : DC mX9_hush 9 (.getfield 41) 3 := by decide +kernel
theorem dX9_hush_12 : DC mX9_hush 12 (.invokevirtual 203) 3 := by decide +kernel
theorem dX9_hush_15 : DC mX9_hush 15 (.iload_n 1) 1 := by decide +kernel
theorem dX9_hush_16 : DC mX9_hush 16 (.ireturn) 1 := by decide +kernel
theorem dX9_blamed_0 : DC mX9_blamed 0 (.iload_n 1) 1 := by decide +kernel
theorem dX9_blamed_1 : DC mX9_blamed 1 (.iconst 0) 1 := by decide +kernel
theorem dX9_blamed_2 : DC mX9_blamed 2 (.iconst 3) 1 := by decide +kernel
theorem dX9_blamed_3 : DC mX9_blamed 3 (.invokestatic 52) 3 := by decide +kernel
theorem dX9_blamed_6 : DC mX9_blamed 6 (.ifCond .ne 7) 3 := by decide +kernel
theorem dX9_blamed_9 : DC mX9_blamed 9 (.sipush (-1002)) 3 := by decide +kernel
theorem dX9_blamed_12 : DC mX9_blamed 12 (.ireturn) 1 := by decide +kernel
theorem dX9_blamed_13 : DC mX9_blamed 13 (.aload_n 0) 1 := by decide +kernel
theorem dX9_blamed_14 : DC mX9_blamed 14 (.getfield 48) 3 := by decide +kernel
theorem dX9_blamed_17 : DC mX9_blamed 17 (.invokevirtual 206) 3 := by decide +kernel
theorem dX9_blamed_20 : DC mX9_blamed 20 (.aload_n 0) 1 := by decide +kernel
theorem dX9_blamed_21 : DC mX9_blamed 21 (.iconst (-1)) 1 := by decide +kernel
theorem dX9_blamed_22 : DC mX9_blamed 22 (.iconst (-1)) 1 := by decide +kernel
theorem dX9_blamed_23 : DC mX9_blamed 23 (.invokevirtual 207) 3 := by decide +kernel
theorem dX9_blamed_26 : DC mX9_blamed 26 (.aload_n 0) 1 := by decide +kernel
theorem dX9_blamed_27 : DC mX9_blamed 27 (.getfield 48) 3 := by decide +kernel
theorem dX9_blamed_30 : DC mX9_blamed 30 (.getfield 211) 3 := by decide +kernel
theorem dX9_blamed_33 : DC mX9_blamed 33 (.ifCond .ne 7) 3 := by decide +kernel
theorem dX9_blamed_36 : DC mX9_blamed 36 (.aload_n 0) 1 := by decide +kernel
theorem dX9_blamed_37 : DC mX9_blamed 37 (.invokevirtual 212) 3 := by decide +kernel
theorem dX9_blamed_40 : DC mX9_blamed 40 (.aload_n 0) 1 := by decide +kernel
theorem dX9_blamed_41 : DC mX9_blamed 41 (.getfield 48) 3 := by decide +kernel
theorem dX9_blamed_44 : DC mX9_blamed 44 (.getfield 211) 3 := by decide +kernel
theorem dX9_blamed_47 : DC mX9_blamed 47 (.ifCond .ne 7) 3 := by decide +kernel
theorem dX9_blamed_50 : DC mX9_blamed 50 (.aload_n 0) 1 := by decide +kernel
theorem dX9_blamed_51 : DC mX9_blamed 51 (.invokevirtual 215) 3 := by decide +kernel
theorem dX9_blamed_54 : DC mX9_blamed 54 (.iload_n 1) 1 := by decide +kernel
theorem dX9_blamed_55 : DC mX9_blamed 55 (.tableswitch 49 0 2 #[25, 33, 41]) 25 := by decide +kernel
theorem dX9_blamed_80 : DC mX9_blamed 80 (.aload_n 0) 1 := by decide +kernel
theorem dX9_blamed_81 : DC mX9_blamed 81 (.getfield 48) 3 := by decide +kernel
theorem dX9_blamed_84 : DC mX9_blamed 84 (.invokevirtual 218) 3 := by decide +kernel
theorem dX9_blamed_87 : DC mX9_blamed 87 (.ireturn) 1 := by decide +kernel
theorem dX9_blamed_88 : DC mX9_blamed 88 (.aload_n 0) 1 := by decide +kernel
theorem dX9_blamed_89 : DC mX9_blamed 89 (.getfield 48) 3 := by decide +kernel
theorem dX9_blamed_92 : DC mX9_blamed 92 (.getfield 211) 3 := by decide +kernel
theorem dX9_blamed_95 : DC mX9_blamed 95 (.ireturn) 1 := by decide +kernel
theorem dX9_blamed_96 : DC mX9_blamed 96 (.aload_n 0) 1 := by decide +kernel
theorem dX9_blamed_97 : DC mX9_blamed 97 (.getfield 48) 3 := by decide +kernel
theorem dX9_blamed_100 : DC mX9_blamed 100 (.getfield 221) 3 := by decide +kernel
theorem dX9_blamed_103 : DC mX9_blamed 103 (.ireturn) 1 := by decide +kernel
theorem dX9_blamed_104 : DC mX9_blamed 104 (.aload_n 0) 1 := by decide +kernel
theorem dX9_blamed_105 : DC mX9_blamed 105 (.getfield 48) 3 := by decide +kernel
theorem dX9_blamed_108 : DC mX9_blamed 108 (.getfield 224) 3 := by decide +kernel
theorem dX9_blamed_111 : DC mX9_blamed 111 (.ireturn) 1 := by decide +kernel
theorem dX9_mended_0 : DC mX9_mended 0 (.aload_n 0) 1 := by decide +kernel
theorem dX9_mended_1 : DC mX9_mended 1 (.getfield 12) 3 := by decide +kernel
theorem dX9_mended_4 : DC mX9_mended 4 (.getfield 56) 3 := by decide +kernel
theorem dX9_mended_7 : DC mX9_mended 7 (.iload_n 1) 1 := by decide +kernel
theorem dX9_mended_8 : DC mX9_mended 8 (.invokevirtual 66) 3 := by decide +kernel
theorem dX9_mended_11 : DC mX9_mended 11 (.ifCond .eq 24) 3 := by decide +kernel
theorem dX9_mended_14 : DC mX9_mended 14 (.iload 4) 2 := by decide +kernel
theorem dX9_mended_16 : DC mX9_mended 16 (.iconst (-1)) 1 := by decide +kernel
theorem dX9_mended_17 : DC mX9_mended 17 (.if_icmp .eq 22) 3 := by decide +kernel
theorem dX9_mended_20 : DC mX9_mended 20 (.aload_n 0) 1 := by decide +kernel
theorem dX9_mended_21 : DC mX9_mended 21 (.getfield 12) 3 := by decide +kernel
theorem dX9_mended_24 : DC mX9_mended 24 (.getfield 74) 3 := by decide +kernel
theorem dX9_mended_27 : DC mX9_mended 27 (.iload 4) 2 := by decide +kernel
theorem dX9_mended_29 : DC mX9_mended 29 (.invokevirtual 83) 3 := by decide +kernel
theorem dX9_mended_32 : DC mX9_mended 32 (.ifCond .ne 7) 3 := by decide +kernel
theorem dX9_mended_35 : DC mX9_mended 35 (.sipush (-1001)) 3 := by decide +kernel
theorem dX9_mended_38 : DC mX9_mended 38 (.ireturn) 1 := by decide +kernel
theorem dX9_mended_39 : DC mX9_mended 39 (.iload_n 2) 1 := by decide +kernel
theorem dX9_mended_40 : DC mX9_mended 40 (.iconst 0) 1 := by decide +kernel
theorem dX9_mended_41 : DC mX9_mended 41 (.sipush 200) 3 := by decide +kernel
theorem dX9_mended_44 : DC mX9_mended 44 (.invokestatic 52) 3 := by decide +kernel
theorem dX9_mended_47 : DC mX9_mended 47 (.ifCond .eq 14) 3 := by decide +kernel
theorem dX9_mended_50 : DC mX9_mended 50 (.iload_n 3) 1 := by decide +kernel
theorem dX9_mended_51 : DC mX9_mended 51 (.iconst 1) 1 := by decide +kernel
theorem dX9_mended_52 : DC mX9_mended 52 (.sipush 200) 3 := by decide +kernel
theorem dX9_mended_55 : DC mX9_mended 55 (.invokestatic 52) 3 := by decide +kernel
theorem dX9_mended_58 : DC mX9_mended 58 (.ifCond .ne 7) 3 := by decide +kernel
theorem dX9_mended_61 : DC mX9_mended 61 (.sipush (-1002)) 3 := by decide +kernel
theorem dX9_mended_64 : DC mX9_mended 64 (.ireturn) 1 := by decide +kernel
theorem dX9_mended_65 : DC mX9_mended 65 (.aload_n 0) 1 := by decide +kernel
theorem dX9_mended_66 : DC mX9_mended 66 (.iload_n 1) 1 := by decide +kernel
theorem dX9_mended_67 : DC mX9_mended 67 (.iload_n 2) 1 := by decide +kernel
theorem dX9_mended_68 : DC mX9_mended 68 (.iload_n 3) 1 := by decide +kernel
theorem dX9_mended_69 : DC mX9_mended 69 (.invokevirtual 227) 3 := by decide +kernel
theorem dX9_mended_72 : DC mX9_mended 72 (.istore 5) 2 := by decide +kernel
theorem dX9_mended_74 : DC mX9_mended 74 (.iload 4) 2 := by decide +kernel
theorem dX9_mended_76 : DC mX9_mended 76 (.iconst (-1)) 1 := by decide +kernel
theorem dX9_mended_77 : DC mX9_mended 77 (.if_icmp .ne 19) 3 := by decide +kernel
theorem dX9_mended_80 : DC mX9_mended 80 (.iload 5) 2 := by decide +kernel
theorem dX9_mended_82 : DC mX9_mended 82 (.iconst (-1)) 1 := by decide +kernel
theorem dX9_mended_83 : DC mX9_mended 83 (.if_icmp .ne 7) 3 := by decide +kernel
theorem dX9_mended_86 : DC mX9_mended 86 (.iconst (-1)) 1 := by decide +kernel
theorem dX9_mended_87 : DC mX9_mended 87 (.goto 8) 3 := by decide +kernel
theorem dX9_mended_90 : DC mX9_mended 90 (.iload 5) 2 := by decide +kernel
theorem dX9_mended_92 : DC mX9_mended 92 (.invokestatic 230) 3 := by decide +kernel
theorem dX9_mended_95 : DC mX9_mended 95 (.ireturn) 1 := by decide +kernel
theorem dX9_mended_96 : DC mX9_mended 96 (.iload 5) 2 := by decide +kernel
theorem dX9_mended_98 : DC mX9_mended 98 (.iconst (-1)) 1 := by decide +kernel
theorem dX9_mended_99 : DC mX9_mended 99 (.if_icmp .ne 7) 3 := by decide +kernel
theorem dX9_mended_102 : DC mX9_mended 102 (.iconst 0) 1 := by decide +kernel
theorem dX9_mended_103 : DC mX9_mended 103 (.goto 10) 3 := by decide +kernel
theorem dX9_mended_106 : DC mX9_mended 106 (.iload 5) 2 := by decide +kernel
theorem dX9_mended_108 : DC mX9_mended 108 (.iload 4) 2 := by decide +kernel
theorem dX9_mended_110 : DC mX9_mended 110 (.invokestatic 233) 3 := by decide +kernel
theorem dX9_mended_113 : DC mX9_mended 113 (.ireturn) 1 := by decide +kernel
theorem dX9_within_0 : DC mX9_within 0 (.iload_n 1) 1 := by decide +kernel
theorem dX9_within_1 : DC mX9_within 1 (.iload_n 0) 1 := by decide +kernel
theorem dX9_within_2 : DC mX9_within 2 (.if_icmp .gt 12) 3 := by decide +kernel
theorem dX9_within_5 : DC mX9_within 5 (.iload_n 0) 1 := by decide +kernel
theorem dX9_within_6 : DC mX9_within 6 (.iload_n 2) 1 := by decide +kernel
theorem dX9_within_7 : DC mX9_within 7 (.if_icmp .gt 7) 3 := by decide +kernel
theorem dX9_within_10 : DC mX9_within 10 (.iconst 1) 1 := by decide +kernel
theorem dX9_within_11 : DC mX9_within 11 (.goto 4) 3 := by decide +kernel
theorem dX9_within_14 : DC mX9_within 14 (.iconst 0) 1 := by decide +kernel
theorem dX9_within_15 : DC mX9_within 15 (.ireturn) 1 := by decide +kernel
theorem dX9_isRow_0 : DC mX9_isRow 0 (.lload_n 0) 1 := by decide +kernel
theorem dX9_isRow_1 : DC mX9_isRow 1 (.ldc2_w 236) 3 := by decide +kernel
theorem dX9_isRow_4 : DC mX9_isRow 4 (.land) 1 := by decide +kernel
theorem dX9_isRow_5 : DC mX9_isRow 5 (.lconst 0) 1 := by decide +kernel
theorem dX9_isRow_6 : DC mX9_isRow 6 (.lcmp) 1 := by decide +kernel
theorem dX9_isRow_7 : DC mX9_isRow 7 (.ifCond .ne 7) 3 := by decide +kernel
theorem dX9_isRow_10 : DC mX9_isRow 10 (.iconst 1) 1 := by decide +kernel
theorem dX9_isRow_11 : DC mX9_isRow 11 (.goto 4) 3 := by decide +kernel
theorem dX9_isRow_14 : DC mX9_isRow 14 (.iconst 0) 1 := by decide +kernel
theorem dX9_isRow_15 : DC mX9_isRow 15 (.ireturn) 1 := by decide +kernel
theorem dX9_goesInto_0 : DC mX9_goesInto 0 (.iload_n 0) 1 := by decide +kernel
theorem dX9_goesInto_1 : DC mX9_goesInto 1 (.ifCond .le 13) 3 := by decide +kernel
theorem dX9_goesInto_4 : DC mX9_goesInto 4 (.iload_n 1) 1 := by decide +kernel
theorem dX9_goesInto_5 : DC mX9_goesInto 5 (.iload_n 0) 1 := by decide +kernel
theorem dX9_goesInto_6 : DC mX9_goesInto 6 (.irem) 1 := by decide +kernel
theorem dX9_goesInto_7 : DC mX9_goesInto 7 (.ifCond .ne 7) 3 := by decide +kernel
theorem dX9_goesInto_10 : DC mX9_goesInto 10 (.iconst 1) 1 := by decide +kernel
theorem dX9_goesInto_11 : DC mX9_goesInto 11 (.goto 4) 3 := by decide +kernel
theorem dX9_goesInto_14 : DC mX9_goesInto 14 (.iconst 0) 1 := by decide +kernel
theorem dX9_goesInto_15 : DC mX9_goesInto 15 (.ireturn) 1 := by decide +kernel
theorem dX9_sum_0 : DC mX9_sum 0 (.iconst 0) 1 := by decide +kernel
theorem dX9_sum_1 : DC mX9_sum 1 (.istore_n 1) 1 := by decide +kernel
theorem dX9_sum_2 : DC mX9_sum 2 (.aload_n 0) 1 := by decide +kernel
theorem dX9_sum_3 : DC mX9_sum 3 (.astore_n 2) 1 := by decide +kernel
theorem dX9_sum_4 : DC mX9_sum 4 (.aload_n 2) 1 := by decide +kernel
theorem dX9_sum_5 : DC mX9_sum 5 (.arraylength) 1 := by decide +kernel
theorem dX9_sum_6 : DC mX9_sum 6 (.istore_n 3) 1 := by decide +kernel
theorem dX9_sum_7 : DC mX9_sum 7 (.iconst 0) 1 := by decide +kernel
theorem dX9_sum_8 : DC mX9_sum 8 (.istore 4) 2 := by decide +kernel
theorem dX9_sum_10 : DC mX9_sum 10 (.iload 4) 2 := by decide +kernel
theorem dX9_sum_12 : DC mX9_sum 12 (.iload_n 3) 1 := by decide +kernel
theorem dX9_sum_13 : DC mX9_sum 13 (.if_icmp .ge 20) 3 := by decide +kernel
theorem dX9_sum_16 : DC mX9_sum 16 (.aload_n 2) 1 := by decide +kernel
theorem dX9_sum_17 : DC mX9_sum 17 (.iload 4) 2 := by decide +kernel
theorem dX9_sum_19 : DC mX9_sum 19 (.iaload) 1 := by decide +kernel
theorem dX9_sum_20 : DC mX9_sum 20 (.istore 5) 2 := by decide +kernel
theorem dX9_sum_22 : DC mX9_sum 22 (.iload_n 1) 1 := by decide +kernel
theorem dX9_sum_23 : DC mX9_sum 23 (.iload 5) 2 := by decide +kernel
theorem dX9_sum_25 : DC mX9_sum 25 (.iadd) 1 := by decide +kernel
theorem dX9_sum_26 : DC mX9_sum 26 (.istore_n 1) 1 := by decide +kernel
theorem dX9_sum_27 : DC mX9_sum 27 (.iinc 4 1) 3 := by decide +kernel
theorem dX9_sum_30 : DC mX9_sum 30 (.goto (-20)) 3 := by decide +kernel
theorem dX9_sum_33 : DC mX9_sum 33 (.iload_n 1) 1 := by decide +kernel
theorem dX9_sum_34 : DC mX9_sum 34 (.ireturn) 1 := by decide +kernel
theorem dX9_roundLength_0 : DC mX9_roundLength 0 (.aload_n 0) 1 := by decide +kernel
theorem dX9_roundLength_1 : DC mX9_roundLength 1 (.aload_n 0) 1 := by decide +kernel
theorem dX9_roundLength_2 : DC mX9_roundLength 2 (.getfield 32) 3 := by decide +kernel
theorem dX9_roundLength_5 : DC mX9_roundLength 5 (.sipush 1000) 3 := by decide +kernel
theorem dX9_roundLength_8 : DC mX9_roundLength 8 (.invokevirtual 238) 3 := by decide +kernel
theorem dX9_roundLength_11 : DC mX9_roundLength 11 (.aload_n 0) 1 := by decide +kernel
theorem dX9_roundLength_12 : DC mX9_roundLength 12 (.aload_n 0) 1 := by decide +kernel
theorem dX9_roundLength_13 : DC mX9_roundLength 13 (.getfield 35) 3 := by decide +kernel
theorem dX9_roundLength_16 : DC mX9_roundLength 16 (.sipush 1000) 3 := by decide +kernel
theorem dX9_roundLength_19 : DC mX9_roundLength 19 (.invokevirtual 238) 3 := by decide +kernel
theorem dX9_roundLength_22 : DC mX9_roundLength 22 (.iconst 1) 1 := by decide +kernel
theorem dX9_roundLength_23 : DC mX9_roundLength 23 (.istore_n 1) 1 := by decide +kernel
theorem dX9_roundLength_24 : DC mX9_roundLength 24 (.iload_n 1) 1 := by decide +kernel
theorem dX9_roundLength_25 : DC mX9_roundLength 25 (.sipush 1000) 3 := by decide +kernel
theorem dX9_roundLength_28 : DC mX9_roundLength 28 (.if_icmp .gt 44) 3 := by decide +kernel
theorem dX9_roundLength_31 : DC mX9_roundLength 31 (.aload_n 0) 1 := by decide +kernel
theorem dX9_roundLength_32 : DC mX9_roundLength 32 (.getfield 35) 3 := by decide +kernel
theorem dX9_roundLength_35 : DC mX9_roundLength 35 (.invokevirtual 163) 3 := by decide +kernel
theorem dX9_roundLength_38 : DC mX9_roundLength 38 (.pop) 1 := by decide +kernel
theorem dX9_roundLength_39 : DC mX9_roundLength 39 (.aload_n 0) 1 := by decide +kernel
theorem dX9_roundLength_40 : DC mX9_roundLength 40 (.getfield 12) 3 := by decide +kernel
theorem dX9_roundLength_43 : DC mX9_roundLength 43 (.iload_n 1) 1 := by decide +kernel
theorem dX9_roundLength_44 : DC mX9_roundLength 44 (.invokevirtual 242) 3 := by decide +kernel
theorem dX9_roundLength_47 : DC mX9_roundLength 47 (.ifCond .eq 19) 3 := by decide +kernel
theorem dX9_roundLength_50 : DC mX9_roundLength 50 (.aload_n 0) 1 := by decide +kernel
theorem dX9_roundLength_51 : DC mX9_roundLength 51 (.getfield 35) 3 := by decide +kernel
theorem dX9_roundLength_54 : DC mX9_roundLength 54 (.aload_n 0) 1 := by decide +kernel
theorem dX9_roundLength_55 : DC mX9_roundLength 55 (.getfield 32) 3 := by decide +kernel
theorem dX9_roundLength_58 : DC mX9_roundLength 58 (.invokevirtual 245) 3 := by decide +kernel
theorem dX9_roundLength_61 : DC mX9_roundLength 61 (.ifCond .eq 5) 3 := by decide +kernel
theorem dX9_roundLength_64 : DC mX9_roundLength 64 (.iload_n 1) 1 := by decide +kernel
theorem dX9_roundLength_65 : DC mX9_roundLength 65 (.ireturn) 1 := by decide +kernel
theorem dX9_roundLength_66 : DC mX9_roundLength 66 (.iinc 1 1) 3 := by decide +kernel
theorem dX9_roundLength_69 : DC mX9_roundLength 69 (.goto (-45)) 3 := by decide +kernel
theorem dX9_roundLength_72 : DC mX9_roundLength 72 (.iconst (-1)) 1 := by decide +kernel
theorem dX9_roundLength_73 : DC mX9_roundLength 73 (.ireturn) 1 := by decide +kernel
theorem dX9_roundStart_0 : DC mX9_roundStart 0 (.aload_n 0) 1 := by decide +kernel
theorem dX9_roundStart_1 : DC mX9_roundStart 1 (.aload_n 0) 1 := by decide +kernel
theorem dX9_roundStart_2 : DC mX9_roundStart 2 (.getfield 32) 3 := by decide +kernel
theorem dX9_roundStart_5 : DC mX9_roundStart 5 (.bipush 31) 2 := by decide +kernel
theorem dX9_roundStart_7 : DC mX9_roundStart 7 (.invokevirtual 238) 3 := by decide +kernel
theorem dX9_roundStart_10 : DC mX9_roundStart 10 (.aload_n 0) 1 := by decide +kernel
theorem dX9_roundStart_11 : DC mX9_roundStart 11 (.aload_n 0) 1 := by decide +kernel
theorem dX9_roundStart_12 : DC mX9_roundStart 12 (.getfield 35) 3 := by decide +kernel
theorem dX9_roundStart_15 : DC mX9_roundStart 15 (.bipush 31) 2 := by decide +kernel
theorem dX9_roundStart_17 : DC mX9_roundStart 17 (.iload_n 1) 1 := by decide +kernel
theorem dX9_roundStart_18 : DC mX9_roundStart 18 (.iadd) 1 := by decide +kernel
theorem dX9_roundStart_19 : DC mX9_roundStart 19 (.invokevirtual 238) 3 := by decide +kernel
theorem dX9_roundStart_22 : DC mX9_roundStart 22 (.bipush 31) 2 := by decide +kernel
theorem dX9_roundStart_24 : DC mX9_roundStart 24 (.istore_n 2) 1 := by decide +kernel
theorem dX9_roundStart_25 : DC mX9_roundStart 25 (.iload_n 2) 1 := by decide +kernel
theorem dX9_roundStart_26 : DC mX9_roundStart 26 (.sipush 1000) 3 := by decide +kernel
theorem dX9_roundStart_29 : DC mX9_roundStart 29 (.if_icmp .ge 41) 3 := by decide +kernel
theorem dX9_roundStart_32 : DC mX9_roundStart 32 (.aload_n 0) 1 := by decide +kernel
theorem dX9_roundStart_33 : DC mX9_roundStart 33 (.getfield 35) 3 := by decide +kernel
theorem dX9_roundStart_36 : DC mX9_roundStart 36 (.aload_n 0) 1 := by decide +kernel
theorem dX9_roundStart_37 : DC mX9_roundStart 37 (.getfield 32) 3 := by decide +kernel
theorem dX9_roundStart_40 : DC mX9_roundStart 40 (.invokevirtual 245) 3 := by decide +kernel
theorem dX9_roundStart_43 : DC mX9_roundStart 43 (.ifCond .eq 5) 3 := by decide +kernel
theorem dX9_roundStart_46 : DC mX9_roundStart 46 (.iload_n 2) 1 := by decide +kernel
theorem dX9_roundStart_47 : DC mX9_roundStart 47 (.ireturn) 1 := by decide +kernel
theorem dX9_roundStart_48 : DC mX9_roundStart 48 (.aload_n 0) 1 := by decide +kernel
theorem dX9_roundStart_49 : DC mX9_roundStart 49 (.getfield 32) 3 := by decide +kernel
theorem dX9_roundStart_52 : DC mX9_roundStart 52 (.invokevirtual 163) 3 := by decide +kernel
theorem dX9_roundStart_55 : DC mX9_roundStart 55 (.pop) 1 := by decide +kernel
theorem dX9_roundStart_56 : DC mX9_roundStart 56 (.aload_n 0) 1 := by decide +kernel
theorem dX9_roundStart_57 : DC mX9_roundStart 57 (.getfield 35) 3 := by decide +kernel
theorem dX9_roundStart_60 : DC mX9_roundStart 60 (.invokevirtual 163) 3 := by decide +kernel
theorem dX9_roundStart_63 : DC mX9_roundStart 63 (.pop) 1 := by decide +kernel
theorem dX9_roundStart_64 : DC mX9_roundStart 64 (.iinc 2 1) 3 := by decide +kernel
theorem dX9_roundStart_67 : DC mX9_roundStart 67 (.goto (-42)) 3 := by decide +kernel
theorem dX9_roundStart_70 : DC mX9_roundStart 70 (.sipush 1000) 3 := by decide +kernel
theorem dX9_roundStart_73 : DC mX9_roundStart 73 (.ireturn) 1 := by decide +kernel
theorem dX9_runPlain_0 : DC mX9_runPlain 0 (.aload_n 0) 1 := by decide +kernel
theorem dX9_runPlain_1 : DC mX9_runPlain 1 (.getfield 28) 3 := by decide +kernel
theorem dX9_runPlain_4 : DC mX9_runPlain 4 (.iconst 1) 1 := by decide +kernel
theorem dX9_runPlain_5 : DC mX9_runPlain 5 (.invokevirtual 177) 3 := by decide +kernel
theorem dX9_runPlain_8 : DC mX9_runPlain 8 (.aload_n 1) 1 := by decide +kernel
theorem dX9_runPlain_9 : DC mX9_runPlain 9 (.invokevirtual 172) 3 := by decide +kernel
theorem dX9_runPlain_12 : DC mX9_runPlain 12 (.iconst 0) 1 := by decide +kernel
theorem dX9_runPlain_13 : DC mX9_runPlain 13 (.istore_n 3) 1 := by decide +kernel
theorem dX9_runPlain_14 : DC mX9_runPlain 14 (.iload_n 3) 1 := by decide +kernel
theorem dX9_runPlain_15 : DC mX9_runPlain 15 (.iload_n 2) 1 := by decide +kernel
theorem dX9_runPlain_16 : DC mX9_runPlain 16 (.if_icmp .ge 14) 3 := by decide +kernel
theorem dX9_runPlain_19 : DC mX9_runPlain 19 (.aload_n 1) 1 := by decide +kernel
theorem dX9_runPlain_20 : DC mX9_runPlain 20 (.invokevirtual 163) 3 := by decide +kernel
theorem dX9_runPlain_23 : DC mX9_runPlain 23 (.pop) 1 := by decide +kernel
theorem dX9_runPlain_24 : DC mX9_runPlain 24 (.iinc 3 1) 3 := by decide +kernel
theorem dX9_runPlain_27 : DC mX9_runPlain 27 (.goto (-13)) 3 := by decide +kernel
theorem dX9_runPlain_30 : DC mX9_runPlain 30 (.return_) 1 := by decide +kernel
theorem dX9_loneRow_0 : DC mX9_loneRow 0 (.lconst 0) 1 := by decide +kernel
theorem dX9_loneRow_1 : DC mX9_loneRow 1 (.lstore 4) 2 := by decide +kernel
theorem dX9_loneRow_3 : DC mX9_loneRow 3 (.iconst 0) 1 := by decide +kernel
theorem dX9_loneRow_4 : DC mX9_loneRow 4 (.istore 6) 2 := by decide +kernel
theorem dX9_loneRow_6 : DC mX9_loneRow 6 (.iconst 0) 1 := by decide +kernel
theorem dX9_loneRow_7 : DC mX9_loneRow 7 (.istore 7) 2 := by decide +kernel
theorem dX9_loneRow_9 : DC mX9_loneRow 9 (.iconst 0) 1 := by decide +kernel
theorem dX9_loneRow_10 : DC mX9_loneRow 10 (.istore 8) 2 := by decide +kernel
theorem dX9_loneRow_12 : DC mX9_loneRow 12 (.iload 8) 2 := by decide +kernel
theorem dX9_loneRow_14 : DC mX9_loneRow 14 (.bipush 60) 2 := by decide +kernel
theorem dX9_loneRow_16 : DC mX9_loneRow 16 (.if_icmp .ge 56) 3 := by decide +kernel
theorem dX9_loneRow_19 : DC mX9_loneRow 19 (.iload 7) 2 := by decide +kernel
theorem dX9_loneRow_21 : DC mX9_loneRow 21 (.ifCond .le 9) 3 := by decide +kernel
theorem dX9_loneRow_24 : DC mX9_loneRow 24 (.iinc 7 (-1)) 3 := by decide +kernel
theorem dX9_loneRow_27 : DC mX9_loneRow 27 (.goto 39) 3 := by decide +kernel
theorem dX9_loneRow_30 : DC mX9_loneRow 30 (.iload_n 3) 1 := by decide +kernel
theorem dX9_loneRow_31 : DC mX9_loneRow 31 (.iload 8) 2 := by decide +kernel
theorem dX9_loneRow_33 : DC mX9_loneRow 33 (.invokestatic 249) 3 := by decide +kernel
theorem dX9_loneRow_36 : DC mX9_loneRow 36 (.ifCond .eq 9) 3 := by decide +kernel
theorem dX9_loneRow_39 : DC mX9_loneRow 39 (.iload 6) 2 := by decide +kernel
theorem dX9_loneRow_41 : DC mX9_loneRow 41 (.iload_n 2) 1 := by decide +kernel
theorem dX9_loneRow_42 : DC mX9_loneRow 42 (.iadd) 1 := by decide +kernel
theorem dX9_loneRow_43 : DC mX9_loneRow 43 (.istore 6) 2 := by decide +kernel
theorem dX9_loneRow_45 : DC mX9_loneRow 45 (.iload 6) 2 := by decide +kernel
theorem dX9_loneRow_47 : DC mX9_loneRow 47 (.iload_n 0) 1 := by decide +kernel
theorem dX9_loneRow_48 : DC mX9_loneRow 48 (.if_icmp .lt 18) 3 := by decide +kernel
theorem dX9_loneRow_51 : DC mX9_loneRow 51 (.lload 4) 2 := by decide +kernel
theorem dX9_loneRow_53 : DC mX9_loneRow 53 (.lconst 1) 1 := by decide +kernel
theorem dX9_loneRow_54 : DC mX9_loneRow 54 (.iload 8) 2 := by decide +kernel
theorem dX9_loneRow_56 : DC mX9_loneRow 56 (.lshl) 1 := by decide +kernel
theorem dX9_loneRow_57 : DC mX9_loneRow 57 (.lor) 1 := by decide +kernel
theorem dX9_loneRow_58 : DC mX9_loneRow 58 (.lstore 4) 2 := by decide +kernel
theorem dX9_loneRow_60 : DC mX9_loneRow 60 (.iconst 0) 1 := by decide +kernel
theorem dX9_loneRow_61 : DC mX9_loneRow 61 (.istore 6) 2 := by decide +kernel
theorem dX9_loneRow_63 : DC mX9_loneRow 63 (.iload_n 1) 1 := by decide +kernel
theorem dX9_loneRow_64 : DC mX9_loneRow 64 (.istore 7) 2 := by decide +kernel
theorem dX9_loneRow_66 : DC mX9_loneRow 66 (.iinc 8 1) 3 := by decide +kernel
theorem dX9_loneRow_69 : DC mX9_loneRow 69 (.goto (-57)) 3 := by decide +kernel
theorem dX9_loneRow_72 : DC mX9_loneRow 72 (.lload 4) 2 := by decide +kernel
theorem dX9_loneRow_74 : DC mX9_loneRow 74 (.lreturn) 1 := by decide +kernel
theorem dX9_offOf_0 : DC mX9_offOf 0 (.bipush 60) 2 := by decide +kernel
theorem dX9_offOf_2 : DC mX9_offOf 2 (.istore 4) 2 := by decide +kernel
theorem dX9_offOf_4 : DC mX9_offOf 4 (.bipush (-5)) 2 := by decide +kernel
theorem dX9_offOf_6 : DC mX9_offOf 6 (.istore 5) 2 := by decide +kernel
theorem dX9_offOf_8 : DC mX9_offOf 8 (.iload 5) 2 := by decide +kernel
theorem dX9_offOf_10 : DC mX9_offOf 10 (.iconst 5) 1 := by decide +kernel
theorem dX9_offOf_11 : DC mX9_offOf 11 (.if_icmp .gt 52) 3 := by decide +kernel
theorem dX9_offOf_14 : DC mX9_offOf 14 (.iload 5) 2 := by decide +kernel
theorem dX9_offOf_16 : DC mX9_offOf 16 (.ifCond .ge 11) 3 := by decide +kernel
theorem dX9_offOf_19 : DC mX9_offOf 19 (.lload_n 2) 1 := by decide +kernel
theorem dX9_offOf_20 : DC mX9_offOf 20 (.iload 5) 2 := by decide +kernel
theorem dX9_offOf_22 : DC mX9_offOf 22 (.ineg) 1 := by decide +kernel
theorem dX9_offOf_23 : DC mX9_offOf 23 (.lushr) 1 := by decide +kernel
theorem dX9_offOf_24 : DC mX9_offOf 24 (.goto 11) 3 := by decide +kernel
theorem dX9_offOf_27 : DC mX9_offOf 27 (.lload_n 2) 1 := by decide +kernel
theorem dX9_offOf_28 : DC mX9_offOf 28 (.iload 5) 2 := by decide +kernel
theorem dX9_offOf_30 : DC mX9_offOf 30 (.lshl) 1 := by decide +kernel
theorem dX9_offOf_31 : DC mX9_offOf 31 (.ldc2_w 253) 3 := by decide +kernel
theorem dX9_offOf_34 : DC mX9_offOf 34 (.land) 1 := by decide +kernel
theorem dX9_offOf_35 : DC mX9_offOf 35 (.lstore 6) 2 := by decide +kernel
theorem dX9_offOf_37 : DC mX9_offOf 37 (.iload 4) 2 := by decide +kernel
theorem dX9_offOf_39 : DC mX9_offOf 39 (.lload_n 0) 1 := by decide +kernel
theorem dX9_offOf_40 : DC mX9_offOf 40 (.lload 6) 2 := by decide +kernel
theorem dX9_offOf_42 : DC mX9_offOf 42 (.lxor) 1 := by decide +kernel
theorem dX9_offOf_43 : DC mX9_offOf 43 (.invokestatic 255) 3 := by decide +kernel
theorem dX9_offOf_46 : DC mX9_offOf 46 (.iload 5) 2 := by decide +kernel
theorem dX9_offOf_48 : DC mX9_offOf 48 (.invokestatic 260) 3 := by decide +kernel
theorem dX9_offOf_51 : DC mX9_offOf 51 (.iadd) 1 := by decide +kernel
theorem dX9_offOf_52 : DC mX9_offOf 52 (.invokestatic 265) 3 := by decide +kernel
theorem dX9_offOf_55 : DC mX9_offOf 55 (.istore 4) 2 := by decide +kernel
theorem dX9_offOf_57 : DC mX9_offOf 57 (.iinc 5 1) 3 := by decide +kernel
theorem dX9_offOf_60 : DC mX9_offOf 60 (.goto (-52)) 3 := by decide +kernel
theorem dX9_offOf_63 : DC mX9_offOf 63 (.iload 4) 2 := by decide +kernel
theorem dX9_offOf_65 : DC mX9_offOf 65 (.ireturn) 1 := by decide +kernel
theorem dX9_trySingleFaults_0 : DC mX9_trySingleFaults 0 (.iconst 0) 1 := by decide +kernel
theorem dX9_trySingleFaults_1 : DC mX9_trySingleFaults 1 (.istore_n 1) 1 := by decide +kernel
theorem dX9_trySingleFaults_2 : DC mX9_trySingleFaults 2 (.iload_n 1) 1 := by decide +kernel
theorem dX9_trySingleFaults_3 : DC mX9_trySingleFaults 3 (.bipush 30) 2 := by decide +kernel
theorem dX9_trySingleFaults_5 : DC mX9_trySingleFaults 5 (.if_icmp .ge 26) 3 := by decide +kernel
theorem dX9_trySingleFaults_8 : DC mX9_trySingleFaults 8 (.aload_n 0) 1 := by decide +kernel
theorem dX9_trySingleFaults_9 : DC mX9_trySingleFaults 9 (.getfield 12) 3 := by decide +kernel
theorem dX9_trySingleFaults_12 : DC mX9_trySingleFaults 12 (.iload_n 1) 1 := by decide +kernel
theorem dX9_trySingleFaults_13 : DC mX9_trySingleFaults 13 (.invokevirtual 268) 3 := by decide +kernel
theorem dX9_trySingleFaults_16 : DC mX9_trySingleFaults 16 (.ifCond .eq 9) 3 := by decide +kernel
theorem dX9_trySingleFaults_19 : DC mX9_trySingleFaults 19 (.aload_n 0) 1 := by decide +kernel
theorem dX9_trySingleFaults_20 : DC mX9_trySingleFaults 20 (.iload_n 1) 1 := by decide +kernel
theorem dX9_trySingleFaults_21 : DC mX9_trySingleFaults 21 (.iconst (-1)) 1 := by decide +kernel
theorem dX9_trySingleFaults_22 : DC mX9_trySingleFaults 22 (.invokevirtual 207) 3 := by decide +kernel
theorem dX9_trySingleFaults_25 : DC mX9_trySingleFaults 25 (.iinc 1 1) 3 := by decide +kernel
theorem dX9_trySingleFaults_28 : DC mX9_trySingleFaults 28 (.goto (-26)) 3 := by decide +kernel
theorem dX9_trySingleFaults_31 : DC mX9_trySingleFaults 31 (.return_) 1 := by decide +kernel
theorem dX9_tryPairsOfFaults_0 : DC mX9_tryPairsOfFaults 0 (.iconst 0) 1 := by decide +kernel
theorem dX9_tryPairsOfFaults_1 : DC mX9_tryPairsOfFaults 1 (.istore_n 1) 1 := by decide +kernel
theorem dX9_tryPairsOfFaults_2 : DC mX9_tryPairsOfFaults 2 (.iload_n 1) 1 := by decide +kernel
theorem dX9_tryPairsOfFaults_3 : DC mX9_tryPairsOfFaults 3 (.bipush 30) 2 := by decide +kernel
theorem dX9_tryPairsOfFaults_5 : DC mX9_tryPairsOfFaults 5 (.if_icmp .ge 53) 3 := by decide +kernel
theorem dX9_tryPairsOfFaults_8 : DC mX9_tryPairsOfFaults 8 (.iload_n 1) 1 := by decide +kernel
theorem dX9_tryPairsOfFaults_9 : DC mX9_tryPairsOfFaults 9 (.iconst 1) 1 := by decide +kernel
theorem dX9_tryPairsOfFaults_10 : DC mX9_tryPairsOfFaults 10 (.iadd) 1 := by decide +kernel
theorem dX9_tryPairsOfFaults_11 : DC mX9_tryPairsOfFaults 11 (.istore_n 2) 1 := by decide +kernel
theorem dX9_tryPairsOfFaults_12 : DC mX9_tryPairsOfFaults 12 (.iload_n 2) 1 := by decide +kernel
theorem dX9_tryPairsOfFaults_13 : DC mX9_tryPairsOfFaults 13 (.bipush 30) 2 := by decide +kernel
theorem dX9_tryPairsOfFaults_15 : DC mX9_tryPairsOfFaults 15 (.if_icmp .ge 37) 3 := by decide +kernel
theorem dX9_tryPairsOfFaults_18 : DC mX9_tryPairsOfFaults 18 (.aload_n 0) 1 := by decide +kernel
theorem dX9_tryPairsOfFaults_19 : DC mX9_tryPairsOfFaults 19 (.getfield 12) 3 := by decide +kernel
theorem dX9_tryPairsOfFaults_22 : DC mX9_tryPairsOfFaults 22 (.iload_n 1) 1 := by decide +kernel
theorem dX9_tryPairsOfFaults_23 : DC mX9_tryPairsOfFaults 23 (.invokevirtual 268) 3 := by decide +kernel
theorem dX9_tryPairsOfFaults_26 : DC mX9_tryPairsOfFaults 26 (.ifCond .eq 20) 3 := by decide +kernel
theorem dX9_tryPairsOfFaults_29 : DC mX9_tryPairsOfFaults 29 (.aload_n 0) 1 := by decide +kernel
theorem dX9_tryPairsOfFaults_30 : DC mX9_tryPairsOfFaults 30 (.getfield 12) 3 := by decide +kernel
theorem dX9_tryPairsOfFaults_33 : DC mX9_tryPairsOfFaults 33 (.iload_n 2) 1 := by decide +kernel
theorem dX9_tryPairsOfFaults_34 : DC mX9_tryPairsOfFaults 34 (.invokevirtual 268) 3 := by decide +kernel
theorem dX9_tryPairsOfFaults_37 : DC mX9_tryPairsOfFaults 37 (.ifCond .eq 9) 3 := by decide +kernel
theorem dX9_tryPairsOfFaults_40 : DC mX9_tryPairsOfFaults 40 (.aload_n 0) 1 := by decide +kernel
theorem dX9_tryPairsOfFaults_41 : DC mX9_tryPairsOfFaults 41 (.iload_n 1) 1 := by decide +kernel
theorem dX9_tryPairsOfFaults_42 : DC mX9_tryPairsOfFaults 42 (.iload_n 2) 1 := by decide +kernel
theorem dX9_tryPairsOfFaults_43 : DC mX9_tryPairsOfFaults 43 (.invokevirtual 207) 3 := by decide +kernel
theorem dX9_tryPairsOfFaults_46 : DC mX9_tryPairsOfFaults 46 (.iinc 2 1) 3 := by decide +kernel
theorem dX9_tryPairsOfFaults_49 : DC mX9_tryPairsOfFaults 49 (.goto (-37)) 3 := by decide +kernel
theorem dX9_tryPairsOfFaults_52 : DC mX9_tryPairsOfFaults 52 (.iinc 1 1) 3 := by decide +kernel
theorem dX9_tryPairsOfFaults_55 : DC mX9_tryPairsOfFaults 55 (.goto (-53)) 3 := by decide +kernel
theorem dX9_tryPairsOfFaults_58 : DC mX9_tryPairsOfFaults 58 (.return_) 1 := by decide +kernel
theorem dX9_tryFaults_0 : DC mX9_tryFaults 0 (.aload_n 0) 1 := by decide +kernel
theorem dX9_tryFaults_1 : DC mX9_tryFaults 1 (.getfield 28) 3 := by decide +kernel
theorem dX9_tryFaults_4 : DC mX9_tryFaults 4 (.iconst 0) 1 := by decide +kernel
theorem dX9_tryFaults_5 : DC mX9_tryFaults 5 (.invokevirtual 177) 3 := by decide +kernel
theorem dX9_tryFaults_8 : DC mX9_tryFaults 8 (.aload_n 0) 1 := by decide +kernel
theorem dX9_tryFaults_9 : DC mX9_tryFaults 9 (.getfield 28) 3 := by decide +kernel
theorem dX9_tryFaults_12 : DC mX9_tryFaults 12 (.iload_n 1) 1 := by decide +kernel
theorem dX9_tryFaults_13 : DC mX9_tryFaults 13 (.invokevirtual 271) 3 := by decide +kernel
theorem dX9_tryFaults_16 : DC mX9_tryFaults 16 (.aload_n 0) 1 := by decide +kernel
theorem dX9_tryFaults_17 : DC mX9_tryFaults 17 (.getfield 28) 3 := by decide +kernel
theorem dX9_tryFaults_20 : DC mX9_tryFaults 20 (.iload_n 2) 1 := by decide +kernel
theorem dX9_tryFaults_21 : DC mX9_tryFaults 21 (.invokevirtual 271) 3 := by decide +kernel
theorem dX9_tryFaults_24 : DC mX9_tryFaults 24 (.aload_n 0) 1 := by decide +kernel
theorem dX9_tryFaults_25 : DC mX9_tryFaults 25 (.getfield 32) 3 := by decide +kernel
theorem dX9_tryFaults_28 : DC mX9_tryFaults 28 (.invokevirtual 172) 3 := by decide +kernel
theorem dX9_tryFaults_31 : DC mX9_tryFaults 31 (.iconst 0) 1 := by decide +kernel
theorem dX9_tryFaults_32 : DC mX9_tryFaults 32 (.istore_n 3) 1 := by decide +kernel
theorem dX9_tryFaults_33 : DC mX9_tryFaults 33 (.iload_n 3) 1 := by decide +kernel
theorem dX9_tryFaults_34 : DC mX9_tryFaults 34 (.bipush 60) 2 := by decide +kernel
theorem dX9_tryFaults_36 : DC mX9_tryFaults 36 (.if_icmp .ge 28) 3 := by decide +kernel
theorem dX9_tryFaults_39 : DC mX9_tryFaults 39 (.aload_n 0) 1 := by decide +kernel
theorem dX9_tryFaults_40 : DC mX9_tryFaults 40 (.getfield 41) 3 := by decide +kernel
theorem dX9_tryFaults_43 : DC mX9_tryFaults 43 (.iload_n 3) 1 := by decide +kernel
theorem dX9_tryFaults_44 : DC mX9_tryFaults 44 (.aload_n 0) 1 := by decide +kernel
theorem dX9_tryFaults_45 : DC mX9_tryFaults 45 (.getfield 32) 3 := by decide +kernel
theorem dX9_tryFaults_48 : DC mX9_tryFaults 48 (.invokevirtual 163) 3 := by decide +kernel
theorem dX9_tryFaults_51 : DC mX9_tryFaults 51 (.invokevirtual 275) 3 := by decide +kernel
theorem dX9_tryFaults_54 : DC mX9_tryFaults 54 (.ifCond .ne 4) 3 := by decide +kernel
theorem dX9_tryFaults_57 : DC mX9_tryFaults 57 (.return_) 1 := by decide +kernel
theorem dX9_tryFaults_58 : DC mX9_tryFaults 58 (.iinc 3 1) 3 := by decide +kernel
theorem dX9_tryFaults_61 : DC mX9_tryFaults 61 (.goto (-28)) 3 := by decide +kernel
theorem dX9_tryFaults_64 : DC mX9_tryFaults 64 (.aload_n 0) 1 := by decide +kernel
theorem dX9_tryFaults_65 : DC mX9_tryFaults 65 (.getfield 48) 3 := by decide +kernel
theorem dX9_tryFaults_68 : DC mX9_tryFaults 68 (.iload_n 1) 1 := by decide +kernel
theorem dX9_tryFaults_69 : DC mX9_tryFaults 69 (.iload_n 2) 1 := by decide +kernel
theorem dX9_tryFaults_70 : DC mX9_tryFaults 70 (.invokevirtual 278) 3 := by decide +kernel
theorem dX9_tryFaults_73 : DC mX9_tryFaults 73 (.return_) 1 := by decide +kernel
theorem dX9_leastWay_0 : DC mX9_leastWay 0 (.iconst 0) 1 := by decide +kernel
theorem dX9_leastWay_1 : DC mX9_leastWay 1 (.istore 4) 2 := by decide +kernel
theorem dX9_leastWay_3 : DC mX9_leastWay 3 (.iload 4) 2 := by decide +kernel
theorem dX9_leastWay_5 : DC mX9_leastWay 5 (.bipush 8) 2 := by decide +kernel
theorem dX9_leastWay_7 : DC mX9_leastWay 7 (.if_icmp .gt 60) 3 := by decide +kernel
theorem dX9_leastWay_10 : DC mX9_leastWay 10 (.iconst 0) 1 := by decide +kernel
theorem dX9_leastWay_11 : DC mX9_leastWay 11 (.istore 5) 2 := by decide +kernel
theorem dX9_leastWay_13 : DC mX9_leastWay 13 (.iload 5) 2 := by decide +kernel
theorem dX9_leastWay_15 : DC mX9_leastWay 15 (.sipush 625) 3 := by decide +kernel
theorem dX9_leastWay_18 : DC mX9_leastWay 18 (.if_icmp .ge 43) 3 := by decide +kernel
theorem dX9_leastWay_21 : DC mX9_leastWay 21 (.iload 5) 2 := by decide +kernel
theorem dX9_leastWay_23 : DC mX9_leastWay 23 (.invokestatic 230) 3 := by decide +kernel
theorem dX9_leastWay_26 : DC mX9_leastWay 26 (.iload 4) 2 := by decide +kernel
theorem dX9_leastWay_28 : DC mX9_leastWay 28 (.if_icmp .ne 27) 3 := by decide +kernel
theorem dX9_leastWay_31 : DC mX9_leastWay 31 (.aload_n 0) 1 := by decide +kernel
theorem dX9_leastWay_32 : DC mX9_leastWay 32 (.iload 5) 2 := by decide +kernel
theorem dX9_leastWay_34 : DC mX9_leastWay 34 (.invokevirtual 280) 3 := by decide +kernel
theorem dX9_leastWay_37 : DC mX9_leastWay 37 (.ifCond .eq 18) 3 := by decide +kernel
theorem dX9_leastWay_40 : DC mX9_leastWay 40 (.aload_n 0) 1 := by decide +kernel
theorem dX9_leastWay_41 : DC mX9_leastWay 41 (.iload 5) 2 := by decide +kernel
theorem dX9_leastWay_43 : DC mX9_leastWay 43 (.iload_n 1) 1 := by decide +kernel
theorem dX9_leastWay_44 : DC mX9_leastWay 44 (.iload_n 2) 1 := by decide +kernel
theorem dX9_leastWay_45 : DC mX9_leastWay 45 (.iload_n 3) 1 := by decide +kernel
theorem dX9_leastWay_46 : DC mX9_leastWay 46 (.invokevirtual 283) 3 := by decide +kernel
theorem dX9_leastWay_49 : DC mX9_leastWay 49 (.ifCond .eq 6) 3 := by decide +kernel
theorem dX9_leastWay_52 : DC mX9_leastWay 52 (.iload 5) 2 := by decide +kernel
theorem dX9_leastWay_54 : DC mX9_leastWay 54 (.ireturn) 1 := by decide +kernel
theorem dX9_leastWay_55 : DC mX9_leastWay 55 (.iinc 5 1) 3 := by decide +kernel
theorem dX9_leastWay_58 : DC mX9_leastWay 58 (.goto (-45)) 3 := by decide +kernel
theorem dX9_leastWay_61 : DC mX9_leastWay 61 (.iinc 4 1) 3 := by decide +kernel
theorem dX9_leastWay_64 : DC mX9_leastWay 64 (.goto (-61)) 3 := by decide +kernel
theorem dX9_leastWay_67 : DC mX9_leastWay 67 (.iconst (-1)) 1 := by decide +kernel
theorem dX9_leastWay_68 : DC mX9_leastWay 68 (.ireturn) 1 := by decide +kernel
theorem dX9_changeIn_0 : DC mX9_changeIn 0 (.iload_n 0) 1 := by decide +kernel
theorem dX9_changeIn_1 : DC mX9_changeIn 1 (.istore_n 2) 1 := by decide +kernel
theorem dX9_changeIn_2 : DC mX9_changeIn 2 (.iconst 3) 1 := by decide +kernel
theorem dX9_changeIn_3 : DC mX9_changeIn 3 (.istore_n 3) 1 := by decide +kernel
theorem dX9_changeIn_4 : DC mX9_changeIn 4 (.iload_n 3) 1 := by decide +kernel
theorem dX9_changeIn_5 : DC mX9_changeIn 5 (.iload_n 1) 1 := by decide +kernel
theorem dX9_changeIn_6 : DC mX9_changeIn 6 (.if_icmp .le 13) 3 := by decide +kernel
theorem dX9_changeIn_9 : DC mX9_changeIn 9 (.iload_n 2) 1 := by decide +kernel
theorem dX9_changeIn_10 : DC mX9_changeIn 10 (.iconst 5) 1 := by decide +kernel
theorem dX9_changeIn_11 : DC mX9_changeIn 11 (.idiv) 1 := by decide +kernel
theorem dX9_changeIn_12 : DC mX9_changeIn 12 (.istore_n 2) 1 := by decide +kernel
theorem dX9_changeIn_13 : DC mX9_changeIn 13 (.iinc 3 (-1)) 3 := by decide +kernel
theorem dX9_changeIn_16 : DC mX9_changeIn 16 (.goto (-12)) 3 := by decide +kernel
theorem dX9_changeIn_19 : DC mX9_changeIn 19 (.iload_n 2) 1 := by decide +kernel
theorem dX9_changeIn_20 : DC mX9_changeIn 20 (.iconst 5) 1 := by decide +kernel
theorem dX9_changeIn_21 : DC mX9_changeIn 21 (.irem) 1 := by decide +kernel
theorem dX9_changeIn_22 : DC mX9_changeIn 22 (.iconst 2) 1 := by decide +kernel
theorem dX9_changeIn_23 : DC mX9_changeIn 23 (.isub) 1 := by decide +kernel
theorem dX9_changeIn_24 : DC mX9_changeIn 24 (.ireturn) 1 := by decide +kernel
theorem dX9_sizeOf_0 : DC mX9_sizeOf 0 (.iconst 0) 1 := by decide +kernel
theorem dX9_sizeOf_1 : DC mX9_sizeOf 1 (.istore_n 1) 1 := by decide +kernel
theorem dX9_sizeOf_2 : DC mX9_sizeOf 2 (.iconst 0) 1 := by decide +kernel
theorem dX9_sizeOf_3 : DC mX9_sizeOf 3 (.istore_n 2) 1 := by decide +kernel
theorem dX9_sizeOf_4 : DC mX9_sizeOf 4 (.iload_n 2) 1 := by decide +kernel
theorem dX9_sizeOf_5 : DC mX9_sizeOf 5 (.iconst 4) 1 := by decide +kernel
theorem dX9_sizeOf_6 : DC mX9_sizeOf 6 (.if_icmp .ge 20) 3 := by decide +kernel
theorem dX9_sizeOf_9 : DC mX9_sizeOf 9 (.iload_n 1) 1 := by decide +kernel
theorem dX9_sizeOf_10 : DC mX9_sizeOf 10 (.iload_n 0) 1 := by decide +kernel
theorem dX9_sizeOf_11 : DC mX9_sizeOf 11 (.iload_n 2) 1 := by decide +kernel
theorem dX9_sizeOf_12 : DC mX9_sizeOf 12 (.invokestatic 233) 3 := by decide +kernel
theorem dX9_sizeOf_15 : DC mX9_sizeOf 15 (.invokestatic 260) 3 := by decide +kernel
theorem dX9_sizeOf_18 : DC mX9_sizeOf 18 (.iadd) 1 := by decide +kernel
theorem dX9_sizeOf_19 : DC mX9_sizeOf 19 (.istore_n 1) 1 := by decide +kernel
theorem dX9_sizeOf_20 : DC mX9_sizeOf 20 (.iinc 2 1) 3 := by decide +kernel
theorem dX9_sizeOf_23 : DC mX9_sizeOf 23 (.goto (-19)) 3 := by decide +kernel
theorem dX9_sizeOf_26 : DC mX9_sizeOf 26 (.iload_n 1) 1 := by decide +kernel
theorem dX9_sizeOf_27 : DC mX9_sizeOf 27 (.ireturn) 1 := by decide +kernel
theorem dX9_isOpen_0 : DC mX9_isOpen 0 (.iconst 0) 1 := by decide +kernel
theorem dX9_isOpen_1 : DC mX9_isOpen 1 (.istore_n 2) 1 := by decide +kernel
theorem dX9_isOpen_2 : DC mX9_isOpen 2 (.iload_n 2) 1 := by decide +kernel
theorem dX9_isOpen_3 : DC mX9_isOpen 3 (.iconst 4) 1 := by decide +kernel
theorem dX9_isOpen_4 : DC mX9_isOpen 4 (.if_icmp .ge 61) 3 := by decide +kernel
theorem dX9_isOpen_7 : DC mX9_isOpen 7 (.iload_n 1) 1 := by decide +kernel
theorem dX9_isOpen_8 : DC mX9_isOpen 8 (.iload_n 2) 1 := by decide +kernel
theorem dX9_isOpen_9 : DC mX9_isOpen 9 (.invokestatic 233) 3 := by decide +kernel
theorem dX9_isOpen_12 : DC mX9_isOpen 12 (.istore_n 3) 1 := by decide +kernel
theorem dX9_isOpen_13 : DC mX9_isOpen 13 (.aload_n 0) 1 := by decide +kernel
theorem dX9_isOpen_14 : DC mX9_isOpen 14 (.getfield 12) 3 := by decide +kernel
theorem dX9_isOpen_17 : DC mX9_isOpen 17 (.getfield 74) 3 := by decide +kernel
theorem dX9_isOpen_20 : DC mX9_isOpen 20 (.iload_n 2) 1 := by decide +kernel
theorem dX9_isOpen_21 : DC mX9_isOpen 21 (.invokevirtual 83) 3 := by decide +kernel
theorem dX9_isOpen_24 : DC mX9_isOpen 24 (.ifCond .eq 29) 3 := by decide +kernel
theorem dX9_isOpen_27 : DC mX9_isOpen 27 (.aload_n 0) 1 := by decide +kernel
theorem dX9_isOpen_28 : DC mX9_isOpen 28 (.getfield 12) 3 := by decide +kernel
theorem dX9_isOpen_31 : DC mX9_isOpen 31 (.getfield 74) 3 := by decide +kernel
theorem dX9_isOpen_34 : DC mX9_isOpen 34 (.getfield 84) 3 := by decide +kernel
theorem dX9_isOpen_37 : DC mX9_isOpen 37 (.iload_n 2) 1 := by decide +kernel
theorem dX9_isOpen_38 : DC mX9_isOpen 38 (.iaload) 1 := by decide +kernel
theorem dX9_isOpen_39 : DC mX9_isOpen 39 (.iload_n 3) 1 := by decide +kernel
theorem dX9_isOpen_40 : DC mX9_isOpen 40 (.iadd) 1 := by decide +kernel
theorem dX9_isOpen_41 : DC mX9_isOpen 41 (.iconst 0) 1 := by decide +kernel
theorem dX9_isOpen_42 : DC mX9_isOpen 42 (.bipush 20) 2 := by decide +kernel
theorem dX9_isOpen_44 : DC mX9_isOpen 44 (.invokestatic 52) 3 := by decide +kernel
theorem dX9_isOpen_47 : DC mX9_isOpen 47 (.ifCond .ne 12) 3 := by decide +kernel
theorem dX9_isOpen_50 : DC mX9_isOpen 50 (.goto 7) 3 := by decide +kernel
theorem dX9_isOpen_53 : DC mX9_isOpen 53 (.iload_n 3) 1 := by decide +kernel
theorem dX9_isOpen_54 : DC mX9_isOpen 54 (.ifCond .eq 5) 3 := by decide +kernel
theorem dX9_isOpen_57 : DC mX9_isOpen 57 (.iconst 0) 1 := by decide +kernel
theorem dX9_isOpen_58 : DC mX9_isOpen 58 (.ireturn) 1 := by decide +kernel
theorem dX9_isOpen_59 : DC mX9_isOpen 59 (.iinc 2 1) 3 := by decide +kernel
theorem dX9_isOpen_62 : DC mX9_isOpen 62 (.goto (-60)) 3 := by decide +kernel
theorem dX9_isOpen_65 : DC mX9_isOpen 65 (.iconst 1) 1 := by decide +kernel
theorem dX9_isOpen_66 : DC mX9_isOpen 66 (.ireturn) 1 := by decide +kernel
theorem dX9_knocksJust_0 : DC mX9_knocksJust 0 (.aload_n 0) 1 := by decide +kernel
theorem dX9_knocksJust_1 : DC mX9_knocksJust 1 (.getfield 28) 3 := by decide +kernel
theorem dX9_knocksJust_4 : DC mX9_knocksJust 4 (.iconst 0) 1 := by decide +kernel
theorem dX9_knocksJust_5 : DC mX9_knocksJust 5 (.invokevirtual 177) 3 := by decide +kernel
theorem dX9_knocksJust_8 : DC mX9_knocksJust 8 (.iconst 0) 1 := by decide +kernel
theorem dX9_knocksJust_9 : DC mX9_knocksJust 9 (.istore 5) 2 := by decide +kernel
theorem dX9_knocksJust_11 : DC mX9_knocksJust 11 (.iload 5) 2 := by decide +kernel
theorem dX9_knocksJust_13 : DC mX9_knocksJust 13 (.iconst 4) 1 := by decide +kernel
theorem dX9_knocksJust_14 : DC mX9_knocksJust 14 (.if_icmp .ge 25) 3 := by decide +kernel
theorem dX9_knocksJust_17 : DC mX9_knocksJust 17 (.aload_n 0) 1 := by decide +kernel
theorem dX9_knocksJust_18 : DC mX9_knocksJust 18 (.getfield 28) 3 := by decide +kernel
theorem dX9_knocksJust_21 : DC mX9_knocksJust 21 (.getfield 287) 3 := by decide +kernel
theorem dX9_knocksJust_24 : DC mX9_knocksJust 24 (.iload 5) 2 := by decide +kernel
theorem dX9_knocksJust_26 : DC mX9_knocksJust 26 (.iload_n 1) 1 := by decide +kernel
theorem dX9_knocksJust_27 : DC mX9_knocksJust 27 (.iload 5) 2 := by decide +kernel
theorem dX9_knocksJust_29 : DC mX9_knocksJust 29 (.invokestatic 233) 3 := by decide +kernel
theorem dX9_knocksJust_32 : DC mX9_knocksJust 32 (.iastore) 1 := by decide +kernel
theorem dX9_knocksJust_33 : DC mX9_knocksJust 33 (.iinc 5 1) 3 := by decide +kernel
theorem dX9_knocksJust_36 : DC mX9_knocksJust 36 (.goto (-25)) 3 := by decide +kernel
theorem dX9_knocksJust_39 : DC mX9_knocksJust 39 (.aload_n 0) 1 := by decide +kernel
theorem dX9_knocksJust_40 : DC mX9_knocksJust 40 (.getfield 32) 3 := by decide +kernel
theorem dX9_knocksJust_43 : DC mX9_knocksJust 43 (.invokevirtual 172) 3 := by decide +kernel
theorem dX9_knocksJust_46 : DC mX9_knocksJust 46 (.iconst 0) 1 := by decide +kernel
theorem dX9_knocksJust_47 : DC mX9_knocksJust 47 (.istore 5) 2 := by decide +kernel
theorem dX9_knocksJust_49 : DC mX9_knocksJust 49 (.iconst 0) 1 := by decide +kernel
theorem dX9_knocksJust_50 : DC mX9_knocksJust 50 (.istore 6) 2 := by decide +kernel
theorem dX9_knocksJust_52 : DC mX9_knocksJust 52 (.iload 6) 2 := by decide +kernel
theorem dX9_knocksJust_54 : DC mX9_knocksJust 54 (.iload 4) 2 := by decide +kernel
theorem dX9_knocksJust_56 : DC mX9_knocksJust 56 (.if_icmp .ge 43) 3 := by decide +kernel
theorem dX9_knocksJust_59 : DC mX9_knocksJust 59 (.iload 5) 2 := by decide +kernel
theorem dX9_knocksJust_61 : DC mX9_knocksJust 61 (.iload_n 3) 1 := by decide +kernel
theorem dX9_knocksJust_62 : DC mX9_knocksJust 62 (.if_icmp .gt 37) 3 := by decide +kernel
theorem dX9_knocksJust_65 : DC mX9_knocksJust 65 (.iload 5) 2 := by decide +kernel
theorem dX9_knocksJust_67 : DC mX9_knocksJust 67 (.iload 4) 2 := by decide +kernel
theorem dX9_knocksJust_69 : DC mX9_knocksJust 69 (.iadd) 1 := by decide +kernel
theorem dX9_knocksJust_70 : DC mX9_knocksJust 70 (.iload 6) 2 := by decide +kernel
theorem dX9_knocksJust_72 : DC mX9_knocksJust 72 (.isub) 1 := by decide +kernel
theorem dX9_knocksJust_73 : DC mX9_knocksJust 73 (.iload_n 3) 1 := by decide +kernel
theorem dX9_knocksJust_74 : DC mX9_knocksJust 74 (.if_icmp .lt 25) 3 := by decide +kernel
theorem dX9_knocksJust_77 : DC mX9_knocksJust 77 (.iload 5) 2 := by decide +kernel
theorem dX9_knocksJust_79 : DC mX9_knocksJust 79 (.aload_n 0) 1 := by decide +kernel
theorem dX9_knocksJust_80 : DC mX9_knocksJust 80 (.getfield 32) 3 := by decide +kernel
theorem dX9_knocksJust_83 : DC mX9_knocksJust 83 (.invokevirtual 163) 3 := by decide +kernel
theorem dX9_knocksJust_86 : DC mX9_knocksJust 86 (.iload_n 2) 1 := by decide +kernel
theorem dX9_knocksJust_87 : DC mX9_knocksJust 87 (.iushr) 1 := by decide +kernel
theorem dX9_knocksJust_88 : DC mX9_knocksJust 88 (.iconst 1) 1 := by decide +kernel
theorem dX9_knocksJust_89 : DC mX9_knocksJust 89 (.iand) 1 := by decide +kernel
theorem dX9_knocksJust_90 : DC mX9_knocksJust 90 (.iadd) 1 := by decide +kernel
theorem dX9_knocksJust_91 : DC mX9_knocksJust 91 (.istore 5) 2 := by decide +kernel
theorem dX9_knocksJust_93 : DC mX9_knocksJust 93 (.iinc 6 1) 3 := by decide +kernel
theorem dX9_knocksJust_96 : DC mX9_knocksJust 96 (.goto (-44)) 3 := by decide +kernel
theorem dX9_knocksJust_99 : DC mX9_knocksJust 99 (.iload 5) 2 := by decide +kernel
theorem dX9_knocksJust_101 : DC mX9_knocksJust 101 (.iload_n 3) 1 := by decide +kernel
theorem dX9_knocksJust_102 : DC mX9_knocksJust 102 (.if_icmp .ne 7) 3 := by decide +kernel
theorem dX9_knocksJust_105 : DC mX9_knocksJust 105 (.iconst 1) 1 := by decide +kernel
theorem dX9_knocksJust_106 : DC mX9_knocksJust 106 (.goto 4) 3 := by decide +kernel
theorem dX9_knocksJust_109 : DC mX9_knocksJust 109 (.iconst 0) 1 := by decide +kernel
theorem dX9_knocksJust_110 : DC mX9_knocksJust 110 (.ireturn) 1 := by decide +kernel
theorem dX10_in_0 : DC mX10_in 0 (.lload_n 0) 1 := by decide +kernel
theorem dX10_in_1 : DC mX10_in 1 (.lload_n 2) 1 := by decide +kernel
theorem dX10_in_2 : DC mX10_in 2 (.lcmp) 1 := by decide +kernel
theorem dX10_in_3 : DC mX10_in 3 (.ifCond .lt 14) 3 := by decide +kernel
theorem dX10_in_6 : DC mX10_in 6 (.lload_n 0) 1 := by decide +kernel
theorem dX10_in_7 : DC mX10_in 7 (.lload 4) 2 := by decide +kernel
theorem dX10_in_9 : DC mX10_in 9 (.lcmp) 1 := by decide +kernel
theorem dX10_in_10 : DC mX10_in 10 (.ifCond .gt 7) 3 := by decide +kernel
theorem dX10_in_13 : DC mX10_in 13 (.iconst 1) 1 := by decide +kernel
theorem dX10_in_14 : DC mX10_in 14 (.goto 4) 3 := by decide +kernel
theorem dX10_in_17 : DC mX10_in 17 (.iconst 0) 1 := by decide +kernel
theorem dX10_in_18 : DC mX10_in 18 (.ireturn) 1 := by decide +kernel
theorem dX10_noBucket_0 : DC mX10_noBucket 0 (.iload_n 1) 1 := by decide +kernel
theorem dX10_noBucket_1 : DC mX10_noBucket 1 (.i2l) 1 := by decide +kernel
theorem dX10_noBucket_2 : DC mX10_noBucket 2 (.lconst 0) 1 := by decide +kernel
theorem dX10_noBucket_3 : DC mX10_noBucket 3 (.aload_n 0) 1 := by decide +kernel
theorem dX10_noBucket_4 : DC mX10_noBucket 4 (.getfield 92) 3 := by decide +kernel
theorem dX10_noBucket_7 : DC mX10_noBucket 7 (.iconst 1) 1 := by decide +kernel
theorem dX10_noBucket_8 : DC mX10_noBucket 8 (.isub) 1 := by decide +kernel
theorem dX10_noBucket_9 : DC mX10_noBucket 9 (.i2l) 1 := by decide +kernel
theorem dX10_noBucket_10 : DC mX10_noBucket 10 (.invokestatic 95) 3 := by decide +kernel
theorem dX10_noBucket_13 : DC mX10_noBucket 13 (.ifCond .ne 7) 3 := by decide +kernel
theorem dX10_noBucket_16 : DC mX10_noBucket 16 (.iconst 1) 1 := by decide +kernel
theorem dX10_noBucket_17 : DC mX10_noBucket 17 (.goto 4) 3 := by decide +kernel
theorem dX10_noBucket_20 : DC mX10_noBucket 20 (.iconst 0) 1 := by decide +kernel
theorem dX10_noBucket_21 : DC mX10_noBucket 21 (.ireturn) 1 := by decide +kernel
theorem dX10_noSpout_0 : DC mX10_noSpout 0 (.iload_n 1) 1 := by decide +kernel
theorem dX10_noSpout_1 : DC mX10_noSpout 1 (.i2l) 1 := by decide +kernel
theorem dX10_noSpout_2 : DC mX10_noSpout 2 (.lconst 0) 1 := by decide +kernel
theorem dX10_noSpout_3 : DC mX10_noSpout 3 (.aload_n 0) 1 := by decide +kernel
theorem dX10_noSpout_4 : DC mX10_noSpout 4 (.getfield 99) 3 := by decide +kernel
theorem dX10_noSpout_7 : DC mX10_noSpout 7 (.iconst 1) 1 := by decide +kernel
theorem dX10_noSpout_8 : DC mX10_noSpout 8 (.isub) 1 := by decide +kernel
theorem dX10_noSpout_9 : DC mX10_noSpout 9 (.i2l) 1 := by decide +kernel
theorem dX10_noSpout_10 : DC mX10_noSpout 10 (.invokestatic 95) 3 := by decide +kernel
theorem dX10_noSpout_13 : DC mX10_noSpout 13 (.ifCond .ne 7) 3 := by decide +kernel
theorem dX10_noSpout_16 : DC mX10_noSpout 16 (.iconst 1) 1 := by decide +kernel
theorem dX10_noSpout_17 : DC mX10_noSpout 17 (.goto 4) 3 := by decide +kernel
theorem dX10_noSpout_20 : DC mX10_noSpout 20 (.iconst 0) 1 := by decide +kernel
theorem dX10_noSpout_21 : DC mX10_noSpout 21 (.ireturn) 1 := by decide +kernel
theorem dX10_bucket_0 : DC mX10_bucket 0 (.iload_n 1) 1 := by decide +kernel
theorem dX10_bucket_1 : DC mX10_bucket 1 (.i2l) 1 := by decide +kernel
theorem dX10_bucket_2 : DC mX10_bucket 2 (.lconst 1) 1 := by decide +kernel
theorem dX10_bucket_3 : DC mX10_bucket 3 (.ldc2_w 102) 3 := by decide +kernel
theorem dX10_bucket_6 : DC mX10_bucket 6 (.invokestatic 95) 3 := by decide +kernel
theorem dX10_bucket_9 : DC mX10_bucket 9 (.ifCond .eq 15) 3 := by decide +kernel
theorem dX10_bucket_12 : DC mX10_bucket 12 (.iload_n 2) 1 := by decide +kernel
theorem dX10_bucket_13 : DC mX10_bucket 13 (.i2l) 1 := by decide +kernel
theorem dX10_bucket_14 : DC mX10_bucket 14 (.lconst 0) 1 := by decide +kernel
theorem dX10_bucket_15 : DC mX10_bucket 15 (.ldc2_w 104) 3 := by decide +kernel
theorem dX10_bucket_18 : DC mX10_bucket 18 (.invokestatic 95) 3 := by decide +kernel
theorem dX10_bucket_21 : DC mX10_bucket 21 (.ifCond .ne 7) 3 := by decide +kernel
theorem dX10_bucket_24 : DC mX10_bucket 24 (.sipush (-1002)) 3 := by decide +kernel
theorem dX10_bucket_27 : DC mX10_bucket 27 (.ireturn) 1 := by decide +kernel
theorem dX10_bucket_28 : DC mX10_bucket 28 (.aload_n 0) 1 := by decide +kernel
theorem dX10_bucket_29 : DC mX10_bucket 29 (.getfield 92) 3 := by decide +kernel
theorem dX10_bucket_32 : DC mX10_bucket 32 (.bipush 8) 2 := by decide +kernel
theorem dX10_bucket_34 : DC mX10_bucket 34 (.if_icmp .ne 7) 3 := by decide +kernel
theorem dX10_bucket_37 : DC mX10_bucket 37 (.sipush (-1004)) 3 := by decide +kernel
theorem dX10_bucket_40 : DC mX10_bucket 40 (.ireturn) 1 := by decide +kernel
theorem dX10_bucket_41 : DC mX10_bucket 41 (.aload_n 0) 1 := by decide +kernel
theorem dX10_bucket_42 : DC mX10_bucket 42 (.getfield 7) 3 := by decide +kernel
theorem dX10_bucket_45 : DC mX10_bucket 45 (.aload_n 0) 1 := by decide +kernel
theorem dX10_bucket_46 : DC mX10_bucket 46 (.getfield 92) 3 := by decide +kernel
theorem dX10_bucket_49 : DC mX10_bucket 49 (.iload_n 1) 1 := by decide +kernel
theorem dX10_bucket_50 : DC mX10_bucket 50 (.iastore) 1 := by decide +kernel
theorem dX10_bucket_51 : DC mX10_bucket 51 (.aload_n 0) 1 := by decide +kernel
theorem dX10_bucket_52 : DC mX10_bucket 52 (.getfield 13) 3 := by decide +kernel
theorem dX10_bucket_55 : DC mX10_bucket 55 (.aload_n 0) 1 := by decide +kernel
theorem dX10_bucket_56 : DC mX10_bucket 56 (.getfield 92) 3 := by decide +kernel
theorem dX10_bucket_59 : DC mX10_bucket 59 (.iload_n 2) 1 := by decide +kernel
theorem dX10_bucket_60 : DC mX10_bucket 60 (.iastore) 1 := by decide +kernel
theorem dX10_bucket_61 : DC mX10_bucket 61 (.aload_n 0) 1 := by decide +kernel
theorem dX10_bucket_62 : DC mX10_bucket 62 (.getfield 16) 3 := by decide +kernel
theorem dX10_bucket_65 : DC mX10_bucket 65 (.aload_n 0) 1 := by decide +kernel
theorem dX10_bucket_66 : DC mX10_bucket 66 (.getfield 92) 3 := by decide +kernel
theorem dX10_bucket_69 : DC mX10_bucket 69 (.iconst (-1)) 1 := by decide +kernel
theorem dX10_bucket_70 : DC mX10_bucket 70 (.iastore) 1 := by decide +kernel
theorem dX10_bucket_71 : DC mX10_bucket 71 (.aload_n 0) 1 := by decide +kernel
theorem dX10_bucket_72 : DC mX10_bucket 72 (.getfield 19) 3 := by decide +kernel
theorem dX10_bucket_75 : DC mX10_bucket 75 (.aload_n 0) 1 := by decide +kernel
theorem dX10_bucket_76 : DC mX10_bucket 76 (.getfield 92) 3 := by decide +kernel
theorem dX10_bucket_79 : DC mX10_bucket 79 (.iconst (-1)) 1 := by decide +kernel
theorem dX10_bucket_80 : DC mX10_bucket 80 (.iastore) 1 := by decide +kernel
theorem dX10_bucket_81 : DC mX10_bucket 81 (.aload_n 0) 1 := by decide +kernel
theorem dX10_bucket_82 : DC mX10_bucket 82 (.dup) 1 := by decide +kernel
theorem dX10_bucket_83 : DC mX10_bucket 83 (.getfield 92) 3 := by decide +kernel
theorem dX10_bucket_86 : DC mX10_bucket 86 (.iconst 1) 1 := by decide +kernel
theorem dX10_bucket_87 : DC mX10_bucket 87 (.iadd) 1 := by decide +kernel
theorem dX10_bucket_88 : DC mX10_bucket 88 (.putfield 92) 3 := by decide +kernel
theorem dX10_bucket_91 : DC mX10_bucket 91 (.aload_n 0) 1 := by decide +kernel
theorem dX10_bucket_92 : DC mX10_bucket 92 (.getfield 92) 3 := by decide +kernel
theorem dX10_bucket_95 : DC mX10_bucket 95 (.iconst 1) 1 := by decide +kernel
theorem dX10_bucket_96 : DC mX10_bucket 96 (.isub) 1 := by decide +kernel
theorem dX10_bucket_97 : DC mX10_bucket 97 (.ireturn) 1 := by decide +kernel
theorem dX10_pipe_0 : DC mX10_pipe 0 (.aload_n 0) 1 := by decide +kernel
theorem dX10_pipe_1 : DC mX10_pipe 1 (.iload_n 1) 1 := by decide +kernel
theorem dX10_pipe_2 : DC mX10_pipe 2 (.invokevirtual 106) 3 := by decide +kernel
theorem dX10_pipe_5 : DC mX10_pipe 5 (.ifCond .ne 16) 3 := by decide +kernel
theorem dX10_pipe_8 : DC mX10_pipe 8 (.iload_n 2) 1 := by decide +kernel
theorem dX10_pipe_9 : DC mX10_pipe 9 (.iconst (-1)) 1 := by decide +kernel
theorem dX10_pipe_10 : DC mX10_pipe 10 (.if_icmp .eq 15) 3 := by decide +kernel
theorem dX10_pipe_13 : DC mX10_pipe 13 (.aload_n 0) 1 := by decide +kernel
theorem dX10_pipe_14 : DC mX10_pipe 14 (.iload_n 2) 1 := by decide +kernel
theorem dX10_pipe_15 : DC mX10_pipe 15 (.invokevirtual 106) 3 := by decide +kernel
theorem dX10_pipe_18 : DC mX10_pipe 18 (.ifCond .eq 7) 3 := by decide +kernel
theorem dX10_pipe_21 : DC mX10_pipe 21 (.sipush (-1001)) 3 := by decide +kernel
theorem dX10_pipe_24 : DC mX10_pipe 24 (.ireturn) 1 := by decide +kernel
theorem dX10_pipe_25 : DC mX10_pipe 25 (.iload_n 3) 1 := by decide +kernel
theorem dX10_pipe_26 : DC mX10_pipe 26 (.i2l) 1 := by decide +kernel
theorem dX10_pipe_27 : DC mX10_pipe 27 (.lconst 1) 1 := by decide +kernel
theorem dX10_pipe_28 : DC mX10_pipe 28 (.ldc2_w 104) 3 := by decide +kernel
theorem dX10_pipe_31 : DC mX10_pipe 31 (.invokestatic 95) 3 := by decide +kernel
theorem dX10_pipe_34 : DC mX10_pipe 34 (.ifCond .ne 7) 3 := by decide +kernel
theorem dX10_pipe_37 : DC mX10_pipe 37 (.sipush (-1002)) 3 := by decide +kernel
theorem dX10_pipe_40 : DC mX10_pipe 40 (.ireturn) 1 := by decide +kernel
theorem dX10_pipe_41 : DC mX10_pipe 41 (.aload_n 0) 1 := by decide +kernel
theorem dX10_pipe_42 : DC mX10_pipe 42 (.getfield 16) 3 := by decide +kernel
theorem dX10_pipe_45 : DC mX10_pipe 45 (.iload_n 1) 1 := by decide +kernel
theorem dX10_pipe_46 : DC mX10_pipe 46 (.iload_n 2) 1 := by decide +kernel
theorem dX10_pipe_47 : DC mX10_pipe 47 (.iastore) 1 := by decide +kernel
theorem dX10_pipe_48 : DC mX10_pipe 48 (.aload_n 0) 1 := by decide +kernel
theorem dX10_pipe_49 : DC mX10_pipe 49 (.getfield 19) 3 := by decide +kernel
theorem dX10_pipe_52 : DC mX10_pipe 52 (.iload_n 1) 1 := by decide +kernel
theorem dX10_pipe_53 : DC mX10_pipe 53 (.iload_n 2) 1 := by decide +kernel
theorem dX10_pipe_54 : DC mX10_pipe 54 (.ifCond .ge 7) 3 := by decide +kernel
theorem dX10_pipe_57 : DC mX10_pipe 57 (.iconst (-1)) 1 := by decide +kernel
theorem dX10_pipe_58 : DC mX10_pipe 58 (.goto 4) 3 := by decide +kernel
theorem dX10_pipe_61 : DC mX10_pipe 61 (.iload_n 3) 1 := by decide +kernel
theorem dX10_pipe_62 : DC mX10_pipe 62 (.iastore) 1 := by decide +kernel
theorem dX10_pipe_63 : DC mX10_pipe 63 (.iconst 1) 1 := by decide +kernel
theorem dX10_pipe_64 : DC mX10_pipe 64 (.ireturn) 1 := by decide +kernel
theorem dX10_spout_0 : DC mX10_spout 0 (.aload_n 0) 1 := by decide +kernel
theorem dX10_spout_1 : DC mX10_spout 1 (.iload_n 1) 1 := by decide +kernel
theorem dX10_spout_2 : DC mX10_spout 2 (.invokevirtual 106) 3 := by decide +kernel
theorem dX10_spout_5 : DC mX10_spout 5 (.ifCond .eq 7) 3 := by decide +kernel
theorem dX10_spout_8 : DC mX10_spout 8 (.sipush (-1001)) 3 := by decide +kernel
theorem dX10_spout_11 : DC mX10_spout 11 (.ireturn) 1 := by decide +kernel
theorem dX10_spout_12 : DC mX10_spout 12 (.iload_n 2) 1 := by decide +kernel
theorem dX10_spout_13 : DC mX10_spout 13 (.i2l) 1 := by decide +kernel
theorem dX10_spout_14 : DC mX10_spout 14 (.lconst 0) 1 := by decide +kernel
theorem dX10_spout_15 : DC mX10_spout 15 (.ldc2_w 104) 3 := by decide +kernel
theorem dX10_spout_18 : DC mX10_spout 18 (.invokestatic 95) 3 := by decide +kernel
theorem dX10_spout_21 : DC mX10_spout 21 (.ifCond .eq 28) 3 := by decide +kernel
theorem dX10_spout_24 : DC mX10_spout 24 (.iload_n 3) 1 := by decide +kernel
theorem dX10_spout_25 : DC mX10_spout 25 (.i2l) 1 := by decide +kernel
theorem dX10_spout_26 : DC mX10_spout 26 (.lconst 1) 1 := by decide +kernel
theorem dX10_spout_27 : DC mX10_spout 27 (.ldc2_w 110) 3 := by decide +kernel
theorem dX10_spout_30 : DC mX10_spout 30 (.invokestatic 95) 3 := by decide +kernel
theorem dX10_spout_33 : DC mX10_spout 33 (.ifCond .eq 16) 3 := by decide +kernel
theorem dX10_spout_36 : DC mX10_spout 36 (.iload 4) 2 := by decide +kernel
theorem dX10_spout_38 : DC mX10_spout 38 (.i2l) 1 := by decide +kernel
theorem dX10_spout_39 : DC mX10_spout 39 (.lconst 0) 1 := by decide +kernel
theorem dX10_spout_40 : DC mX10_spout 40 (.ldc2_w 110) 3 := by decide +kernel
theorem dX10_spout_43 : DC mX10_spout 43 (.invokestatic 95) 3 := by decide +kernel
theorem dX10_spout_46 : DC mX10_spout 46 (.ifCond .ne 7) 3 := by decide +kernel
theorem dX10_spout_49 : DC mX10_spout 49 (.sipush (-1002)) 3 := by decide +kernel
theorem dX10_spout_52 : DC mX10_spout 52 (.ireturn) 1 := by decide +kernel
theorem dX10_spout_53 : DC mX10_spout 53 (.aload_n 0) 1 := by decide +kernel
theorem dX10_spout_54 : DC mX10_spout 54 (.getfield 99) 3 := by decide +kernel
theorem dX10_spout_57 : DC mX10_spout 57 (.iconst 4) 1 := by decide +kernel
theorem dX10_spout_58 : DC mX10_spout 58 (.if_icmp .ne 7) 3 := by decide +kernel
theorem dX10_spout_61 : DC mX10_spout 61 (.sipush (-1004)) 3 := by decide +kernel
theorem dX10_spout_64 : DC mX10_spout 64 (.ireturn) 1 := by decide +kernel
theorem dX10_spout_65 : DC mX10_spout 65 (.aload_n 0) 1 := by decide +kernel
theorem dX10_spout_66 : DC mX10_spout 66 (.getfield 22) 3 := by decide +kernel
theorem dX10_spout_69 : DC mX10_spout 69 (.aload_n 0) 1 := by decide +kernel
theorem dX10_spout_70 : DC mX10_spout 70 (.getfield 99) 3 := by decide +kernel
theorem dX10_spout_73 : DC mX10_spout 73 (.iload_n 1) 1 := by decide +kernel
theorem dX10_spout_74 : DC mX10_spout 74 (.iastore) 1 := by decide +kernel
theorem dX10_spout_75 : DC mX10_spout 75 (.aload_n 0) 1 := by decide +kernel
theorem dX10_spout_76 : DC mX10_spout 76 (.getfield 25) 3 := by decide +kernel
theorem dX10_spout_79 : DC mX10_spout 79 (.aload_n 0) 1 := by decide +kernel
theorem dX10_spout_80 : DC mX10_spout 80 (.getfield 99) 3 := by decide +kernel
theorem dX10_spout_83 : DC mX10_spout 83 (.iload_n 2) 1 := by decide +kernel
theorem dX10_spout_84 : DC mX10_spout 84 (.iastore) 1 := by decide +kernel
theorem dX10_spout_85 : DC mX10_spout 85 (.aload_n 0) 1 := by decide +kernel
theorem dX10_spout_86 : DC mX10_spout 86 (.getfield 28) 3 := by decide +kernel
theorem dX10_spout_89 : DC mX10_spout 89 (.aload_n 0) 1 := by decide +kernel
theorem dX10_spout_90 : DC mX10_spout 90 (.getfield 99) 3 := by decide +kernel
theorem dX10_spout_93 : DC mX10_spout 93 (.iload_n 3) 1 := by decide +kernel
theorem dX10_spout_94 : DC mX10_spout 94 (.iastore) 1 := by decide +kernel
theorem dX10_spout_95 : DC mX10_spout 95 (.aload_n 0) 1 := by decide +kernel
theorem dX10_spout_96 : DC mX10_spout 96 (.getfield 31) 3 := by decide +kernel
theorem dX10_spout_99 : DC mX10_spout 99 (.aload_n 0) 1 := by decide +kernel
theorem dX10_spout_100 : DC mX10_spout 100 (.getfield 99) 3 := by decide +kernel
theorem dX10_spout_103 : DC mX10_spout 103 (.iload 4) 2 := by decide +kernel
theorem dX10_spout_105 : DC mX10_spout 105 (.iastore) 1 := by decide +kernel
theorem dX10_spout_106 : DC mX10_spout 106 (.aload_n 0) 1 := by decide +kernel
theorem dX10_spout_107 : DC mX10_spout 107 (.dup) 1 := by decide +kernel
theorem dX10_spout_108 : DC mX10_spout 108 (.getfield 99) 3 := by decide +kernel
theorem dX10_spout_111 : DC mX10_spout 111 (.iconst 1) 1 := by decide +kernel
theorem dX10_spout_112 : DC mX10_spout 112 (.iadd) 1 := by decide +kernel
theorem dX10_spout_113 : DC mX10_spout 113 (.putfield 99) 3 := by decide +kernel
theorem dX10_spout_116 : DC mX10_spout 116 (.aload_n 0) 1 := by decide +kernel
theorem dX10_spout_117 : DC mX10_spout 117 (.getfield 99) 3 := by decide +kernel
theorem dX10_spout_120 : DC mX10_spout 120 (.iconst 1) 1 := by decide +kernel
theorem dX10_spout_121 : DC mX10_spout 121 (.isub) 1 := by decide +kernel
theorem dX10_spout_122 : DC mX10_spout 122 (.ireturn) 1 := by decide +kernel
theorem dX10_turn_0 : DC mX10_turn 0 (.aload_n 0) 1 := by decide +kernel
theorem dX10_turn_1 : DC mX10_turn 1 (.iload_n 1) 1 := by decide +kernel
theorem dX10_turn_2 : DC mX10_turn 2 (.invokevirtual 112) 3 := by decide +kernel
theorem dX10_turn_5 : DC mX10_turn 5 (.ifCond .eq 7) 3 := by decide +kernel
theorem dX10_turn_8 : DC mX10_turn 8 (.sipush (-1001)) 3 := by decide +kernel
theorem dX10_turn_11 : DC mX10_turn 11 (.ireturn) 1 := by decide +kernel
theorem dX10_turn_12 : DC mX10_turn 12 (.iload_n 2) 1 := by decide +kernel
theorem dX10_turn_13 : DC mX10_turn 13 (.i2l) 1 := by decide +kernel
theorem dX10_turn_14 : DC mX10_turn 14 (.lconst 0) 1 := by decide +kernel
theorem dX10_turn_15 : DC mX10_turn 15 (.ldc2_w 104) 3 := by decide +kernel
theorem dX10_turn_18 : DC mX10_turn 18 (.invokestatic 95) 3 := by decide +kernel
theorem dX10_turn_21 : DC mX10_turn 21 (.ifCond .ne 7) 3 := by decide +kernel
theorem dX10_turn_24 : DC mX10_turn 24 (.sipush (-1002)) 3 := by decide +kernel
theorem dX10_turn_27 : DC mX10_turn 27 (.ireturn) 1 := by decide +kernel
theorem dX10_turn_28 : DC mX10_turn 28 (.aload_n 0) 1 := by decide +kernel
theorem dX10_turn_29 : DC mX10_turn 29 (.getfield 25) 3 := by decide +kernel
theorem dX10_turn_32 : DC mX10_turn 32 (.iload_n 1) 1 := by decide +kernel
theorem dX10_turn_33 : DC mX10_turn 33 (.iaload) 1 := by decide +kernel
theorem dX10_turn_34 : DC mX10_turn 34 (.istore_n 3) 1 := by decide +kernel
theorem dX10_turn_35 : DC mX10_turn 35 (.aload_n 0) 1 := by decide +kernel
theorem dX10_turn_36 : DC mX10_turn 36 (.getfield 25) 3 := by decide +kernel
theorem dX10_turn_39 : DC mX10_turn 39 (.iload_n 1) 1 := by decide +kernel
theorem dX10_turn_40 : DC mX10_turn 40 (.iload_n 2) 1 := by decide +kernel
theorem dX10_turn_41 : DC mX10_turn 41 (.iastore) 1 := by decide +kernel
theorem dX10_turn_42 : DC mX10_turn 42 (.iload_n 3) 1 := by decide +kernel
theorem dX10_turn_43 : DC mX10_turn 43 (.ireturn) 1 := by decide +kernel
theorem dX10_frog_0 : DC mX10_frog 0 (.aload_n 0) 1 := by decide +kernel
theorem dX10_frog_1 : DC mX10_frog 1 (.iload_n 1) 1 := by decide +kernel
theorem dX10_frog_2 : DC mX10_frog 2 (.invokevirtual 112) 3 := by decide +kernel
theorem dX10_frog_5 : DC mX10_frog 5 (.ifCond .eq 7) 3 := by decide +kernel
theorem dX10_frog_8 : DC mX10_frog 8 (.sipush (-1001)) 3 := by decide +kernel
theorem dX10_frog_11 : DC mX10_frog 11 (.ireturn) 1 := by decide +kernel
theorem dX10_frog_12 : DC mX10_frog 12 (.iload_n 2) 1 := by decide +kernel
theorem dX10_frog_13 : DC mX10_frog 13 (.i2l) 1 := by decide +kernel
theorem dX10_frog_14 : DC mX10_frog 14 (.lconst 0) 1 := by decide +kernel
theorem dX10_frog_15 : DC mX10_frog 15 (.ldc2_w 115) 3 := by decide +kernel
theorem dX10_frog_18 : DC mX10_frog 18 (.invokestatic 95) 3 := by decide +kernel
theorem dX10_frog_21 : DC mX10_frog 21 (.ifCond .eq 16) 3 := by decide +kernel
theorem dX10_frog_24 : DC mX10_frog 24 (.iload_n 3) 1 := by decide +kernel
theorem dX10_frog_25 : DC mX10_frog 25 (.i2l) 1 := by decide +kernel
theorem dX10_frog_26 : DC mX10_frog 26 (.iload_n 2) 1 := by decide +kernel
theorem dX10_frog_27 : DC mX10_frog 27 (.i2l) 1 := by decide +kernel
theorem dX10_frog_28 : DC mX10_frog 28 (.ldc2_w 115) 3 := by decide +kernel
theorem dX10_frog_31 : DC mX10_frog 31 (.invokestatic 95) 3 := by decide +kernel
theorem dX10_frog_34 : DC mX10_frog 34 (.ifCond .ne 7) 3 := by decide +kernel
theorem dX10_frog_37 : DC mX10_frog 37 (.sipush (-1002)) 3 := by decide +kernel
theorem dX10_frog_40 : DC mX10_frog 40 (.ireturn) 1 := by decide +kernel
theorem dX10_frog_41 : DC mX10_frog 41 (.aload_n 0) 1 := by decide +kernel
theorem dX10_frog_42 : DC mX10_frog 42 (.getfield 117) 3 := by decide +kernel
theorem dX10_frog_45 : DC mX10_frog 45 (.bipush 10) 2 := by decide +kernel
theorem dX10_frog_47 : DC mX10_frog 47 (.if_icmp .ne 7) 3 := by decide +kernel
theorem dX10_frog_50 : DC mX10_frog 50 (.sipush (-1004)) 3 := by decide +kernel
theorem dX10_frog_53 : DC mX10_frog 53 (.ireturn) 1 := by decide +kernel
theorem dX10_frog_54 : DC mX10_frog 54 (.aload_n 0) 1 := by decide +kernel
theorem dX10_frog_55 : DC mX10_frog 55 (.getfield 34) 3 := by decide +kernel
theorem dX10_frog_58 : DC mX10_frog 58 (.aload_n 0) 1 := by decide +kernel
theorem dX10_frog_59 : DC mX10_frog 59 (.getfield 117) 3 := by decide +kernel
theorem dX10_frog_62 : DC mX10_frog 62 (.iload_n 1) 1 := by decide +kernel
theorem dX10_frog_63 : DC mX10_frog 63 (.iastore) 1 := by decide +kernel
theorem dX10_frog_64 : DC mX10_frog 64 (.aload_n 0) 1 := by decide +kernel
theorem dX10_frog_65 : DC mX10_frog 65 (.getfield 37) 3 := by decide +kernel
theorem dX10_frog_68 : DC mX10_frog 68 (.aload_n 0) 1 := by decide +kernel
theorem dX10_frog_69 : DC mX10_frog 69 (.getfield 117) 3 := by decide +kernel
theorem dX10_frog_72 : DC mX10_frog 72 (.iload_n 2) 1 := by decide +kernel
theorem dX10_frog_73 : DC mX10_frog 73 (.iastore) 1 := by decide +kernel
theorem dX10_frog_74 : DC mX10_frog 74 (.aload_n 0) 1 := by decide +kernel
theorem dX10_frog_75 : DC mX10_frog 75 (.getfield 40) 3 := by decide +kernel
theorem dX10_frog_78 : DC mX10_frog 78 (.aload_n 0) 1 := by decide +kernel
theorem dX10_frog_79 : DC mX10_frog 79 (.getfield 117) 3 := by decide +kernel
theorem dX10_frog_82 : DC mX10_frog 82 (.iload_n 3) 1 := by decide +kernel
theorem dX10_frog_83 : DC mX10_frog 83 (.iastore) 1 := by decide +kernel
theorem dX10_frog_84 : DC mX10_frog 84 (.aload_n 0) 1 := by decide +kernel
theorem dX10_frog_85 : DC mX10_frog 85 (.dup) 1 := by decide +kernel
theorem dX10_frog_86 : DC mX10_frog 86 (.getfield 117) 3 := by decide +kernel
theorem dX10_frog_89 : DC mX10_frog 89 (.iconst 1) 1 := by decide +kernel
theorem dX10_frog_90 : DC mX10_frog 90 (.iadd) 1 := by decide +kernel
theorem dX10_frog_91 : DC mX10_frog 91 (.putfield 117) 3 := by decide +kernel
theorem dX10_frog_94 : DC mX10_frog 94 (.aload_n 0) 1 := by decide +kernel
theorem dX10_frog_95 : DC mX10_frog 95 (.getfield 117) 3 := by decide +kernel
theorem dX10_frog_98 : DC mX10_frog 98 (.ireturn) 1 := by decide +kernel
theorem dX10_weather_0 : DC mX10_weather 0 (.iload_n 1) 1 := by decide +kernel
theorem dX10_weather_1 : DC mX10_weather 1 (.i2l) 1 := by decide +kernel
theorem dX10_weather_2 : DC mX10_weather 2 (.lconst 0) 1 := by decide +kernel
theorem dX10_weather_3 : DC mX10_weather 3 (.ldc2_w 115) 3 := by decide +kernel
theorem dX10_weather_6 : DC mX10_weather 6 (.invokestatic 95) 3 := by decide +kernel
theorem dX10_weather_9 : DC mX10_weather 9 (.ifCond .eq 17) 3 := by decide +kernel
theorem dX10_weather_12 : DC mX10_weather 12 (.iload_n 2) 1 := by decide +kernel
theorem dX10_weather_13 : DC mX10_weather 13 (.i2l) 1 := by decide +kernel
theorem dX10_weather_14 : DC mX10_weather 14 (.ldc2_w 120) 3 := by decide +kernel
theorem dX10_weather_17 : DC mX10_weather 17 (.ldc2_w 104) 3 := by decide +kernel
theorem dX10_weather_20 : DC mX10_weather 20 (.invokestatic 95) 3 := by decide +kernel
theorem dX10_weather_23 : DC mX10_weather 23 (.ifCond .ne 7) 3 := by decide +kernel
theorem dX10_weather_26 : DC mX10_weather 26 (.sipush (-1002)) 3 := by decide +kernel
theorem dX10_weather_29 : DC mX10_weather 29 (.ireturn) 1 := by decide +kernel
theorem dX10_weather_30 : DC mX10_weather 30 (.aload_n 0) 1 := by decide +kernel
theorem dX10_weather_31 : DC mX10_weather 31 (.getfield 122) 3 := by decide +kernel
theorem dX10_weather_34 : DC mX10_weather 34 (.bipush 10) 2 := by decide +kernel
theorem dX10_weather_36 : DC mX10_weather 36 (.if_icmp .ne 7) 3 := by decide +kernel
theorem dX10_weather_39 : DC mX10_weather 39 (.sipush (-1004)) 3 := by decide +kernel
theorem dX10_weather_42 : DC mX10_weather 42 (.ireturn) 1 := by decide +kernel
theorem dX10_weather_43 : DC mX10_weather 43 (.aload_n 0) 1 := by decide +kernel
theorem dX10_weather_44 : DC mX10_weather 44 (.getfield 43) 3 := by decide +kernel
theorem dX10_weather_47 : DC mX10_weather 47 (.aload_n 0) 1 := by decide +kernel
theorem dX10_weather_48 : DC mX10_weather 48 (.getfield 122) 3 := by decide +kernel
theorem dX10_weather_51 : DC mX10_weather 51 (.iload_n 1) 1 := by decide +kernel
theorem dX10_weather_52 : DC mX10_weather 52 (.iastore) 1 := by decide +kernel
theorem dX10_weather_53 : DC mX10_weather 53 (.aload_n 0) 1 := by decide +kernel
theorem dX10_weather_54 : DC mX10_weather 54 (.getfield 46) 3 := by decide +kernel
theorem dX10_weather_57 : DC mX10_weather 57 (.aload_n 0) 1 := by decide +kernel
theorem dX10_weather_58 : DC mX10_weather 58 (.getfield 122) 3 := by decide +kernel
theorem dX10_weather_61 : DC mX10_weather 61 (.iload_n 2) 1 := by decide +kernel
theorem dX10_weather_62 : DC mX10_weather 62 (.iastore) 1 := by decide +kernel
theorem dX10_weather_63 : DC mX10_weather 63 (.aload_n 0) 1 := by decide +kernel
theorem dX10_weather_64 : DC mX10_weather 64 (.dup) 1 := by decide +kernel
theorem dX10_weather_65 : DC mX10_weather 65 (.getfield 122) 3 := by decide +kernel
theorem dX10_weather_68 : DC mX10_weather 68 (.iconst 1) 1 := by decide +kernel
theorem dX10_weather_69 : DC mX10_weather 69 (.iadd) 1 := by decide +kernel
theorem dX10_weather_70 : DC mX10_weather 70 (.putfield 122) 3 := by decide +kernel
theorem dX10_weather_73 : DC mX10_weather 73 (.aload_n 0) 1 := by decide +kernel
theorem dX10_weather_74 : DC mX10_weather 74 (.getfield 122) 3 := by decide +kernel
theorem dX10_weather_77 : DC mX10_weather 77 (.ireturn) 1 := by decide +kernel
theorem dX10_dry_0 : DC mX10_dry 0 (.iload_n 1) 1 := by decide +kernel
theorem dX10_dry_1 : DC mX10_dry 1 (.i2l) 1 := by decide +kernel
theorem dX10_dry_2 : DC mX10_dry 2 (.lconst 0) 1 := by decide +kernel
theorem dX10_dry_3 : DC mX10_dry 3 (.ldc2_w 125) 3 := by decide +kernel
theorem dX10_dry_6 : DC mX10_dry 6 (.invokestatic 95) 3 := by decide +kernel
theorem dX10_dry_9 : DC mX10_dry 9 (.ifCond .ne 7) 3 := by decide +kernel
theorem dX10_dry_12 : DC mX10_dry 12 (.sipush (-1002)) 3 := by decide +kernel
theorem dX10_dry_15 : DC mX10_dry 15 (.ireturn) 1 := by decide +kernel
theorem dX10_dry_16 : DC mX10_dry 16 (.aload_n 0) 1 := by decide +kernel
theorem dX10_dry_17 : DC mX10_dry 17 (.getfield 127) 3 := by decide +kernel
theorem dX10_dry_20 : DC mX10_dry 20 (.istore_n 2) 1 := by decide +kernel
theorem dX10_dry_21 : DC mX10_dry 21 (.aload_n 0) 1 := by decide +kernel
theorem dX10_dry_22 : DC mX10_dry 22 (.iload_n 1) 1 := by decide +kernel
theorem dX10_dry_23 : DC mX10_dry 23 (.putfield 127) 3 := by decide +kernel
theorem dX10_dry_26 : DC mX10_dry 26 (.iload_n 2) 1 := by decide +kernel
theorem dX10_dry_27 : DC mX10_dry 27 (.ireturn) 1 := by decide +kernel
theorem dX10_isFault_0 : DC mX10_isFault 0 (.aload_n 0) 1 := by decide +kernel
theorem dX10_isFault_1 : DC mX10_isFault 1 (.getfield 64) 3 := by decide +kernel
theorem dX10_isFault_4 : DC mX10_isFault 4 (.iload_n 1) 1 := by decide +kernel
theorem dX10_isFault_5 : DC mX10_isFault 5 (.if_icmp .eq 11) 3 := by decide +kernel
theorem dX10_isFault_8 : DC mX10_isFault 8 (.aload_n 0) 1 := by decide +kernel
theorem dX10_isFault_9 : DC mX10_isFault 9 (.getfield 68) 3 := by decide +kernel
theorem dX10_isFault_12 : DC mX10_isFault 12 (.iload_n 1) 1 := by decide +kernel
theorem dX10_isFault_13 : DC mX10_isFault 13 (.if_icmp .ne 7) 3 := by decide +kernel
theorem dX10_isFault_16 : DC mX10_isFault 16 (.iconst 1) 1 := by decide +kernel
theorem dX10_isFault_17 : DC mX10_isFault 17 (.goto 4) 3 := by decide +kernel
theorem dX10_isFault_20 : DC mX10_isFault 20 (.iconst 0) 1 := by decide +kernel
theorem dX10_isFault_21 : DC mX10_isFault 21 (.ireturn) 1 := by decide +kernel
theorem dX10_wetAt_0 : DC mX10_wetAt 0 (.iconst 0) 1 := by decide +kernel
theorem dX10_wetAt_1 : DC mX10_wetAt 1 (.istore_n 2) 1 := by decide +kernel
theorem dX10_wetAt_2 : DC mX10_wetAt 2 (.iconst (-1)) 1 := by decide +kernel
theorem dX10_wetAt_3 : DC mX10_wetAt 3 (.istore_n 3) 1 := by decide +kernel
theorem dX10_wetAt_4 : DC mX10_wetAt 4 (.iconst 0) 1 := by decide +kernel
theorem dX10_wetAt_5 : DC mX10_wetAt 5 (.istore 4) 2 := by decide +kernel
theorem dX10_wetAt_7 : DC mX10_wetAt 7 (.iload 4) 2 := by decide +kernel
theorem dX10_wetAt_9 : DC mX10_wetAt 9 (.aload_n 0) 1 := by decide +kernel
theorem dX10_wetAt_10 : DC mX10_wetAt 10 (.getfield 122) 3 := by decide +kernel
theorem dX10_wetAt_13 : DC mX10_wetAt 13 (.if_icmp .ge 47) 3 := by decide +kernel
theorem dX10_wetAt_16 : DC mX10_wetAt 16 (.aload_n 0) 1 := by decide +kernel
theorem dX10_wetAt_17 : DC mX10_wetAt 17 (.getfield 43) 3 := by decide +kernel
theorem dX10_wetAt_20 : DC mX10_wetAt 20 (.iload 4) 2 := by decide +kernel
theorem dX10_wetAt_22 : DC mX10_wetAt 22 (.iaload) 1 := by decide +kernel
theorem dX10_wetAt_23 : DC mX10_wetAt 23 (.iload_n 1) 1 := by decide +kernel
theorem dX10_wetAt_24 : DC mX10_wetAt 24 (.if_icmp .gt 30) 3 := by decide +kernel
theorem dX10_wetAt_27 : DC mX10_wetAt 27 (.aload_n 0) 1 := by decide +kernel
theorem dX10_wetAt_28 : DC mX10_wetAt 28 (.getfield 43) 3 := by decide +kernel
theorem dX10_wetAt_31 : DC mX10_wetAt 31 (.iload 4) 2 := by decide +kernel
theorem dX10_wetAt_33 : DC mX10_wetAt 33 (.iaload) 1 := by decide +kernel
theorem dX10_wetAt_34 : DC mX10_wetAt 34 (.iload_n 3) 1 := by decide +kernel
theorem dX10_wetAt_35 : DC mX10_wetAt 35 (.if_icmp .lt 19) 3 := by decide +kernel
theorem dX10_wetAt_38 : DC mX10_wetAt 38 (.aload_n 0) 1 := by decide +kernel
theorem dX10_wetAt_39 : DC mX10_wetAt 39 (.getfield 43) 3 := by decide +kernel
theorem dX10_wetAt_42 : DC mX10_wetAt 42 (.iload 4) 2 := by decide +kernel
theorem dX10_wetAt_44 : DC mX10_wetAt 44 (.iaload) 1 := by decide +kernel
theorem dX10_wetAt_45 : DC mX10_wetAt 45 (.istore_n 3) 1 := by decide +kernel
theorem dX10_wetAt_46 : DC mX10_wetAt 46 (.aload_n 0) 1 := by decide +kernel
theorem dX10_wetAt_47 : DC mX10_wetAt 47 (.getfield 46) 3 := by decide +kernel
theorem dX10_wetAt_50 : DC mX10_wetAt 50 (.iload 4) 2 := by decide +kernel
theorem dX10_wetAt_52 : DC mX10_wetAt 52 (.iaload) 1 := by decide +kernel
theorem dX10_wetAt_53 : DC mX10_wetAt 53 (.istore_n 2) 1 := by decide +kernel
theorem dX10_wetAt_54 : DC mX10_wetAt 54 (.iinc 4 1) 3 := by decide +kernel
theorem dX10_wetAt_57 : DC mX10_wetAt 57 (.goto (-50)) 3 := by decide +kernel
theorem dX10_wetAt_60 : DC mX10_wetAt 60 (.iload_n 2) 1 := by decide +kernel
theorem dX10_wetAt_61 : DC mX10_wetAt 61 (.ireturn) 1 := by decide +kernel
theorem dX10_hasFrog_0 : DC mX10_hasFrog 0 (.iconst 0) 1 := by decide +kernel
theorem dX10_hasFrog_1 : DC mX10_hasFrog 1 (.istore_n 3) 1 := by decide +kernel
theorem dX10_hasFrog_2 : DC mX10_hasFrog 2 (.iconst 0) 1 := by decide +kernel
theorem dX10_hasFrog_3 : DC mX10_hasFrog 3 (.istore 4) 2 := by decide +kernel
theorem dX10_hasFrog_5 : DC mX10_hasFrog 5 (.iload 4) 2 := by decide +kernel
theorem dX10_hasFrog_7 : DC mX10_hasFrog 7 (.aload_n 0) 1 := by decide +kernel
theorem dX10_hasFrog_8 : DC mX10_hasFrog 8 (.getfield 117) 3 := by decide +kernel
theorem dX10_hasFrog_11 : DC mX10_hasFrog 11 (.if_icmp .ge 54) 3 := by decide +kernel
theorem dX10_hasFrog_14 : DC mX10_hasFrog 14 (.iload_n 3) 1 := by decide +kernel
theorem dX10_hasFrog_15 : DC mX10_hasFrog 15 (.ifCond .ne 38) 3 := by decide +kernel
theorem dX10_hasFrog_18 : DC mX10_hasFrog 18 (.aload_n 0) 1 := by decide +kernel
theorem dX10_hasFrog_19 : DC mX10_hasFrog 19 (.getfield 34) 3 := by decide +kernel
theorem dX10_hasFrog_22 : DC mX10_hasFrog 22 (.iload 4) 2 := by decide +kernel
theorem dX10_hasFrog_24 : DC mX10_hasFrog 24 (.iaload) 1 := by decide +kernel
theorem dX10_hasFrog_25 : DC mX10_hasFrog 25 (.iload_n 1) 1 := by decide +kernel
theorem dX10_hasFrog_26 : DC mX10_hasFrog 26 (.if_icmp .ne 31) 3 := by decide +kernel
theorem dX10_hasFrog_29 : DC mX10_hasFrog 29 (.iload_n 2) 1 := by decide +kernel
theorem dX10_hasFrog_30 : DC mX10_hasFrog 30 (.i2l) 1 := by decide +kernel
theorem dX10_hasFrog_31 : DC mX10_hasFrog 31 (.aload_n 0) 1 := by decide +kernel
theorem dX10_hasFrog_32 : DC mX10_hasFrog 32 (.getfield 37) 3 := by decide +kernel
theorem dX10_hasFrog_35 : DC mX10_hasFrog 35 (.iload 4) 2 := by decide +kernel
theorem dX10_hasFrog_37 : DC mX10_hasFrog 37 (.iaload) 1 := by decide +kernel
theorem dX10_hasFrog_38 : DC mX10_hasFrog 38 (.i2l) 1 := by decide +kernel
theorem dX10_hasFrog_39 : DC mX10_hasFrog 39 (.aload_n 0) 1 := by decide +kernel
theorem dX10_hasFrog_40 : DC mX10_hasFrog 40 (.getfield 40) 3 := by decide +kernel
theorem dX10_hasFrog_43 : DC mX10_hasFrog 43 (.iload 4) 2 := by decide +kernel
theorem dX10_hasFrog_45 : DC mX10_hasFrog 45 (.iaload) 1 := by decide +kernel
theorem dX10_hasFrog_46 : DC mX10_hasFrog 46 (.i2l) 1 := by decide +kernel
theorem dX10_hasFrog_47 : DC mX10_hasFrog 47 (.invokestatic 95) 3 := by decide +kernel
theorem dX10_hasFrog_50 : DC mX10_hasFrog 50 (.ifCond .eq 7) 3 := by decide +kernel
theorem dX10_hasFrog_53 : DC mX10_hasFrog 53 (.iconst 1) 1 := by decide +kernel
theorem dX10_hasFrog_54 : DC mX10_hasFrog 54 (.goto 4) 3 := by decide +kernel
theorem dX10_hasFrog_57 : DC mX10_hasFrog 57 (.iconst 0) 1 := by decide +kernel
theorem dX10_hasFrog_58 : DC mX10_hasFrog 58 (.istore_n 3) 1 := by decide +kernel
theorem dX10_hasFrog_59 : DC mX10_hasFrog 59 (.iinc 4 1) 3 := by decide +kernel
theorem dX10_hasFrog_62 : DC mX10_hasFrog 62 (.goto (-57)) 3 := by decide +kernel
theorem dX10_hasFrog_65 : DC mX10_hasFrog 65 (.iload_n 3) 1 := by decide +kernel
theorem dX10_hasFrog_66 : DC mX10_hasFrog 66 (.ireturn) 1 := by decide +kernel
theorem dX10_dripOf_0 : DC mX10_dripOf 0 (.iload_n 3) 1 := by decide +kernel
theorem dX10_dripOf_1 : DC mX10_dripOf 1 (.aload_n 0) 1 := by decide +kernel
theorem dX10_dripOf_2 : DC mX10_dripOf 2 (.getfield 31) 3 := by decide +kernel
theorem dX10_dripOf_5 : DC mX10_dripOf 5 (.iload_n 2) 1 := by decide +kernel
theorem dX10_dripOf_6 : DC mX10_dripOf 6 (.iaload) 1 := by decide +kernel
theorem dX10_dripOf_7 : DC mX10_dripOf 7 (.if_icmp .lt 52) 3 := by decide +kernel
theorem dX10_dripOf_10 : DC mX10_dripOf 10 (.iload_n 3) 1 := by decide +kernel
theorem dX10_dripOf_11 : DC mX10_dripOf 11 (.aload_n 0) 1 := by decide +kernel
theorem dX10_dripOf_12 : DC mX10_dripOf 12 (.getfield 31) 3 := by decide +kernel
theorem dX10_dripOf_15 : DC mX10_dripOf 15 (.iload_n 2) 1 := by decide +kernel
theorem dX10_dripOf_16 : DC mX10_dripOf 16 (.iaload) 1 := by decide +kernel
theorem dX10_dripOf_17 : DC mX10_dripOf 17 (.isub) 1 := by decide +kernel
theorem dX10_dripOf_18 : DC mX10_dripOf 18 (.aload_n 0) 1 := by decide +kernel
theorem dX10_dripOf_19 : DC mX10_dripOf 19 (.getfield 28) 3 := by decide +kernel
theorem dX10_dripOf_22 : DC mX10_dripOf 22 (.iload_n 2) 1 := by decide +kernel
theorem dX10_dripOf_23 : DC mX10_dripOf 23 (.iaload) 1 := by decide +kernel
theorem dX10_dripOf_24 : DC mX10_dripOf 24 (.irem) 1 := by decide +kernel
theorem dX10_dripOf_25 : DC mX10_dripOf 25 (.ifCond .ne 34) 3 := by decide +kernel
theorem dX10_dripOf_28 : DC mX10_dripOf 28 (.iload 4) 2 := by decide +kernel
theorem dX10_dripOf_30 : DC mX10_dripOf 30 (.ifCond .ne 12) 3 := by decide +kernel
theorem dX10_dripOf_33 : DC mX10_dripOf 33 (.aload_n 0) 1 := by decide +kernel
theorem dX10_dripOf_34 : DC mX10_dripOf 34 (.iload_n 2) 1 := by decide +kernel
theorem dX10_dripOf_35 : DC mX10_dripOf 35 (.iload_n 3) 1 := by decide +kernel
theorem dX10_dripOf_36 : DC mX10_dripOf 36 (.invokevirtual 130) 3 := by decide +kernel
theorem dX10_dripOf_39 : DC mX10_dripOf 39 (.ifCond .ne 20) 3 := by decide +kernel
theorem dX10_dripOf_42 : DC mX10_dripOf 42 (.iload_n 1) 1 := by decide +kernel
theorem dX10_dripOf_43 : DC mX10_dripOf 43 (.iconst 1) 1 := by decide +kernel
theorem dX10_dripOf_44 : DC mX10_dripOf 44 (.if_icmp .ne 11) 3 := by decide +kernel
theorem dX10_dripOf_47 : DC mX10_dripOf 47 (.aload_n 0) 1 := by decide +kernel
theorem dX10_dripOf_48 : DC mX10_dripOf 48 (.iload_n 2) 1 := by decide +kernel
theorem dX10_dripOf_49 : DC mX10_dripOf 49 (.invokevirtual 134) 3 := by decide +kernel
theorem dX10_dripOf_52 : DC mX10_dripOf 52 (.ifCond .ne 7) 3 := by decide +kernel
theorem dX10_dripOf_55 : DC mX10_dripOf 55 (.iconst 1) 1 := by decide +kernel
theorem dX10_dripOf_56 : DC mX10_dripOf 56 (.goto 4) 3 := by decide +kernel
theorem dX10_dripOf_59 : DC mX10_dripOf 59 (.iconst 0) 1 := by decide +kernel
theorem dX10_dripOf_60 : DC mX10_dripOf 60 (.istore 5) 2 := by decide +kernel
theorem dX10_dripOf_62 : DC mX10_dripOf 62 (.aload_n 0) 1 := by decide +kernel
theorem dX10_dripOf_63 : DC mX10_dripOf 63 (.getfield 25) 3 := by decide +kernel
theorem dX10_dripOf_66 : DC mX10_dripOf 66 (.iload_n 2) 1 := by decide +kernel
theorem dX10_dripOf_67 : DC mX10_dripOf 67 (.iaload) 1 := by decide +kernel
theorem dX10_dripOf_68 : DC mX10_dripOf 68 (.iload_n 1) 1 := by decide +kernel
theorem dX10_dripOf_69 : DC mX10_dripOf 69 (.iconst 1) 1 := by decide +kernel
theorem dX10_dripOf_70 : DC mX10_dripOf 70 (.if_icmp .ne 12) 3 := by decide +kernel
theorem dX10_dripOf_73 : DC mX10_dripOf 73 (.aload_n 0) 1 := by decide +kernel
theorem dX10_dripOf_74 : DC mX10_dripOf 74 (.getfield 71) 3 := by decide +kernel
theorem dX10_dripOf_77 : DC mX10_dripOf 77 (.iload_n 2) 1 := by decide +kernel
theorem dX10_dripOf_78 : DC mX10_dripOf 78 (.iaload) 1 := by decide +kernel
theorem dX10_dripOf_79 : DC mX10_dripOf 79 (.goto 4) 3 := by decide +kernel
theorem dX10_dripOf_82 : DC mX10_dripOf 82 (.iconst 0) 1 := by decide +kernel
theorem dX10_dripOf_83 : DC mX10_dripOf 83 (.iadd) 1 := by decide +kernel
theorem dX10_dripOf_84 : DC mX10_dripOf 84 (.iload 4) 2 := by decide +kernel
theorem dX10_dripOf_86 : DC mX10_dripOf 86 (.ifCond .eq 7) 3 := by decide +kernel
theorem dX10_dripOf_89 : DC mX10_dripOf 89 (.iconst 0) 1 := by decide +kernel
theorem dX10_dripOf_90 : DC mX10_dripOf 90 (.goto 8) 3 := by decide +kernel
theorem dX10_dripOf_93 : DC mX10_dripOf 93 (.aload_n 0) 1 := by decide +kernel
theorem dX10_dripOf_94 : DC mX10_dripOf 94 (.iload_n 3) 1 := by decide +kernel
theorem dX10_dripOf_95 : DC mX10_dripOf 95 (.invokevirtual 137) 3 := by decide +kernel
theorem dX10_dripOf_98 : DC mX10_dripOf 98 (.iadd) 1 := by decide +kernel
theorem dX10_dripOf_99 : DC mX10_dripOf 99 (.istore 6) 2 := by decide +kernel
theorem dX10_dripOf_101 : DC mX10_dripOf 101 (.iload 5) 2 := by decide +kernel
theorem dX10_dripOf_103 : DC mX10_dripOf 103 (.ifCond .eq 13) 3 := by decide +kernel
theorem dX10_dripOf_106 : DC mX10_dripOf 106 (.iload 6) 2 := by decide +kernel
theorem dX10_dripOf_108 : DC mX10_dripOf 108 (.ifCond .le 8) 3 := by decide +kernel
theorem dX10_dripOf_111 : DC mX10_dripOf 111 (.iload 6) 2 := by decide +kernel
theorem dX10_dripOf_113 : DC mX10_dripOf 113 (.goto 4) 3 := by decide +kernel
theorem dX10_dripOf_116 : DC mX10_dripOf 116 (.iconst 0) 1 := by decide +kernel
theorem dX10_dripOf_117 : DC mX10_dripOf 117 (.ireturn) 1 := by decide +kernel
theorem dX10_come_0 : DC mX10_come 0 (.aload_n 0) 1 := by decide +kernel
theorem dX10_come_1 : DC mX10_come 1 (.getfield 52) 3 := by decide +kernel
theorem dX10_come_4 : DC mX10_come 4 (.bipush 8) 2 := by decide +kernel
theorem dX10_come_6 : DC mX10_come 6 (.iload_n 1) 1 := by decide +kernel
theorem dX10_come_7 : DC mX10_come 7 (.imul) 1 := by decide +kernel
theorem dX10_come_8 : DC mX10_come 8 (.iload_n 2) 1 := by decide +kernel
theorem dX10_come_9 : DC mX10_come 9 (.iadd) 1 := by decide +kernel
theorem dX10_come_10 : DC mX10_come 10 (.iaload) 1 := by decide +kernel
theorem dX10_come_11 : DC mX10_come 11 (.iload 4) 2 := by decide +kernel
theorem dX10_come_13 : DC mX10_come 13 (.if_icmp .lt 24) 3 := by decide +kernel
theorem dX10_come_16 : DC mX10_come 16 (.aload_n 0) 1 := by decide +kernel
theorem dX10_come_17 : DC mX10_come 17 (.dup) 1 := by decide +kernel
theorem dX10_come_18 : DC mX10_come 18 (.getfield 141) 3 := by decide +kernel
theorem dX10_come_21 : DC mX10_come 21 (.iload_n 1) 1 := by decide +kernel
theorem dX10_come_22 : DC mX10_come 22 (.ifCond .ne 7) 3 := by decide +kernel
theorem dX10_come_25 : DC mX10_come 25 (.iload_n 3) 1 := by decide +kernel
theorem dX10_come_26 : DC mX10_come 26 (.goto 4) 3 := by decide +kernel
theorem dX10_come_29 : DC mX10_come 29 (.iconst 0) 1 := by decide +kernel
theorem dX10_come_30 : DC mX10_come 30 (.iadd) 1 := by decide +kernel
theorem dX10_come_31 : DC mX10_come 31 (.putfield 141) 3 := by decide +kernel
theorem dX10_come_34 : DC mX10_come 34 (.goto 18) 3 := by decide +kernel
theorem dX10_come_37 : DC mX10_come 37 (.aload_n 0) 1 := by decide +kernel
theorem dX10_come_38 : DC mX10_come 38 (.getfield 49) 3 := by decide +kernel
theorem dX10_come_41 : DC mX10_come 41 (.bipush 8) 2 := by decide +kernel
theorem dX10_come_43 : DC mX10_come 43 (.iload_n 1) 1 := by decide +kernel
theorem dX10_come_44 : DC mX10_come 44 (.imul) 1 := by decide +kernel
theorem dX10_come_45 : DC mX10_come 45 (.iload_n 2) 1 := by decide +kernel
theorem dX10_come_46 : DC mX10_come 46 (.iadd) 1 := by decide +kernel
theorem dX10_come_47 : DC mX10_come 47 (.dup2) 1 := by decide +kernel
theorem dX10_come_48 : DC mX10_come 48 (.iaload) 1 := by decide +kernel
theorem dX10_come_49 : DC mX10_come 49 (.iload_n 3) 1 := by decide +kernel
theorem dX10_come_50 : DC mX10_come 50 (.iadd) 1 := by decide +kernel
theorem dX10_come_51 : DC mX10_come 51 (.iastore) 1 := by decide +kernel
theorem dX10_come_52 : DC mX10_come 52 (.return_) 1 := by decide +kernel
theorem dX10_knock_0 : DC mX10_knock 0 (.bipush 8) 2 := by decide +kernel
theorem dX10_knock_2 : DC mX10_knock 2 (.iload_n 1) 1 := by decide +kernel
theorem dX10_knock_3 : DC mX10_knock 3 (.imul) 1 := by decide +kernel
theorem dX10_knock_4 : DC mX10_knock 4 (.iload_n 2) 1 := by decide +kernel
theorem dX10_knock_5 : DC mX10_knock 5 (.iadd) 1 := by decide +kernel
theorem dX10_knock_6 : DC mX10_knock 6 (.istore 4) 2 := by decide +kernel
theorem dX10_knock_8 : DC mX10_knock 8 (.aload_n 0) 1 := by decide +kernel
theorem dX10_knock_9 : DC mX10_knock 9 (.getfield 52) 3 := by decide +kernel
theorem dX10_knock_12 : DC mX10_knock 12 (.iload 4) 2 := by decide +kernel
theorem dX10_knock_14 : DC mX10_knock 14 (.iaload) 1 := by decide +kernel
theorem dX10_knock_15 : DC mX10_knock 15 (.iload_n 3) 1 := by decide +kernel
theorem dX10_knock_16 : DC mX10_knock 16 (.if_icmp .ge 35) 3 := by decide +kernel
theorem dX10_knock_19 : DC mX10_knock 19 (.aload_n 0) 1 := by decide +kernel
theorem dX10_knock_20 : DC mX10_knock 20 (.getfield 49) 3 := by decide +kernel
theorem dX10_knock_23 : DC mX10_knock 23 (.iload 4) 2 := by decide +kernel
theorem dX10_knock_25 : DC mX10_knock 25 (.iaload) 1 := by decide +kernel
theorem dX10_knock_26 : DC mX10_knock 26 (.aload_n 0) 1 := by decide +kernel
theorem dX10_knock_27 : DC mX10_knock 27 (.getfield 7) 3 := by decide +kernel
theorem dX10_knock_30 : DC mX10_knock 30 (.iload_n 2) 1 := by decide +kernel
theorem dX10_knock_31 : DC mX10_knock 31 (.iaload) 1 := by decide +kernel
theorem dX10_knock_32 : DC mX10_knock 32 (.if_icmp .lt 19) 3 := by decide +kernel
theorem dX10_knock_35 : DC mX10_knock 35 (.iload_n 1) 1 := by decide +kernel
theorem dX10_knock_36 : DC mX10_knock 36 (.iconst 1) 1 := by decide +kernel
theorem dX10_knock_37 : DC mX10_knock 37 (.if_icmp .ne 16) 3 := by decide +kernel
theorem dX10_knock_40 : DC mX10_knock 40 (.aload_n 0) 1 := by decide +kernel
theorem dX10_knock_41 : DC mX10_knock 41 (.bipush 10) 2 := by decide +kernel
theorem dX10_knock_43 : DC mX10_knock 43 (.iload_n 2) 1 := by decide +kernel
theorem dX10_knock_44 : DC mX10_knock 44 (.iadd) 1 := by decide +kernel
theorem dX10_knock_45 : DC mX10_knock 45 (.invokevirtual 134) 3 := by decide +kernel
theorem dX10_knock_48 : DC mX10_knock 48 (.ifCond .eq 5) 3 := by decide +kernel
theorem dX10_knock_51 : DC mX10_knock 51 (.iconst 0) 1 := by decide +kernel
theorem dX10_knock_52 : DC mX10_knock 52 (.ireturn) 1 := by decide +kernel
theorem dX10_knock_53 : DC mX10_knock 53 (.iload_n 1) 1 := by decide +kernel
theorem dX10_knock_54 : DC mX10_knock 54 (.iconst 1) 1 := by decide +kernel
theorem dX10_knock_55 : DC mX10_knock 55 (.if_icmp .ne 18) 3 := by decide +kernel
theorem dX10_knock_58 : DC mX10_knock 58 (.aload_n 0) 1 := by decide +kernel
theorem dX10_knock_59 : DC mX10_knock 59 (.bipush 20) 2 := by decide +kernel
theorem dX10_knock_61 : DC mX10_knock 61 (.iload_n 2) 1 := by decide +kernel
theorem dX10_knock_62 : DC mX10_knock 62 (.iadd) 1 := by decide +kernel
theorem dX10_knock_63 : DC mX10_knock 63 (.invokevirtual 134) 3 := by decide +kernel
theorem dX10_knock_66 : DC mX10_knock 66 (.ifCond .eq 7) 3 := by decide +kernel
theorem dX10_knock_69 : DC mX10_knock 69 (.iconst (-1)) 1 := by decide +kernel
theorem dX10_knock_70 : DC mX10_knock 70 (.goto 9) 3 := by decide +kernel
theorem dX10_knock_73 : DC mX10_knock 73 (.aload_n 0) 1 := by decide +kernel
theorem dX10_knock_74 : DC mX10_knock 74 (.getfield 16) 3 := by decide +kernel
theorem dX10_knock_77 : DC mX10_knock 77 (.iload_n 2) 1 := by decide +kernel
theorem dX10_knock_78 : DC mX10_knock 78 (.iaload) 1 := by decide +kernel
theorem dX10_knock_79 : DC mX10_knock 79 (.istore 5) 2 := by decide +kernel
theorem dX10_knock_81 : DC mX10_knock 81 (.iload 5) 2 := by decide +kernel
theorem dX10_knock_83 : DC mX10_knock 83 (.ifCond .ge 30) 3 := by decide +kernel
theorem dX10_knock_86 : DC mX10_knock 86 (.aload_n 0) 1 := by decide +kernel
theorem dX10_knock_87 : DC mX10_knock 87 (.dup) 1 := by decide +kernel
theorem dX10_knock_88 : DC mX10_knock 88 (.getfield 141) 3 := by decide +kernel
theorem dX10_knock_91 : DC mX10_knock 91 (.iload_n 1) 1 := by decide +kernel
theorem dX10_knock_92 : DC mX10_knock 92 (.ifCond .ne 13) 3 := by decide +kernel
theorem dX10_knock_95 : DC mX10_knock 95 (.aload_n 0) 1 := by decide +kernel
theorem dX10_knock_96 : DC mX10_knock 96 (.getfield 49) 3 := by decide +kernel
theorem dX10_knock_99 : DC mX10_knock 99 (.iload 4) 2 := by decide +kernel
theorem dX10_knock_101 : DC mX10_knock 101 (.iaload) 1 := by decide +kernel
theorem dX10_knock_102 : DC mX10_knock 102 (.goto 4) 3 := by decide +kernel
theorem dX10_knock_105 : DC mX10_knock 105 (.iconst 0) 1 := by decide +kernel
theorem dX10_knock_106 : DC mX10_knock 106 (.iadd) 1 := by decide +kernel
theorem dX10_knock_107 : DC mX10_knock 107 (.putfield 141) 3 := by decide +kernel
theorem dX10_knock_110 : DC mX10_knock 110 (.goto 40) 3 := by decide +kernel
theorem dX10_knock_113 : DC mX10_knock 113 (.aload_n 0) 1 := by decide +kernel
theorem dX10_knock_114 : DC mX10_knock 114 (.getfield 55) 3 := by decide +kernel
theorem dX10_knock_117 : DC mX10_knock 117 (.bipush 21) 2 := by decide +kernel
theorem dX10_knock_119 : DC mX10_knock 119 (.bipush 8) 2 := by decide +kernel
theorem dX10_knock_121 : DC mX10_knock 121 (.iload_n 1) 1 := by decide +kernel
theorem dX10_knock_122 : DC mX10_knock 122 (.imul) 1 := by decide +kernel
theorem dX10_knock_123 : DC mX10_knock 123 (.iload 5) 2 := by decide +kernel
theorem dX10_knock_125 : DC mX10_knock 125 (.iadd) 1 := by decide +kernel
theorem dX10_knock_126 : DC mX10_knock 126 (.imul) 1 := by decide +kernel
theorem dX10_knock_127 : DC mX10_knock 127 (.iload_n 3) 1 := by decide +kernel
theorem dX10_knock_128 : DC mX10_knock 128 (.aload_n 0) 1 := by decide +kernel
theorem dX10_knock_129 : DC mX10_knock 129 (.getfield 19) 3 := by decide +kernel
theorem dX10_knock_132 : DC mX10_knock 132 (.iload_n 2) 1 := by decide +kernel
theorem dX10_knock_133 : DC mX10_knock 133 (.iaload) 1 := by decide +kernel
theorem dX10_knock_134 : DC mX10_knock 134 (.iadd) 1 := by decide +kernel
theorem dX10_knock_135 : DC mX10_knock 135 (.bipush 21) 2 := by decide +kernel
theorem dX10_knock_137 : DC mX10_knock 137 (.irem) 1 := by decide +kernel
theorem dX10_knock_138 : DC mX10_knock 138 (.iadd) 1 := by decide +kernel
theorem dX10_knock_139 : DC mX10_knock 139 (.dup2) 1 := by decide +kernel
theorem dX10_knock_140 : DC mX10_knock 140 (.iaload) 1 := by decide +kernel
theorem dX10_knock_141 : DC mX10_knock 141 (.aload_n 0) 1 := by decide +kernel
theorem dX10_knock_142 : DC mX10_knock 142 (.getfield 49) 3 := by decide +kernel
theorem dX10_knock_145 : DC mX10_knock 145 (.iload 4) 2 := by decide +kernel
theorem dX10_knock_147 : DC mX10_knock 147 (.iaload) 1 := by decide +kernel
theorem dX10_knock_148 : DC mX10_knock 148 (.iadd) 1 := by decide +kernel
theorem dX10_knock_149 : DC mX10_knock 149 (.iastore) 1 := by decide +kernel
theorem dX10_knock_150 : DC mX10_knock 150 (.aload_n 0) 1 := by decide +kernel
theorem dX10_knock_151 : DC mX10_knock 151 (.getfield 49) 3 := by decide +kernel
theorem dX10_knock_154 : DC mX10_knock 154 (.iload 4) 2 := by decide +kernel
theorem dX10_knock_156 : DC mX10_knock 156 (.iconst 0) 1 := by decide +kernel
theorem dX10_knock_157 : DC mX10_knock 157 (.iastore) 1 := by decide +kernel
theorem dX10_knock_158 : DC mX10_knock 158 (.aload_n 0) 1 := by decide +kernel
theorem dX10_knock_159 : DC mX10_knock 159 (.getfield 52) 3 := by decide +kernel
theorem dX10_knock_162 : DC mX10_knock 162 (.iload 4) 2 := by decide +kernel
theorem dX10_knock_164 : DC mX10_knock 164 (.iload_n 3) 1 := by decide +kernel
theorem dX10_knock_165 : DC mX10_knock 165 (.aload_n 0) 1 := by decide +kernel
theorem dX10_knock_166 : DC mX10_knock 166 (.getfield 13) 3 := by decide +kernel
theorem dX10_knock_169 : DC mX10_knock 169 (.iload_n 2) 1 := by decide +kernel
theorem dX10_knock_170 : DC mX10_knock 170 (.iaload) 1 := by decide +kernel
theorem dX10_knock_171 : DC mX10_knock 171 (.iadd) 1 := by decide +kernel
theorem dX10_knock_172 : DC mX10_knock 172 (.iastore) 1 := by decide +kernel
theorem dX10_knock_173 : DC mX10_knock 173 (.iconst 1) 1 := by decide +kernel
theorem dX10_knock_174 : DC mX10_knock 174 (.ireturn) 1 := by decide +kernel
theorem dX10_step_0 : DC mX10_step 0 (.iconst 0) 1 := by decide +kernel
theorem dX10_step_1 : DC mX10_step 1 (.istore 4) 2 := by decide +kernel
theorem dX10_step_3 : DC mX10_step 3 (.iload 4) 2 := by decide +kernel
theorem dX10_step_5 : DC mX10_step 5 (.aload_n 0) 1 := by decide +kernel
theorem dX10_step_6 : DC mX10_step 6 (.getfield 99) 3 := by decide +kernel
theorem dX10_step_9 : DC mX10_step 9 (.if_icmp .ge 54) 3 := by decide +kernel
theorem dX10_step_12 : DC mX10_step 12 (.aload_n 0) 1 := by decide +kernel
theorem dX10_step_13 : DC mX10_step 13 (.iload_n 1) 1 := by decide +kernel
theorem dX10_step_14 : DC mX10_step 14 (.iload 4) 2 := by decide +kernel
theorem dX10_step_16 : DC mX10_step 16 (.iload_n 2) 1 := by decide +kernel
theorem dX10_step_17 : DC mX10_step 17 (.iload_n 3) 1 := by decide +kernel
theorem dX10_step_18 : DC mX10_step 18 (.invokevirtual 144) 3 := by decide +kernel
theorem dX10_step_21 : DC mX10_step 21 (.istore 5) 2 := by decide +kernel
theorem dX10_step_23 : DC mX10_step 23 (.aload_n 0) 1 := by decide +kernel
theorem dX10_step_24 : DC mX10_step 24 (.dup) 1 := by decide +kernel
theorem dX10_step_25 : DC mX10_step 25 (.getfield 148) 3 := by decide +kernel
theorem dX10_step_28 : DC mX10_step 28 (.iload_n 1) 1 := by decide +kernel
theorem dX10_step_29 : DC mX10_step 29 (.ifCond .ne 8) 3 := by decide +kernel
theorem dX10_step_32 : DC mX10_step 32 (.iload 5) 2 := by decide +kernel
theorem dX10_step_34 : DC mX10_step 34 (.goto 4) 3 := by decide +kernel
theorem dX10_step_37 : DC mX10_step 37 (.iconst 0) 1 := by decide +kernel
theorem dX10_step_38 : DC mX10_step 38 (.iadd) 1 := by decide +kernel
theorem dX10_step_39 : DC mX10_step 39 (.putfield 148) 3 := by decide +kernel
theorem dX10_step_42 : DC mX10_step 42 (.aload_n 0) 1 := by decide +kernel
theorem dX10_step_43 : DC mX10_step 43 (.iload_n 1) 1 := by decide +kernel
theorem dX10_step_44 : DC mX10_step 44 (.aload_n 0) 1 := by decide +kernel
theorem dX10_step_45 : DC mX10_step 45 (.getfield 22) 3 := by decide +kernel
theorem dX10_step_48 : DC mX10_step 48 (.iload 4) 2 := by decide +kernel
theorem dX10_step_50 : DC mX10_step 50 (.iaload) 1 := by decide +kernel
theorem dX10_step_51 : DC mX10_step 51 (.iload 5) 2 := by decide +kernel
theorem dX10_step_53 : DC mX10_step 53 (.iload_n 2) 1 := by decide +kernel
theorem dX10_step_54 : DC mX10_step 54 (.invokevirtual 151) 3 := by decide +kernel
theorem dX10_step_57 : DC mX10_step 57 (.iinc 4 1) 3 := by decide +kernel
theorem dX10_step_60 : DC mX10_step 60 (.goto (-57)) 3 := by decide +kernel
theorem dX10_step_63 : DC mX10_step 63 (.iconst 0) 1 := by decide +kernel
theorem dX10_step_64 : DC mX10_step 64 (.istore 4) 2 := by decide +kernel
theorem dX10_step_66 : DC mX10_step 66 (.iload 4) 2 := by decide +kernel
theorem dX10_step_68 : DC mX10_step 68 (.aload_n 0) 1 := by decide +kernel
theorem dX10_step_69 : DC mX10_step 69 (.getfield 92) 3 := by decide +kernel
theorem dX10_step_72 : DC mX10_step 72 (.if_icmp .ge 49) 3 := by decide +kernel
theorem dX10_step_75 : DC mX10_step 75 (.bipush 21) 2 := by decide +kernel
theorem dX10_step_77 : DC mX10_step 77 (.bipush 8) 2 := by decide +kernel
theorem dX10_step_79 : DC mX10_step 79 (.iload_n 1) 1 := by decide +kernel
theorem dX10_step_80 : DC mX10_step 80 (.imul) 1 := by decide +kernel
theorem dX10_step_81 : DC mX10_step 81 (.iload 4) 2 := by decide +kernel
theorem dX10_step_83 : DC mX10_step 83 (.iadd) 1 := by decide +kernel
theorem dX10_step_84 : DC mX10_step 84 (.imul) 1 := by decide +kernel
theorem dX10_step_85 : DC mX10_step 85 (.iload_n 2) 1 := by decide +kernel
theorem dX10_step_86 : DC mX10_step 86 (.bipush 21) 2 := by decide +kernel
theorem dX10_step_88 : DC mX10_step 88 (.irem) 1 := by decide +kernel
theorem dX10_step_89 : DC mX10_step 89 (.iadd) 1 := by decide +kernel
theorem dX10_step_90 : DC mX10_step 90 (.istore 5) 2 := by decide +kernel
theorem dX10_step_92 : DC mX10_step 92 (.aload_n 0) 1 := by decide +kernel
theorem dX10_step_93 : DC mX10_step 93 (.iload_n 1) 1 := by decide +kernel
theorem dX10_step_94 : DC mX10_step 94 (.iload 4) 2 := by decide +kernel
theorem dX10_step_96 : DC mX10_step 96 (.aload_n 0) 1 := by decide +kernel
theorem dX10_step_97 : DC mX10_step 97 (.getfield 55) 3 := by decide +kernel
theorem dX10_step_100 : DC mX10_step 100 (.iload 5) 2 := by decide +kernel
theorem dX10_step_102 : DC mX10_step 102 (.iaload) 1 := by decide +kernel
theorem dX10_step_103 : DC mX10_step 103 (.iload_n 2) 1 := by decide +kernel
theorem dX10_step_104 : DC mX10_step 104 (.invokevirtual 151) 3 := by decide +kernel
theorem dX10_step_107 : DC mX10_step 107 (.aload_n 0) 1 := by decide +kernel
theorem dX10_step_108 : DC mX10_step 108 (.getfield 55) 3 := by decide +kernel
theorem dX10_step_111 : DC mX10_step 111 (.iload 5) 2 := by decide +kernel
theorem dX10_step_113 : DC mX10_step 113 (.iconst 0) 1 := by decide +kernel
theorem dX10_step_114 : DC mX10_step 114 (.iastore) 1 := by decide +kernel
theorem dX10_step_115 : DC mX10_step 115 (.iinc 4 1) 3 := by decide +kernel
theorem dX10_step_118 : DC mX10_step 118 (.goto (-52)) 3 := by decide +kernel
theorem dX10_step_121 : DC mX10_step 121 (.iconst 0) 1 := by decide +kernel
theorem dX10_step_122 : DC mX10_step 122 (.istore 4) 2 := by decide +kernel
theorem dX10_step_124 : DC mX10_step 124 (.iload 4) 2 := by decide +kernel
theorem dX10_step_126 : DC mX10_step 126 (.aload_n 0) 1 := by decide +kernel
theorem dX10_step_127 : DC mX10_step 127 (.getfield 92) 3 := by decide +kernel
theorem dX10_step_130 : DC mX10_step 130 (.if_icmp .ge 84) 3 := by decide +kernel
theorem dX10_step_133 : DC mX10_step 133 (.bipush 8) 2 := by decide +kernel
theorem dX10_step_135 : DC mX10_step 135 (.iload_n 1) 1 := by decide +kernel
theorem dX10_step_136 : DC mX10_step 136 (.imul) 1 := by decide +kernel
theorem dX10_step_137 : DC mX10_step 137 (.iload 4) 2 := by decide +kernel
theorem dX10_step_139 : DC mX10_step 139 (.iadd) 1 := by decide +kernel
theorem dX10_step_140 : DC mX10_step 140 (.istore 5) 2 := by decide +kernel
theorem dX10_step_142 : DC mX10_step 142 (.aload_n 0) 1 := by decide +kernel
theorem dX10_step_143 : DC mX10_step 143 (.getfield 127) 3 := by decide +kernel
theorem dX10_step_146 : DC mX10_step 146 (.ifCond .le 62) 3 := by decide +kernel
theorem dX10_step_149 : DC mX10_step 149 (.iload_n 2) 1 := by decide +kernel
theorem dX10_step_150 : DC mX10_step 150 (.aload_n 0) 1 := by decide +kernel
theorem dX10_step_151 : DC mX10_step 151 (.getfield 127) 3 := by decide +kernel
theorem dX10_step_154 : DC mX10_step 154 (.irem) 1 := by decide +kernel
theorem dX10_step_155 : DC mX10_step 155 (.ifCond .ne 53) 3 := by decide +kernel
theorem dX10_step_158 : DC mX10_step 158 (.aload_n 0) 1 := by decide +kernel
theorem dX10_step_159 : DC mX10_step 159 (.getfield 52) 3 := by decide +kernel
theorem dX10_step_162 : DC mX10_step 162 (.iload 5) 2 := by decide +kernel
theorem dX10_step_164 : DC mX10_step 164 (.iaload) 1 := by decide +kernel
theorem dX10_step_165 : DC mX10_step 165 (.iload_n 2) 1 := by decide +kernel
theorem dX10_step_166 : DC mX10_step 166 (.if_icmp .ge 42) 3 := by decide +kernel
theorem dX10_step_169 : DC mX10_step 169 (.aload_n 0) 1 := by decide +kernel
theorem dX10_step_170 : DC mX10_step 170 (.getfield 49) 3 := by decide +kernel
theorem dX10_step_173 : DC mX10_step 173 (.iload 5) 2 := by decide +kernel
theorem dX10_step_175 : DC mX10_step 175 (.iaload) 1 := by decide +kernel
theorem dX10_step_176 : DC mX10_step 176 (.ifCond .le 32) 3 := by decide +kernel
theorem dX10_step_179 : DC mX10_step 179 (.aload_n 0) 1 := by decide +kernel
theorem dX10_step_180 : DC mX10_step 180 (.getfield 49) 3 := by decide +kernel
theorem dX10_step_183 : DC mX10_step 183 (.iload 5) 2 := by decide +kernel
theorem dX10_step_185 : DC mX10_step 185 (.dup2) 1 := by decide +kernel
theorem dX10_step_186 : DC mX10_step 186 (.iaload) 1 := by decide +kernel
theorem dX10_step_187 : DC mX10_step 187 (.iconst 1) 1 := by decide +kernel
theorem dX10_step_188 : DC mX10_step 188 (.isub) 1 := by decide +kernel
theorem dX10_step_189 : DC mX10_step 189 (.iastore) 1 := by decide +kernel
theorem dX10_step_190 : DC mX10_step 190 (.aload_n 0) 1 := by decide +kernel
theorem dX10_step_191 : DC mX10_step 191 (.dup) 1 := by decide +kernel
theorem dX10_step_192 : DC mX10_step 192 (.getfield 155) 3 := by decide +kernel
theorem dX10_step_195 : DC mX10_step 195 (.iload_n 1) 1 := by decide +kernel
theorem dX10_step_196 : DC mX10_step 196 (.ifCond .ne 7) 3 := by decide +kernel
theorem dX10_step_199 : DC mX10_step 199 (.iconst 1) 1 := by decide +kernel
theorem dX10_step_200 : DC mX10_step 200 (.goto 4) 3 := by decide +kernel
theorem dX10_step_203 : DC mX10_step 203 (.iconst 0) 1 := by decide +kernel
theorem dX10_step_204 : DC mX10_step 204 (.iadd) 1 := by decide +kernel
theorem dX10_step_205 : DC mX10_step 205 (.putfield 155) 3 := by decide +kernel
theorem dX10_step_208 : DC mX10_step 208 (.iinc 4 1) 3 := by decide +kernel
theorem dX10_step_211 : DC mX10_step 211 (.goto (-87)) 3 := by decide +kernel
theorem dX10_step_214 : DC mX10_step 214 (.iconst 0) 1 := by decide +kernel
theorem dX10_step_215 : DC mX10_step 215 (.istore 4) 2 := by decide +kernel
theorem dX10_step_217 : DC mX10_step 217 (.iconst 0) 1 := by decide +kernel
theorem dX10_step_218 : DC mX10_step 218 (.istore 5) 2 := by decide +kernel
theorem dX10_step_220 : DC mX10_step 220 (.iload 5) 2 := by decide +kernel
theorem dX10_step_222 : DC mX10_step 222 (.aload_n 0) 1 := by decide +kernel
theorem dX10_step_223 : DC mX10_step 223 (.getfield 92) 3 := by decide +kernel
theorem dX10_step_226 : DC mX10_step 226 (.if_icmp .ge 33) 3 := by decide +kernel
theorem dX10_step_229 : DC mX10_step 229 (.iload 4) 2 := by decide +kernel
theorem dX10_step_231 : DC mX10_step 231 (.aload_n 0) 1 := by decide +kernel
theorem dX10_step_232 : DC mX10_step 232 (.iload_n 1) 1 := by decide +kernel
theorem dX10_step_233 : DC mX10_step 233 (.iload 5) 2 := by decide +kernel
theorem dX10_step_235 : DC mX10_step 235 (.iload_n 2) 1 := by decide +kernel
theorem dX10_step_236 : DC mX10_step 236 (.invokevirtual 158) 3 := by decide +kernel
theorem dX10_step_239 : DC mX10_step 239 (.ifCond .eq 10) 3 := by decide +kernel
theorem dX10_step_242 : DC mX10_step 242 (.iconst 1) 1 := by decide +kernel
theorem dX10_step_243 : DC mX10_step 243 (.iload 5) 2 := by decide +kernel
theorem dX10_step_245 : DC mX10_step 245 (.ishl) 1 := by decide +kernel
theorem dX10_step_246 : DC mX10_step 246 (.goto 4) 3 := by decide +kernel
theorem dX10_step_249 : DC mX10_step 249 (.iconst 0) 1 := by decide +kernel
theorem dX10_step_250 : DC mX10_step 250 (.ior) 1 := by decide +kernel
theorem dX10_step_251 : DC mX10_step 251 (.istore 4) 2 := by decide +kernel
theorem dX10_step_253 : DC mX10_step 253 (.iinc 5 1) 3 := by decide +kernel
theorem dX10_step_256 : DC mX10_step 256 (.goto (-36)) 3 := by decide +kernel
theorem dX10_step_259 : DC mX10_step 259 (.iload 4) 2 := by decide +kernel
theorem dX10_step_261 : DC mX10_step 261 (.ireturn) 1 := by decide +kernel
theorem dX10_begin_0 : DC mX10_begin 0 (.iconst 0) 1 := by decide +kernel
theorem dX10_begin_1 : DC mX10_begin 1 (.istore_n 2) 1 := by decide +kernel
theorem dX10_begin_2 : DC mX10_begin 2 (.iload_n 2) 1 := by decide +kernel
theorem dX10_begin_3 : DC mX10_begin 3 (.bipush 8) 2 := by decide +kernel
theorem dX10_begin_5 : DC mX10_begin 5 (.if_icmp .ge 33) 3 := by decide +kernel
theorem dX10_begin_8 : DC mX10_begin 8 (.aload_n 0) 1 := by decide +kernel
theorem dX10_begin_9 : DC mX10_begin 9 (.getfield 49) 3 := by decide +kernel
theorem dX10_begin_12 : DC mX10_begin 12 (.bipush 8) 2 := by decide +kernel
theorem dX10_begin_14 : DC mX10_begin 14 (.iload_n 1) 1 := by decide +kernel
theorem dX10_begin_15 : DC mX10_begin 15 (.imul) 1 := by decide +kernel
theorem dX10_begin_16 : DC mX10_begin 16 (.iload_n 2) 1 := by decide +kernel
theorem dX10_begin_17 : DC mX10_begin 17 (.iadd) 1 := by decide +kernel
theorem dX10_begin_18 : DC mX10_begin 18 (.iconst 0) 1 := by decide +kernel
theorem dX10_begin_19 : DC mX10_begin 19 (.iastore) 1 := by decide +kernel
theorem dX10_begin_20 : DC mX10_begin 20 (.aload_n 0) 1 := by decide +kernel
theorem dX10_begin_21 : DC mX10_begin 21 (.getfield 52) 3 := by decide +kernel
theorem dX10_begin_24 : DC mX10_begin 24 (.bipush 8) 2 := by decide +kernel
theorem dX10_begin_26 : DC mX10_begin 26 (.iload_n 1) 1 := by decide +kernel
theorem dX10_begin_27 : DC mX10_begin 27 (.imul) 1 := by decide +kernel
theorem dX10_begin_28 : DC mX10_begin 28 (.iload_n 2) 1 := by decide +kernel
theorem dX10_begin_29 : DC mX10_begin 29 (.iadd) 1 := by decide +kernel
theorem dX10_begin_30 : DC mX10_begin 30 (.iconst (-1)) 1 := by decide +kernel
theorem dX10_begin_31 : DC mX10_begin 31 (.iastore) 1 := by decide +kernel
theorem dX10_begin_32 : DC mX10_begin 32 (.iinc 2 1) 3 := by decide +kernel
theorem dX10_begin_35 : DC mX10_begin 35 (.goto (-33)) 3 := by decide +kernel
theorem dX10_begin_38 : DC mX10_begin 38 (.iconst 0) 1 := by decide +kernel
theorem dX10_begin_39 : DC mX10_begin 39 (.istore_n 2) 1 := by decide +kernel
theorem dX10_begin_40 : DC mX10_begin 40 (.iload_n 2) 1 := by decide +kernel
theorem dX10_begin_41 : DC mX10_begin 41 (.sipush 168) 3 := by decide +kernel
theorem dX10_begin_44 : DC mX10_begin 44 (.if_icmp .ge 22) 3 := by decide +kernel
theorem dX10_begin_47 : DC mX10_begin 47 (.aload_n 0) 1 := by decide +kernel
theorem dX10_begin_48 : DC mX10_begin 48 (.getfield 55) 3 := by decide +kernel
theorem dX10_begin_51 : DC mX10_begin 51 (.sipush 168) 3 := by decide +kernel
theorem dX10_begin_54 : DC mX10_begin 54 (.iload_n 1) 1 := by decide +kernel
theorem dX10_begin_55 : DC mX10_begin 55 (.imul) 1 := by decide +kernel
theorem dX10_begin_56 : DC mX10_begin 56 (.iload_n 2) 1 := by decide +kernel
theorem dX10_begin_57 : DC mX10_begin 57 (.iadd) 1 := by decide +kernel
theorem dX10_begin_58 : DC mX10_begin 58 (.iconst 0) 1 := by decide +kernel
theorem dX10_begin_59 : DC mX10_begin 59 (.iastore) 1 := by decide +kernel
theorem dX10_begin_60 : DC mX10_begin 60 (.iinc 2 1) 3 := by decide +kernel
theorem dX10_begin_63 : DC mX10_begin 63 (.goto (-23)) 3 := by decide +kernel
theorem dX10_begin_66 : DC mX10_begin 66 (.return_) 1 := by decide +kernel
theorem dX10_onTheWay_0 : DC mX10_onTheWay 0 (.iconst 0) 1 := by decide +kernel
theorem dX10_onTheWay_1 : DC mX10_onTheWay 1 (.istore_n 2) 1 := by decide +kernel
theorem dX10_onTheWay_2 : DC mX10_onTheWay 2 (.iconst 0) 1 := by decide +kernel
theorem dX10_onTheWay_3 : DC mX10_onTheWay 3 (.istore_n 3) 1 := by decide +kernel
theorem dX10_onTheWay_4 : DC mX10_onTheWay 4 (.iload_n 3) 1 := by decide +kernel
theorem dX10_onTheWay_5 : DC mX10_onTheWay 5 (.bipush 21) 2 := by decide +kernel
theorem dX10_onTheWay_7 : DC mX10_onTheWay 7 (.if_icmp .ge 23) 3 := by decide +kernel
theorem dX10_onTheWay_10 : DC mX10_onTheWay 10 (.iload_n 2) 1 := by decide +kernel
theorem dX10_onTheWay_11 : DC mX10_onTheWay 11 (.aload_n 0) 1 := by decide +kernel
theorem dX10_onTheWay_12 : DC mX10_onTheWay 12 (.getfield 55) 3 := by decide +kernel
theorem dX10_onTheWay_15 : DC mX10_onTheWay 15 (.bipush 21) 2 := by decide +kernel
theorem dX10_onTheWay_17 : DC mX10_onTheWay 17 (.iload_n 1) 1 := by decide +kernel
theorem dX10_onTheWay_18 : DC mX10_onTheWay 18 (.imul) 1 := by decide +kernel
theorem dX10_onTheWay_19 : DC mX10_onTheWay 19 (.iload_n 3) 1 := by decide +kernel
theorem dX10_onTheWay_20 : DC mX10_onTheWay 20 (.iadd) 1 := by decide +kernel
theorem dX10_onTheWay_21 : DC mX10_onTheWay 21 (.iaload) 1 := by decide +kernel
theorem dX10_onTheWay_22 : DC mX10_onTheWay 22 (.iadd) 1 := by decide +kernel
theorem dX10_onTheWay_23 : DC mX10_onTheWay 23 (.istore_n 2) 1 := by decide +kernel
theorem dX10_onTheWay_24 : DC mX10_onTheWay 24 (.iinc 3 1) 3 := by decide +kernel
theorem dX10_onTheWay_27 : DC mX10_onTheWay 27 (.goto (-23)) 3 := by decide +kernel
theorem dX10_onTheWay_30 : DC mX10_onTheWay 30 (.iload_n 2) 1 := by decide +kernel
theorem dX10_onTheWay_31 : DC mX10_onTheWay 31 (.ireturn) 1 := by decide +kernel
theorem dX10_told_0 : DC mX10_told 0 (.aload_n 0) 1 := by decide +kernel
theorem dX10_told_1 : DC mX10_told 1 (.iload_n 1) 1 := by decide +kernel
theorem dX10_told_2 : DC mX10_told 2 (.invokevirtual 106) 3 := by decide +kernel
theorem dX10_told_5 : DC mX10_told 5 (.ifCond .eq 7) 3 := by decide +kernel
theorem dX10_told_8 : DC mX10_told 8 (.sipush (-1001)) 3 := by decide +kernel
theorem dX10_told_11 : DC mX10_told 11 (.ireturn) 1 := by decide +kernel
theorem dX10_told_12 : DC mX10_told 12 (.iload_n 2) 1 := by decide +kernel
theorem dX10_told_13 : DC mX10_told 13 (.tableswitch 137 0 8 #[51, 58, 65, 72, 79, 86, 117, 124, 131]) 51 := by decide +kernel
theorem dX10_told_64 : DC mX10_told 64 (.aload_n 0) 1 := by decide +kernel
theorem dX10_told_65 : DC mX10_told 65 (.getfield 7) 3 := by decide +kernel
theorem dX10_told_68 : DC mX10_told 68 (.iload_n 1) 1 := by decide +kernel
theorem dX10_told_69 : DC mX10_told 69 (.iaload) 1 := by decide +kernel
theorem dX10_told_70 : DC mX10_told 70 (.ireturn) 1 := by decide +kernel
theorem dX10_told_71 : DC mX10_told 71 (.aload_n 0) 1 := by decide +kernel
theorem dX10_told_72 : DC mX10_told 72 (.getfield 13) 3 := by decide +kernel
theorem dX10_told_75 : DC mX10_told 75 (.iload_n 1) 1 := by decide +kernel
theorem dX10_told_76 : DC mX10_told 76 (.iaload) 1 := by decide +kernel
theorem dX10_told_77 : DC mX10_told 77 (.ireturn) 1 := by decide +kernel
theorem dX10_told_78 : DC mX10_told 78 (.aload_n 0) 1 := by decide +kernel
theorem dX10_told_79 : DC mX10_told 79 (.getfield 16) 3 := by decide +kernel
theorem dX10_told_82 : DC mX10_told 82 (.iload_n 1) 1 := by decide +kernel
theorem dX10_told_83 : DC mX10_told 83 (.iaload) 1 := by decide +kernel
theorem dX10_told_84 : DC mX10_told 84 (.ireturn) 1 := by decide +kernel
theorem dX10_told_85 : DC mX10_told 85 (.aload_n 0) 1 := by decide +kernel
theorem dX10_told_86 : DC mX10_told 86 (.getfield 19) 3 := by decide +kernel
theorem dX10_told_89 : DC mX10_told 89 (.iload_n 1) 1 := by decide +kernel
theorem dX10_told_90 : DC mX10_told 90 (.iaload) 1 := by decide +kernel
theorem dX10_told_91 : DC mX10_told 91 (.ireturn) 1 := by decide +kernel
theorem dX10_told_92 : DC mX10_told 92 (.aload_n 0) 1 := by decide +kernel
theorem dX10_told_93 : DC mX10_told 93 (.getfield 49) 3 := by decide +kernel
theorem dX10_told_96 : DC mX10_told 96 (.iload_n 1) 1 := by decide +kernel
theorem dX10_told_97 : DC mX10_told 97 (.iaload) 1 := by decide +kernel
theorem dX10_told_98 : DC mX10_told 98 (.ireturn) 1 := by decide +kernel
theorem dX10_told_99 : DC mX10_told 99 (.aload_n 0) 1 := by decide +kernel
theorem dX10_told_100 : DC mX10_told 100 (.getfield 52) 3 := by decide +kernel
theorem dX10_told_103 : DC mX10_told 103 (.iload_n 1) 1 := by decide +kernel
theorem dX10_told_104 : DC mX10_told 104 (.iaload) 1 := by decide +kernel
theorem dX10_told_105 : DC mX10_told 105 (.aload_n 0) 1 := by decide +kernel
theorem dX10_told_106 : DC mX10_told 106 (.getfield 162) 3 := by decide +kernel
theorem dX10_told_109 : DC mX10_told 109 (.if_icmp .lt 19) 3 := by decide +kernel
theorem dX10_told_112 : DC mX10_told 112 (.aload_n 0) 1 := by decide +kernel
theorem dX10_told_113 : DC mX10_told 113 (.getfield 52) 3 := by decide +kernel
theorem dX10_told_116 : DC mX10_told 116 (.iload_n 1) 1 := by decide +kernel
theorem dX10_told_117 : DC mX10_told 117 (.iaload) 1 := by decide +kernel
theorem dX10_told_118 : DC mX10_told 118 (.aload_n 0) 1 := by decide +kernel
theorem dX10_told_119 : DC mX10_told 119 (.getfield 162) 3 := by decide +kernel
theorem dX10_told_122 : DC mX10_told 122 (.isub) 1 := by decide +kernel
theorem dX10_told_123 : DC mX10_told 123 (.iconst 1) 1 := by decide +kernel
theorem dX10_told_124 : DC mX10_told 124 (.iadd) 1 := by decide +kernel
theorem dX10_told_125 : DC mX10_told 125 (.goto 4) 3 := by decide +kernel
theorem dX10_told_128 : DC mX10_told 128 (.iconst 0) 1 := by decide +kernel
theorem dX10_told_129 : DC mX10_told 129 (.ireturn) 1 := by decide +kernel
theorem dX10_told_130 : DC mX10_told 130 (.aload_n 0) 1 := by decide +kernel
theorem dX10_told_131 : DC mX10_told 131 (.getfield 58) 3 := by decide +kernel
theorem dX10_told_134 : DC mX10_told 134 (.iload_n 1) 1 := by decide +kernel
theorem dX10_told_135 : DC mX10_told 135 (.iaload) 1 := by decide +kernel
theorem dX10_told_136 : DC mX10_told 136 (.ireturn) 1 := by decide +kernel
theorem dX10_told_137 : DC mX10_told 137 (.aload_n 0) 1 := by decide +kernel
theorem dX10_told_138 : DC mX10_told 138 (.getfield 61) 3 := by decide +kernel
theorem dX10_told_141 : DC mX10_told 141 (.iload_n 1) 1 := by decide +kernel
theorem dX10_told_142 : DC mX10_told 142 (.iaload) 1 := by decide +kernel
theorem dX10_told_143 : DC mX10_told 143 (.ireturn) 1 := by decide +kernel
theorem dX10_told_144 : DC mX10_told 144 (.aload_n 0) 1 := by decide +kernel
theorem dX10_told_145 : DC mX10_told 145 (.iload_n 1) 1 := by decide +kernel
theorem dX10_told_146 : DC mX10_told 146 (.invokevirtual 165) 3 := by decide +kernel
theorem dX10_told_149 : DC mX10_told 149 (.ireturn) 1 := by decide +kernel
theorem dX10_told_150 : DC mX10_told 150 (.sipush (-1002)) 3 := by decide +kernel
theorem dX10_told_153 : DC mX10_told 153 (.ireturn) 1 := by decide +kernel
theorem dX10_count_0 : DC mX10_count 0 (.iconst 0) 1 := by decide +kernel
theorem dX10_count_1 : DC mX10_count 1 (.istore_n 2) 1 := by decide +kernel
theorem dX10_count_2 : DC mX10_count 2 (.iconst 0) 1 := by decide +kernel
theorem dX10_count_3 : DC mX10_count 3 (.istore_n 3) 1 := by decide +kernel
theorem dX10_count_4 : DC mX10_count 4 (.iconst 0) 1 := by decide +kernel
theorem dX10_count_5 : DC mX10_count 5 (.istore 4) 2 := by decide +kernel
theorem dX10_count_7 : DC mX10_count 7 (.iconst 0) 1 := by decide +kernel
theorem dX10_count_8 : DC mX10_count 8 (.istore 5) 2 := by decide +kernel
theorem dX10_count_10 : DC mX10_count 10 (.iload 5) 2 := by decide +kernel
theorem dX10_count_12 : DC mX10_count 12 (.aload_n 0) 1 := by decide +kernel
theorem dX10_count_13 : DC mX10_count 13 (.getfield 92) 3 := by decide +kernel
theorem dX10_count_16 : DC mX10_count 16 (.if_icmp .ge 48) 3 := by decide +kernel
theorem dX10_count_19 : DC mX10_count 19 (.iload_n 2) 1 := by decide +kernel
theorem dX10_count_20 : DC mX10_count 20 (.aload_n 0) 1 := by decide +kernel
theorem dX10_count_21 : DC mX10_count 21 (.getfield 49) 3 := by decide +kernel
theorem dX10_count_24 : DC mX10_count 24 (.iload 5) 2 := by decide +kernel
theorem dX10_count_26 : DC mX10_count 26 (.iaload) 1 := by decide +kernel
theorem dX10_count_27 : DC mX10_count 27 (.iadd) 1 := by decide +kernel
theorem dX10_count_28 : DC mX10_count 28 (.istore_n 2) 1 := by decide +kernel
theorem dX10_count_29 : DC mX10_count 29 (.iload_n 3) 1 := by decide +kernel
theorem dX10_count_30 : DC mX10_count 30 (.aload_n 0) 1 := by decide +kernel
theorem dX10_count_31 : DC mX10_count 31 (.iload 5) 2 := by decide +kernel
theorem dX10_count_33 : DC mX10_count 33 (.invokevirtual 165) 3 := by decide +kernel
theorem dX10_count_36 : DC mX10_count 36 (.iadd) 1 := by decide +kernel
theorem dX10_count_37 : DC mX10_count 37 (.istore_n 3) 1 := by decide +kernel
theorem dX10_count_38 : DC mX10_count 38 (.iload 4) 2 := by decide +kernel
theorem dX10_count_40 : DC mX10_count 40 (.aload_n 0) 1 := by decide +kernel
theorem dX10_count_41 : DC mX10_count 41 (.getfield 82) 3 := by decide +kernel
theorem dX10_count_44 : DC mX10_count 44 (.iload 5) 2 := by decide +kernel
theorem dX10_count_46 : DC mX10_count 46 (.baload) 1 := by decide +kernel
theorem dX10_count_47 : DC mX10_count 47 (.ifCond .eq 7) 3 := by decide +kernel
theorem dX10_count_50 : DC mX10_count 50 (.iconst 1) 1 := by decide +kernel
theorem dX10_count_51 : DC mX10_count 51 (.goto 4) 3 := by decide +kernel
theorem dX10_count_54 : DC mX10_count 54 (.iconst 0) 1 := by decide +kernel
theorem dX10_count_55 : DC mX10_count 55 (.iadd) 1 := by decide +kernel
theorem dX10_count_56 : DC mX10_count 56 (.istore 4) 2 := by decide +kernel
theorem dX10_count_58 : DC mX10_count 58 (.iinc 5 1) 3 := by decide +kernel
theorem dX10_count_61 : DC mX10_count 61 (.goto (-51)) 3 := by decide +kernel
theorem dX10_count_64 : DC mX10_count 64 (.iload_n 1) 1 := by decide +kernel
theorem dX10_count_65 : DC mX10_count 65 (.tableswitch 115 0 11 #[63, 68, 73, 78, 83, 88, 93, 98, 100, 102, 107, 112]) 63 := by decide +kernel
theorem dX10_count_128 : DC mX10_count 128 (.aload_n 0) 1 := by decide +kernel
theorem dX10_count_129 : DC mX10_count 129 (.getfield 162) 3 := by decide +kernel
theorem dX10_count_132 : DC mX10_count 132 (.ireturn) 1 := by decide +kernel
theorem dX10_count_133 : DC mX10_count 133 (.aload_n 0) 1 := by decide +kernel
theorem dX10_count_134 : DC mX10_count 134 (.getfield 92) 3 := by decide +kernel
theorem dX10_count_137 : DC mX10_count 137 (.ireturn) 1 := by decide +kernel
theorem dX10_count_138 : DC mX10_count 138 (.aload_n 0) 1 := by decide +kernel
theorem dX10_count_139 : DC mX10_count 139 (.getfield 99) 3 := by decide +kernel
theorem dX10_count_142 : DC mX10_count 142 (.ireturn) 1 := by decide +kernel
theorem dX10_count_143 : DC mX10_count 143 (.aload_n 0) 1 := by decide +kernel
theorem dX10_count_144 : DC mX10_count 144 (.getfield 117) 3 := by decide +kernel
theorem dX10_count_147 : DC mX10_count 147 (.ireturn) 1 := by decide +kernel
theorem dX10_count_148 : DC mX10_count 148 (.aload_n 0) 1 := by decide +kernel
theorem dX10_count_149 : DC mX10_count 149 (.getfield 122) 3 := by decide +kernel
theorem dX10_count_152 : DC mX10_count 152 (.ireturn) 1 := by decide +kernel
theorem dX10_count_153 : DC mX10_count 153 (.aload_n 0) 1 := by decide +kernel
theorem dX10_count_154 : DC mX10_count 154 (.getfield 168) 3 := by decide +kernel
theorem dX10_count_157 : DC mX10_count 157 (.ireturn) 1 := by decide +kernel
theorem dX10_count_158 : DC mX10_count 158 (.aload_n 0) 1 := by decide +kernel
theorem dX10_count_159 : DC mX10_count 159 (.getfield 148) 3 := by decide +kernel
theorem dX10_count_162 : DC mX10_count 162 (.ireturn) 1 := by decide +kernel
theorem dX10_count_163 : DC mX10_count 163 (.iload_n 2) 1 := by decide +kernel
theorem dX10_count_164 : DC mX10_count 164 (.ireturn) 1 := by decide +kernel
theorem dX10_count_165 : DC mX10_count 165 (.iload_n 3) 1 := by decide +kernel
theorem dX10_count_166 : DC mX10_count 166 (.ireturn) 1 := by decide +kernel
theorem dX10_count_167 : DC mX10_count 167 (.aload_n 0) 1 := by decide +kernel
theorem dX10_count_168 : DC mX10_count 168 (.getfield 141) 3 := by decide +kernel
theorem dX10_count_171 : DC mX10_count 171 (.ireturn) 1 := by decide +kernel
theorem dX10_count_172 : DC mX10_count 172 (.aload_n 0) 1 := by decide +kernel
theorem dX10_count_173 : DC mX10_count 173 (.getfield 155) 3 := by decide +kernel
theorem dX10_count_176 : DC mX10_count 176 (.ireturn) 1 := by decide +kernel
theorem dX10_count_177 : DC mX10_count 177 (.iload 4) 2 := by decide +kernel
theorem dX10_count_179 : DC mX10_count 179 (.ireturn) 1 := by decide +kernel
theorem dX10_count_180 : DC mX10_count 180 (.sipush (-1002)) 3 := by decide +kernel
theorem dX10_count_183 : DC mX10_count 183 (.ireturn) 1 := by decide +kernel
theorem dX10_tick_0 : DC mX10_tick 0 (.iload_n 1) 1 := by decide +kernel
theorem dX10_tick_1 : DC mX10_tick 1 (.i2l) 1 := by decide +kernel
theorem dX10_tick_2 : DC mX10_tick 2 (.lconst 0) 1 := by decide +kernel
theorem dX10_tick_3 : DC mX10_tick 3 (.ldc2_w 171) 3 := by decide +kernel
theorem dX10_tick_6 : DC mX10_tick 6 (.invokestatic 95) 3 := by decide +kernel
theorem dX10_tick_9 : DC mX10_tick 9 (.ifCond .ne 7) 3 := by decide +kernel
theorem dX10_tick_12 : DC mX10_tick 12 (.sipush (-1002)) 3 := by decide +kernel
theorem dX10_tick_15 : DC mX10_tick 15 (.ireturn) 1 := by decide +kernel
theorem dX10_tick_16 : DC mX10_tick 16 (.aload_n 0) 1 := by decide +kernel
theorem dX10_tick_17 : DC mX10_tick 17 (.getfield 162) 3 := by decide +kernel
theorem dX10_tick_20 : DC mX10_tick 20 (.iload_n 1) 1 := by decide +kernel
theorem dX10_tick_21 : DC mX10_tick 21 (.iadd) 1 := by decide +kernel
theorem dX10_tick_22 : DC mX10_tick 22 (.sipush 2000) 3 := by decide +kernel
theorem dX10_tick_25 : DC mX10_tick 25 (.if_icmp .le 7) 3 := by decide +kernel
theorem dX10_tick_28 : DC mX10_tick 28 (.sipush (-1003)) 3 := by decide +kernel
theorem dX10_tick_31 : DC mX10_tick 31 (.ireturn) 1 := by decide +kernel
theorem dX10_tick_32 : DC mX10_tick 32 (.aload_n 0) 1 := by decide +kernel
theorem dX10_tick_33 : DC mX10_tick 33 (.getfield 168) 3 := by decide +kernel
theorem dX10_tick_36 : DC mX10_tick 36 (.istore_n 2) 1 := by decide +kernel
theorem dX10_tick_37 : DC mX10_tick 37 (.iconst 0) 1 := by decide +kernel
theorem dX10_tick_38 : DC mX10_tick 38 (.istore_n 3) 1 := by decide +kernel
theorem dX10_tick_39 : DC mX10_tick 39 (.iload_n 3) 1 := by decide +kernel
theorem dX10_tick_40 : DC mX10_tick 40 (.iload_n 1) 1 := by decide +kernel
theorem dX10_tick_41 : DC mX10_tick 41 (.if_icmp .ge 92) 3 := by decide +kernel
theorem dX10_tick_44 : DC mX10_tick 44 (.aload_n 0) 1 := by decide +kernel
theorem dX10_tick_45 : DC mX10_tick 45 (.iconst 0) 1 := by decide +kernel
theorem dX10_tick_46 : DC mX10_tick 46 (.aload_n 0) 1 := by decide +kernel
theorem dX10_tick_47 : DC mX10_tick 47 (.getfield 162) 3 := by decide +kernel
theorem dX10_tick_50 : DC mX10_tick 50 (.iconst 0) 1 := by decide +kernel
theorem dX10_tick_51 : DC mX10_tick 51 (.invokevirtual 173) 3 := by decide +kernel
theorem dX10_tick_54 : DC mX10_tick 54 (.istore 4) 2 := by decide +kernel
theorem dX10_tick_56 : DC mX10_tick 56 (.iconst 0) 1 := by decide +kernel
theorem dX10_tick_57 : DC mX10_tick 57 (.istore 5) 2 := by decide +kernel
theorem dX10_tick_59 : DC mX10_tick 59 (.iload 5) 2 := by decide +kernel
theorem dX10_tick_61 : DC mX10_tick 61 (.aload_n 0) 1 := by decide +kernel
theorem dX10_tick_62 : DC mX10_tick 62 (.getfield 92) 3 := by decide +kernel
theorem dX10_tick_65 : DC mX10_tick 65 (.if_icmp .ge 52) 3 := by decide +kernel
theorem dX10_tick_68 : DC mX10_tick 68 (.iload 4) 2 := by decide +kernel
theorem dX10_tick_70 : DC mX10_tick 70 (.iload 5) 2 := by decide +kernel
theorem dX10_tick_72 : DC mX10_tick 72 (.ishr) 1 := by decide +kernel
theorem dX10_tick_73 : DC mX10_tick 73 (.iconst 1) 1 := by decide +kernel
theorem dX10_tick_74 : DC mX10_tick 74 (.iand) 1 := by decide +kernel
theorem dX10_tick_75 : DC mX10_tick 75 (.iconst 1) 1 := by decide +kernel
theorem dX10_tick_76 : DC mX10_tick 76 (.if_icmp .ne 35) 3 := by decide +kernel
theorem dX10_tick_79 : DC mX10_tick 79 (.aload_n 0) 1 := by decide +kernel
theorem dX10_tick_80 : DC mX10_tick 80 (.dup) 1 := by decide +kernel
theorem dX10_tick_81 : DC mX10_tick 81 (.getfield 168) 3 := by decide +kernel
theorem dX10_tick_84 : DC mX10_tick 84 (.iconst 1) 1 := by decide +kernel
theorem dX10_tick_85 : DC mX10_tick 85 (.iadd) 1 := by decide +kernel
theorem dX10_tick_86 : DC mX10_tick 86 (.putfield 168) 3 := by decide +kernel
theorem dX10_tick_89 : DC mX10_tick 89 (.aload_n 0) 1 := by decide +kernel
theorem dX10_tick_90 : DC mX10_tick 90 (.getfield 58) 3 := by decide +kernel
theorem dX10_tick_93 : DC mX10_tick 93 (.iload 5) 2 := by decide +kernel
theorem dX10_tick_95 : DC mX10_tick 95 (.dup2) 1 := by decide +kernel
theorem dX10_tick_96 : DC mX10_tick 96 (.iaload) 1 := by decide +kernel
theorem dX10_tick_97 : DC mX10_tick 97 (.iconst 1) 1 := by decide +kernel
theorem dX10_tick_98 : DC mX10_tick 98 (.iadd) 1 := by decide +kernel
theorem dX10_tick_99 : DC mX10_tick 99 (.iastore) 1 := by decide +kernel
theorem dX10_tick_100 : DC mX10_tick 100 (.aload_n 0) 1 := by decide +kernel
theorem dX10_tick_101 : DC mX10_tick 101 (.getfield 61) 3 := by decide +kernel
theorem dX10_tick_104 : DC mX10_tick 104 (.iload 5) 2 := by decide +kernel
theorem dX10_tick_106 : DC mX10_tick 106 (.aload_n 0) 1 := by decide +kernel
theorem dX10_tick_107 : DC mX10_tick 107 (.getfield 162) 3 := by decide +kernel
theorem dX10_tick_110 : DC mX10_tick 110 (.iastore) 1 := by decide +kernel
theorem dX10_tick_111 : DC mX10_tick 111 (.iinc 5 1) 3 := by decide +kernel
theorem dX10_tick_114 : DC mX10_tick 114 (.goto (-55)) 3 := by decide +kernel
theorem dX10_tick_117 : DC mX10_tick 117 (.aload_n 0) 1 := by decide +kernel
theorem dX10_tick_118 : DC mX10_tick 118 (.dup) 1 := by decide +kernel
theorem dX10_tick_119 : DC mX10_tick 119 (.getfield 162) 3 := by decide +kernel
theorem dX10_tick_122 : DC mX10_tick 122 (.iconst 1) 1 := by decide +kernel
theorem dX10_tick_123 : DC mX10_tick 123 (.iadd) 1 := by decide +kernel
theorem dX10_tick_124 : DC mX10_tick 124 (.putfield 162) 3 := by decide +kernel
theorem dX10_tick_127 : DC mX10_tick 127 (.iinc 3 1) 3 := by decide +kernel
theorem dX10_tick_130 : DC mX10_tick 130 (.goto (-91)) 3 := by decide +kernel
theorem dX10_tick_133 : DC mX10_tick 133 (.aload_n 0) 1 := by decide +kernel
theorem dX10_tick_134 : DC mX10_tick 134 (.getfield 168) 3 := by decide +kernel
theorem dX10_tick_137 : DC mX10_tick 137 (.iload_n 2) 1 := by decide +kernel
theorem dX10_tick_138 : DC mX10_tick 138 (.isub) 1 := by decide +kernel
theorem dX10_tick_139 : DC mX10_tick 139 (.ireturn) 1 := by decide +kernel
theorem dX10_again_0 : DC mX10_again 0 (.aload_n 0) 1 := by decide +kernel
theorem dX10_again_1 : DC mX10_again 1 (.getfield 162) 3 := by decide +kernel
theorem dX10_again_4 : DC mX10_again 4 (.istore_n 1) 1 := by decide +kernel
theorem dX10_again_5 : DC mX10_again 5 (.aload_n 0) 1 := by decide +kernel
theorem dX10_again_6 : DC mX10_again 6 (.iconst 0) 1 := by decide +kernel
theorem dX10_again_7 : DC mX10_again 7 (.invokevirtual 177) 3 := by decide +kernel
theorem dX10_again_10 : DC mX10_again 10 (.aload_n 0) 1 := by decide +kernel
theorem dX10_again_11 : DC mX10_again 11 (.iconst 0) 1 := by decide +kernel
theorem dX10_again_12 : DC mX10_again 12 (.putfield 162) 3 := by decide +kernel
theorem dX10_again_15 : DC mX10_again 15 (.aload_n 0) 1 := by decide +kernel
theorem dX10_again_16 : DC mX10_again 16 (.iconst 0) 1 := by decide +kernel
theorem dX10_again_17 : DC mX10_again 17 (.putfield 168) 3 := by decide +kernel
theorem dX10_again_20 : DC mX10_again 20 (.aload_n 0) 1 := by decide +kernel
theorem dX10_again_21 : DC mX10_again 21 (.iconst 0) 1 := by decide +kernel
theorem dX10_again_22 : DC mX10_again 22 (.putfield 148) 3 := by decide +kernel
theorem dX10_again_25 : DC mX10_again 25 (.aload_n 0) 1 := by decide +kernel
theorem dX10_again_26 : DC mX10_again 26 (.iconst 0) 1 := by decide +kernel
theorem dX10_again_27 : DC mX10_again 27 (.putfield 141) 3 := by decide +kernel
theorem dX10_again_30 : DC mX10_again 30 (.aload_n 0) 1 := by decide +kernel
theorem dX10_again_31 : DC mX10_again 31 (.iconst 0) 1 := by decide +kernel
theorem dX10_again_32 : DC mX10_again 32 (.putfield 155) 3 := by decide +kernel
theorem dX10_again_35 : DC mX10_again 35 (.iconst 0) 1 := by decide +kernel
theorem dX10_again_36 : DC mX10_again 36 (.istore_n 2) 1 := by decide +kernel
theorem dX10_again_37 : DC mX10_again 37 (.iload_n 2) 1 := by decide +kernel
theorem dX10_again_38 : DC mX10_again 38 (.bipush 8) 2 := by decide +kernel
theorem dX10_again_40 : DC mX10_again 40 (.if_icmp .ge 23) 3 := by decide +kernel
theorem dX10_again_43 : DC mX10_again 43 (.aload_n 0) 1 := by decide +kernel
theorem dX10_again_44 : DC mX10_again 44 (.getfield 58) 3 := by decide +kernel
theorem dX10_again_47 : DC mX10_again 47 (.iload_n 2) 1 := by decide +kernel
theorem dX10_again_48 : DC mX10_again 48 (.iconst 0) 1 := by decide +kernel
theorem dX10_again_49 : DC mX10_again 49 (.iastore) 1 := by decide +kernel
theorem dX10_again_50 : DC mX10_again 50 (.aload_n 0) 1 := by decide +kernel
theorem dX10_again_51 : DC mX10_again 51 (.getfield 61) 3 := by decide +kernel
theorem dX10_again_54 : DC mX10_again 54 (.iload_n 2) 1 := by decide +kernel
theorem dX10_again_55 : DC mX10_again 55 (.iconst (-1)) 1 := by decide +kernel
theorem dX10_again_56 : DC mX10_again 56 (.iastore) 1 := by decide +kernel
theorem dX10_again_57 : DC mX10_again 57 (.iinc 2 1) 3 := by decide +kernel
theorem dX10_again_60 : DC mX10_again 60 (.goto (-23)) 3 := by decide +kernel
theorem dX10_again_63 : DC mX10_again 63 (.iload_n 1) 1 := by decide +kernel
theorem dX10_again_64 : DC mX10_again 64 (.ireturn) 1 := by decide +kernel
theorem dX10_run_0 : DC mX10_run 0 (.aload_n 0) 1 := by decide +kernel
theorem dX10_run_1 : DC mX10_run 1 (.iconst 1) 1 := by decide +kernel
theorem dX10_run_2 : DC mX10_run 2 (.invokevirtual 177) 3 := by decide +kernel
theorem dX10_run_5 : DC mX10_run 5 (.iconst 0) 1 := by decide +kernel
theorem dX10_run_6 : DC mX10_run 6 (.istore_n 3) 1 := by decide +kernel
theorem dX10_run_7 : DC mX10_run 7 (.iload_n 3) 1 := by decide +kernel
theorem dX10_run_8 : DC mX10_run 8 (.bipush 8) 2 := by decide +kernel
theorem dX10_run_10 : DC mX10_run 10 (.if_icmp .ge 16) 3 := by decide +kernel
theorem dX10_run_13 : DC mX10_run 13 (.aload_n 0) 1 := by decide +kernel
theorem dX10_run_14 : DC mX10_run 14 (.getfield 74) 3 := by decide +kernel
theorem dX10_run_17 : DC mX10_run 17 (.iload_n 3) 1 := by decide +kernel
theorem dX10_run_18 : DC mX10_run 18 (.lconst 0) 1 := by decide +kernel
theorem dX10_run_19 : DC mX10_run 19 (.lastore) 1 := by decide +kernel
theorem dX10_run_20 : DC mX10_run 20 (.iinc 3 1) 3 := by decide +kernel
theorem dX10_run_23 : DC mX10_run 23 (.goto (-16)) 3 := by decide +kernel
theorem dX10_run_26 : DC mX10_run 26 (.iconst 0) 1 := by decide +kernel
theorem dX10_run_27 : DC mX10_run 27 (.istore_n 3) 1 := by decide +kernel
theorem dX10_run_28 : DC mX10_run 28 (.iload_n 3) 1 := by decide +kernel
theorem dX10_run_29 : DC mX10_run 29 (.iload_n 1) 1 := by decide +kernel
theorem dX10_run_30 : DC mX10_run 30 (.if_icmp .ge 62) 3 := by decide +kernel
theorem dX10_run_33 : DC mX10_run 33 (.aload_n 0) 1 := by decide +kernel
theorem dX10_run_34 : DC mX10_run 34 (.iconst 1) 1 := by decide +kernel
theorem dX10_run_35 : DC mX10_run 35 (.iload_n 3) 1 := by decide +kernel
theorem dX10_run_36 : DC mX10_run 36 (.iload_n 2) 1 := by decide +kernel
theorem dX10_run_37 : DC mX10_run 37 (.invokevirtual 173) 3 := by decide +kernel
theorem dX10_run_40 : DC mX10_run 40 (.istore 4) 2 := by decide +kernel
theorem dX10_run_42 : DC mX10_run 42 (.iconst 0) 1 := by decide +kernel
theorem dX10_run_43 : DC mX10_run 43 (.istore 5) 2 := by decide +kernel
theorem dX10_run_45 : DC mX10_run 45 (.iload 5) 2 := by decide +kernel
theorem dX10_run_47 : DC mX10_run 47 (.aload_n 0) 1 := by decide +kernel
theorem dX10_run_48 : DC mX10_run 48 (.getfield 92) 3 := by decide +kernel
theorem dX10_run_51 : DC mX10_run 51 (.if_icmp .ge 35) 3 := by decide +kernel
theorem dX10_run_54 : DC mX10_run 54 (.iload_n 3) 1 := by decide +kernel
theorem dX10_run_55 : DC mX10_run 55 (.bipush 60) 2 := by decide +kernel
theorem dX10_run_57 : DC mX10_run 57 (.if_icmp .ge 29) 3 := by decide +kernel
theorem dX10_run_60 : DC mX10_run 60 (.aload_n 0) 1 := by decide +kernel
theorem dX10_run_61 : DC mX10_run 61 (.getfield 74) 3 := by decide +kernel
theorem dX10_run_64 : DC mX10_run 64 (.iload 5) 2 := by decide +kernel
theorem dX10_run_66 : DC mX10_run 66 (.dup2) 1 := by decide +kernel
theorem dX10_run_67 : DC mX10_run 67 (.laload) 1 := by decide +kernel
theorem dX10_run_68 : DC mX10_run 68 (.iload 4) 2 := by decide +kernel
theorem dX10_run_70 : DC mX10_run 70 (.iload 5) 2 := by decide +kernel
theorem dX10_run_72 : DC mX10_run 72 (.ishr) 1 := by decide +kernel
theorem dX10_run_73 : DC mX10_run 73 (.iconst 1) 1 := by decide +kernel
theorem dX10_run_74 : DC mX10_run 74 (.iand) 1 := by decide +kernel
theorem dX10_run_75 : DC mX10_run 75 (.i2l) 1 := by decide +kernel
theorem dX10_run_76 : DC mX10_run 76 (.iload_n 3) 1 := by decide +kernel
theorem dX10_run_77 : DC mX10_run 77 (.lshl) 1 := by decide +kernel
theorem dX10_run_78 : DC mX10_run 78 (.lor) 1 := by decide +kernel
theorem dX10_run_79 : DC mX10_run 79 (.lastore) 1 := by decide +kernel
theorem dX10_run_80 : DC mX10_run 80 (.iinc 5 1) 3 := by decide +kernel
theorem dX10_run_83 : DC mX10_run 83 (.goto (-38)) 3 := by decide +kernel
theorem dX10_run_86 : DC mX10_run 86 (.iinc 3 1) 3 := by decide +kernel
theorem dX10_run_89 : DC mX10_run 89 (.goto (-61)) 3 := by decide +kernel
theorem dX10_run_92 : DC mX10_run 92 (.return_) 1 := by decide +kernel
theorem dX10_row_0 : DC mX10_row 0 (.aload_n 0) 1 := by decide +kernel
theorem dX10_row_1 : DC mX10_row 1 (.iload_n 1) 1 := by decide +kernel
theorem dX10_row_2 : DC mX10_row 2 (.invokevirtual 106) 3 := by decide +kernel
theorem dX10_row_5 : DC mX10_row 5 (.ifCond .eq 7) 3 := by decide +kernel
theorem dX10_row_8 : DC mX10_row 8 (.ldc2_w 181) 3 := by decide +kernel
theorem dX10_row_11 : DC mX10_row 11 (.lreturn) 1 := by decide +kernel
theorem dX10_row_12 : DC mX10_row 12 (.aload_n 0) 1 := by decide +kernel
theorem dX10_row_13 : DC mX10_row 13 (.bipush 60) 2 := by decide +kernel
theorem dX10_row_15 : DC mX10_row 15 (.iload_n 2) 1 := by decide +kernel
theorem dX10_row_16 : DC mX10_row 16 (.invokevirtual 183) 3 := by decide +kernel
theorem dX10_row_19 : DC mX10_row 19 (.aload_n 0) 1 := by decide +kernel
theorem dX10_row_20 : DC mX10_row 20 (.getfield 74) 3 := by decide +kernel
theorem dX10_row_23 : DC mX10_row 23 (.iload_n 1) 1 := by decide +kernel
theorem dX10_row_24 : DC mX10_row 24 (.laload) 1 := by decide +kernel
theorem dX10_row_25 : DC mX10_row 25 (.lreturn) 1 := by decide +kernel
theorem dX10_keep_0 : DC mX10_keep 0 (.sipush 176) 3 := by decide +kernel
theorem dX10_keep_3 : DC mX10_keep 3 (.iload_n 1) 1 := by decide +kernel
theorem dX10_keep_4 : DC mX10_keep 4 (.imul) 1 := by decide +kernel
theorem dX10_keep_5 : DC mX10_keep 5 (.istore_n 2) 1 := by decide +kernel
theorem dX10_keep_6 : DC mX10_keep 6 (.iconst 0) 1 := by decide +kernel
theorem dX10_keep_7 : DC mX10_keep 7 (.istore_n 3) 1 := by decide +kernel
theorem dX10_keep_8 : DC mX10_keep 8 (.iload_n 3) 1 := by decide +kernel
theorem dX10_keep_9 : DC mX10_keep 9 (.bipush 8) 2 := by decide +kernel
theorem dX10_keep_11 : DC mX10_keep 11 (.if_icmp .ge 120) 3 := by decide +kernel
theorem dX10_keep_14 : DC mX10_keep 14 (.aload_n 0) 1 := by decide +kernel
theorem dX10_keep_15 : DC mX10_keep 15 (.getfield 79) 3 := by decide +kernel
theorem dX10_keep_18 : DC mX10_keep 18 (.iload_n 2) 1 := by decide +kernel
theorem dX10_keep_19 : DC mX10_keep 19 (.iload_n 3) 1 := by decide +kernel
theorem dX10_keep_20 : DC mX10_keep 20 (.iadd) 1 := by decide +kernel
theorem dX10_keep_21 : DC mX10_keep 21 (.aload_n 0) 1 := by decide +kernel
theorem dX10_keep_22 : DC mX10_keep 22 (.getfield 49) 3 := by decide +kernel
theorem dX10_keep_25 : DC mX10_keep 25 (.bipush 8) 2 := by decide +kernel
theorem dX10_keep_27 : DC mX10_keep 27 (.iload_n 3) 1 := by decide +kernel
theorem dX10_keep_28 : DC mX10_keep 28 (.iadd) 1 := by decide +kernel
theorem dX10_keep_29 : DC mX10_keep 29 (.iaload) 1 := by decide +kernel
theorem dX10_keep_30 : DC mX10_keep 30 (.iastore) 1 := by decide +kernel
theorem dX10_keep_31 : DC mX10_keep 31 (.aload_n 0) 1 := by decide +kernel
theorem dX10_keep_32 : DC mX10_keep 32 (.getfield 79) 3 := by decide +kernel
theorem dX10_keep_35 : DC mX10_keep 35 (.iload_n 2) 1 := by decide +kernel
theorem dX10_keep_36 : DC mX10_keep 36 (.bipush 8) 2 := by decide +kernel
theorem dX10_keep_38 : DC mX10_keep 38 (.iadd) 1 := by decide +kernel
theorem dX10_keep_39 : DC mX10_keep 39 (.iload_n 3) 1 := by decide +kernel
theorem dX10_keep_40 : DC mX10_keep 40 (.iadd) 1 := by decide +kernel
theorem dX10_keep_41 : DC mX10_keep 41 (.aload_n 0) 1 := by decide +kernel
theorem dX10_keep_42 : DC mX10_keep 42 (.getfield 52) 3 := by decide +kernel
theorem dX10_keep_45 : DC mX10_keep 45 (.bipush 8) 2 := by decide +kernel
theorem dX10_keep_47 : DC mX10_keep 47 (.iload_n 3) 1 := by decide +kernel
theorem dX10_keep_48 : DC mX10_keep 48 (.iadd) 1 := by decide +kernel
theorem dX10_keep_49 : DC mX10_keep 49 (.iaload) 1 := by decide +kernel
theorem dX10_keep_50 : DC mX10_keep 50 (.iload_n 1) 1 := by decide +kernel
theorem dX10_keep_51 : DC mX10_keep 51 (.if_icmp .lt 19) 3 := by decide +kernel
theorem dX10_keep_54 : DC mX10_keep 54 (.aload_n 0) 1 := by decide +kernel
theorem dX10_keep_55 : DC mX10_keep 55 (.getfield 52) 3 := by decide +kernel
theorem dX10_keep_58 : DC mX10_keep 58 (.bipush 8) 2 := by decide +kernel
theorem dX10_keep_60 : DC mX10_keep 60 (.iload_n 3) 1 := by decide +kernel
theorem dX10_keep_61 : DC mX10_keep 61 (.iadd) 1 := by decide +kernel
theorem dX10_keep_62 : DC mX10_keep 62 (.iaload) 1 := by decide +kernel
theorem dX10_keep_63 : DC mX10_keep 63 (.iload_n 1) 1 := by decide +kernel
theorem dX10_keep_64 : DC mX10_keep 64 (.isub) 1 := by decide +kernel
theorem dX10_keep_65 : DC mX10_keep 65 (.iconst 1) 1 := by decide +kernel
theorem dX10_keep_66 : DC mX10_keep 66 (.iadd) 1 := by decide +kernel
theorem dX10_keep_67 : DC mX10_keep 67 (.goto 4) 3 := by decide +kernel
theorem dX10_keep_70 : DC mX10_keep 70 (.iconst 0) 1 := by decide +kernel
theorem dX10_keep_71 : DC mX10_keep 71 (.iastore) 1 := by decide +kernel
theorem dX10_keep_72 : DC mX10_keep 72 (.iconst 0) 1 := by decide +kernel
theorem dX10_keep_73 : DC mX10_keep 73 (.istore 4) 2 := by decide +kernel
theorem dX10_keep_75 : DC mX10_keep 75 (.iload 4) 2 := by decide +kernel
theorem dX10_keep_77 : DC mX10_keep 77 (.bipush 20) 2 := by decide +kernel
theorem dX10_keep_79 : DC mX10_keep 79 (.if_icmp .ge 46) 3 := by decide +kernel
theorem dX10_keep_82 : DC mX10_keep 82 (.aload_n 0) 1 := by decide +kernel
theorem dX10_keep_83 : DC mX10_keep 83 (.getfield 79) 3 := by decide +kernel
theorem dX10_keep_86 : DC mX10_keep 86 (.iload_n 2) 1 := by decide +kernel
theorem dX10_keep_87 : DC mX10_keep 87 (.bipush 16) 2 := by decide +kernel
theorem dX10_keep_89 : DC mX10_keep 89 (.iadd) 1 := by decide +kernel
theorem dX10_keep_90 : DC mX10_keep 90 (.bipush 20) 2 := by decide +kernel
theorem dX10_keep_92 : DC mX10_keep 92 (.iload_n 3) 1 := by decide +kernel
theorem dX10_keep_93 : DC mX10_keep 93 (.imul) 1 := by decide +kernel
theorem dX10_keep_94 : DC mX10_keep 94 (.iadd) 1 := by decide +kernel
theorem dX10_keep_95 : DC mX10_keep 95 (.iload 4) 2 := by decide +kernel
theorem dX10_keep_97 : DC mX10_keep 97 (.iadd) 1 := by decide +kernel
theorem dX10_keep_98 : DC mX10_keep 98 (.aload_n 0) 1 := by decide +kernel
theorem dX10_keep_99 : DC mX10_keep 99 (.getfield 55) 3 := by decide +kernel
theorem dX10_keep_102 : DC mX10_keep 102 (.bipush 21) 2 := by decide +kernel
theorem dX10_keep_104 : DC mX10_keep 104 (.bipush 8) 2 := by decide +kernel
theorem dX10_keep_106 : DC mX10_keep 106 (.iload_n 3) 1 := by decide +kernel
theorem dX10_keep_107 : DC mX10_keep 107 (.iadd) 1 := by decide +kernel
theorem dX10_keep_108 : DC mX10_keep 108 (.imul) 1 := by decide +kernel
theorem dX10_keep_109 : DC mX10_keep 109 (.iload_n 1) 1 := by decide +kernel
theorem dX10_keep_110 : DC mX10_keep 110 (.iload 4) 2 := by decide +kernel
theorem dX10_keep_112 : DC mX10_keep 112 (.iadd) 1 := by decide +kernel
theorem dX10_keep_113 : DC mX10_keep 113 (.bipush 21) 2 := by decide +kernel
theorem dX10_keep_115 : DC mX10_keep 115 (.irem) 1 := by decide +kernel
theorem dX10_keep_116 : DC mX10_keep 116 (.iadd) 1 := by decide +kernel
theorem dX10_keep_117 : DC mX10_keep 117 (.iaload) 1 := by decide +kernel
theorem dX10_keep_118 : DC mX10_keep 118 (.iastore) 1 := by decide +kernel
theorem dX10_keep_119 : DC mX10_keep 119 (.iinc 4 1) 3 := by decide +kernel
theorem dX10_keep_122 : DC mX10_keep 122 (.goto (-47)) 3 := by decide +kernel
theorem dX10_keep_125 : DC mX10_keep 125 (.iinc 3 1) 3 := by decide +kernel
theorem dX10_keep_128 : DC mX10_keep 128 (.goto (-120)) 3 := by decide +kernel
theorem dX10_keep_131 : DC mX10_keep 131 (.return_) 1 := by decide +kernel
theorem dX10_isLike_0 : DC mX10_isLike 0 (.iconst 0) 1 := by decide +kernel
theorem dX10_isLike_1 : DC mX10_isLike 1 (.istore_n 3) 1 := by decide +kernel
theorem dX10_isLike_2 : DC mX10_isLike 2 (.iload_n 3) 1 := by decide +kernel
theorem dX10_isLike_3 : DC mX10_isLike 3 (.sipush 176) 3 := by decide +kernel
theorem dX10_isLike_6 : DC mX10_isLike 6 (.if_icmp .ge 38) 3 := by decide +kernel
theorem dX10_isLike_9 : DC mX10_isLike 9 (.aload_n 0) 1 := by decide +kernel
theorem dX10_isLike_10 : DC mX10_isLike 10 (.getfield 79) 3 := by decide +kernel
theorem dX10_isLike_13 : DC mX10_isLike 13 (.sipush 176) 3 := by decide +kernel
theorem dX10_isLike_16 : DC mX10_isLike 16 (.iload_n 1) 1 := by decide +kernel
theorem dX10_isLike_17 : DC mX10_isLike 17 (.imul) 1 := by decide +kernel
theorem dX10_isLike_18 : DC mX10_isLike 18 (.iload_n 3) 1 := by decide +kernel
theorem dX10_isLike_19 : DC mX10_isLike 19 (.iadd) 1 := by decide +kernel
theorem dX10_isLike_20 : DC mX10_isLike 20 (.iaload) 1 := by decide +kernel
theorem dX10_isLike_21 : DC mX10_isLike 21 (.aload_n 0) 1 := by decide +kernel
theorem dX10_isLike_22 : DC mX10_isLike 22 (.getfield 79) 3 := by decide +kernel
theorem dX10_isLike_25 : DC mX10_isLike 25 (.sipush 176) 3 := by decide +kernel
theorem dX10_isLike_28 : DC mX10_isLike 28 (.iload_n 2) 1 := by decide +kernel
theorem dX10_isLike_29 : DC mX10_isLike 29 (.imul) 1 := by decide +kernel
theorem dX10_isLike_30 : DC mX10_isLike 30 (.iload_n 3) 1 := by decide +kernel
theorem dX10_isLike_31 : DC mX10_isLike 31 (.iadd) 1 := by decide +kernel
theorem dX10_isLike_32 : DC mX10_isLike 32 (.iaload) 1 := by decide +kernel
theorem dX10_isLike_33 : DC mX10_isLike 33 (.if_icmp .eq 5) 3 := by decide +kernel
theorem dX10_isLike_36 : DC mX10_isLike 36 (.iconst 0) 1 := by decide +kernel
theorem dX10_isLike_37 : DC mX10_isLike 37 (.ireturn) 1 := by decide +kernel
theorem dX10_isLike_38 : DC mX10_isLike 38 (.iinc 3 1) 3 := by decide +kernel
theorem dX10_isLike_41 : DC mX10_isLike 41 (.goto (-39)) 3 := by decide +kernel
theorem dX10_isLike_44 : DC mX10_isLike 44 (.iconst 1) 1 := by decide +kernel
theorem dX10_isLike_45 : DC mX10_isLike 45 (.ireturn) 1 := by decide +kernel
theorem dX10_goesInto_0 : DC mX10_goesInto 0 (.aload_n 0) 1 := by decide +kernel
theorem dX10_goesInto_1 : DC mX10_goesInto 1 (.getfield 127) 3 := by decide +kernel
theorem dX10_goesInto_4 : DC mX10_goesInto 4 (.ifCond .eq 12) 3 := by decide +kernel
theorem dX10_goesInto_7 : DC mX10_goesInto 7 (.iload_n 1) 1 := by decide +kernel
theorem dX10_goesInto_8 : DC mX10_goesInto 8 (.aload_n 0) 1 := by decide +kernel
theorem dX10_goesInto_9 : DC mX10_goesInto 9 (.getfield 127) 3 := by decide +kernel
theorem dX10_goesInto_12 : DC mX10_goesInto 12 (.irem) 1 := by decide +kernel
theorem dX10_goesInto_13 : DC mX10_goesInto 13 (.ifCond .ne 7) 3 := by decide +kernel
theorem dX10_goesInto_16 : DC mX10_goesInto 16 (.iconst 1) 1 := by decide +kernel
theorem dX10_goesInto_17 : DC mX10_goesInto 17 (.goto 4) 3 := by decide +kernel
theorem dX10_goesInto_20 : DC mX10_goesInto 20 (.iconst 0) 1 := by decide +kernel
theorem dX10_goesInto_21 : DC mX10_goesInto 21 (.istore_n 2) 1 := by decide +kernel
theorem dX10_goesInto_22 : DC mX10_goesInto 22 (.iconst 0) 1 := by decide +kernel
theorem dX10_goesInto_23 : DC mX10_goesInto 23 (.istore_n 3) 1 := by decide +kernel
theorem dX10_goesInto_24 : DC mX10_goesInto 24 (.iload_n 3) 1 := by decide +kernel
theorem dX10_goesInto_25 : DC mX10_goesInto 25 (.aload_n 0) 1 := by decide +kernel
theorem dX10_goesInto_26 : DC mX10_goesInto 26 (.getfield 99) 3 := by decide +kernel
theorem dX10_goesInto_29 : DC mX10_goesInto 29 (.if_icmp .ge 30) 3 := by decide +kernel
theorem dX10_goesInto_32 : DC mX10_goesInto 32 (.iload_n 2) 1 := by decide +kernel
theorem dX10_goesInto_33 : DC mX10_goesInto 33 (.ifCond .eq 18) 3 := by decide +kernel
theorem dX10_goesInto_36 : DC mX10_goesInto 36 (.iload_n 1) 1 := by decide +kernel
theorem dX10_goesInto_37 : DC mX10_goesInto 37 (.aload_n 0) 1 := by decide +kernel
theorem dX10_goesInto_38 : DC mX10_goesInto 38 (.getfield 28) 3 := by decide +kernel
theorem dX10_goesInto_41 : DC mX10_goesInto 41 (.iload_n 3) 1 := by decide +kernel
theorem dX10_goesInto_42 : DC mX10_goesInto 42 (.iaload) 1 := by decide +kernel
theorem dX10_goesInto_43 : DC mX10_goesInto 43 (.irem) 1 := by decide +kernel
theorem dX10_goesInto_44 : DC mX10_goesInto 44 (.ifCond .ne 7) 3 := by decide +kernel
theorem dX10_goesInto_47 : DC mX10_goesInto 47 (.iconst 1) 1 := by decide +kernel
theorem dX10_goesInto_48 : DC mX10_goesInto 48 (.goto 4) 3 := by decide +kernel
theorem dX10_goesInto_51 : DC mX10_goesInto 51 (.iconst 0) 1 := by decide +kernel
theorem dX10_goesInto_52 : DC mX10_goesInto 52 (.istore_n 2) 1 := by decide +kernel
theorem dX10_goesInto_53 : DC mX10_goesInto 53 (.iinc 3 1) 3 := by decide +kernel
theorem dX10_goesInto_56 : DC mX10_goesInto 56 (.goto (-32)) 3 := by decide +kernel
theorem dX10_goesInto_59 : DC mX10_goesInto 59 (.iload_n 2) 1 := by decide +kernel
theorem dX10_goesInto_60 : DC mX10_goesInto 60 (.ireturn) 1 := by decide +kernel
theorem dX10_round_0 : DC mX10_round 0 (.iload_n 1) 1 := by decide +kernel
theorem dX10_round_1 : DC mX10_round 1 (.i2l) 1 := by decide +kernel
theorem dX10_round_2 : DC mX10_round 2 (.lconst 0) 1 := by decide +kernel
theorem dX10_round_3 : DC mX10_round 3 (.lconst 1) 1 := by decide +kernel
theorem dX10_round_4 : DC mX10_round 4 (.invokestatic 95) 3 := by decide +kernel
theorem dX10_round_7 : DC mX10_round 7 (.ifCond .ne 7) 3 := by decide +kernel
theorem dX10_round_10 : DC mX10_round 10 (.sipush (-1002)) 3 := by decide +kernel
theorem dX10_round_13 : DC mX10_round 13 (.ireturn) 1 := by decide +kernel
theorem dX10_round_14 : DC mX10_round 14 (.aload_n 0) 1 := by decide +kernel
theorem dX10_round_15 : DC mX10_round 15 (.iconst 1) 1 := by decide +kernel
theorem dX10_round_16 : DC mX10_round 16 (.invokevirtual 177) 3 := by decide +kernel
theorem dX10_round_19 : DC mX10_round 19 (.iconst 0) 1 := by decide +kernel
theorem dX10_round_20 : DC mX10_round 20 (.istore_n 2) 1 := by decide +kernel
theorem dX10_round_21 : DC mX10_round 21 (.iload_n 2) 1 := by decide +kernel
theorem dX10_round_22 : DC mX10_round 22 (.sipush 2000) 3 := by decide +kernel
theorem dX10_round_25 : DC mX10_round 25 (.if_icmp .gt 22) 3 := by decide +kernel
theorem dX10_round_28 : DC mX10_round 28 (.aload_n 0) 1 := by decide +kernel
theorem dX10_round_29 : DC mX10_round 29 (.iload_n 2) 1 := by decide +kernel
theorem dX10_round_30 : DC mX10_round 30 (.invokevirtual 187) 3 := by decide +kernel
theorem dX10_round_33 : DC mX10_round 33 (.aload_n 0) 1 := by decide +kernel
theorem dX10_round_34 : DC mX10_round 34 (.iconst 1) 1 := by decide +kernel
theorem dX10_round_35 : DC mX10_round 35 (.iload_n 2) 1 := by decide +kernel
theorem dX10_round_36 : DC mX10_round 36 (.iconst 1) 1 := by decide +kernel
theorem dX10_round_37 : DC mX10_round 37 (.invokevirtual 173) 3 := by decide +kernel
theorem dX10_round_40 : DC mX10_round 40 (.istore_n 3) 1 := by decide +kernel
theorem dX10_round_41 : DC mX10_round 41 (.iinc 2 1) 3 := by decide +kernel
theorem dX10_round_44 : DC mX10_round 44 (.goto (-23)) 3 := by decide +kernel
theorem dX10_round_47 : DC mX10_round 47 (.iconst 1) 1 := by decide +kernel
theorem dX10_round_48 : DC mX10_round 48 (.istore_n 2) 1 := by decide +kernel
theorem dX10_round_49 : DC mX10_round 49 (.iload_n 2) 1 := by decide +kernel
theorem dX10_round_50 : DC mX10_round 50 (.sipush 1000) 3 := by decide +kernel
theorem dX10_round_53 : DC mX10_round 53 (.if_icmp .gt 17) 3 := by decide +kernel
theorem dX10_round_56 : DC mX10_round 56 (.aload_n 0) 1 := by decide +kernel
theorem dX10_round_57 : DC mX10_round 57 (.iload_n 2) 1 := by decide +kernel
theorem dX10_round_58 : DC mX10_round 58 (.invokevirtual 190) 3 := by decide +kernel
theorem dX10_round_61 : DC mX10_round 61 (.ifCond .ne 9) 3 := by decide +kernel
theorem dX10_round_64 : DC mX10_round 64 (.iinc 2 1) 3 := by decide +kernel
theorem dX10_round_67 : DC mX10_round 67 (.goto (-18)) 3 := by decide +kernel
theorem dX10_round_70 : DC mX10_round 70 (.bipush 31) 2 := by decide +kernel
theorem dX10_round_72 : DC mX10_round 72 (.istore_n 3) 1 := by decide +kernel
theorem dX10_round_73 : DC mX10_round 73 (.iload_n 3) 1 := by decide +kernel
theorem dX10_round_74 : DC mX10_round 74 (.sipush 1000) 3 := by decide +kernel
theorem dX10_round_77 : DC mX10_round 77 (.if_icmp .gt 52) 3 := by decide +kernel
theorem dX10_round_80 : DC mX10_round 80 (.iload_n 2) 1 := by decide +kernel
theorem dX10_round_81 : DC mX10_round 81 (.istore 4) 2 := by decide +kernel
theorem dX10_round_83 : DC mX10_round 83 (.iload 4) 2 := by decide +kernel
theorem dX10_round_85 : DC mX10_round 85 (.sipush 1000) 3 := by decide +kernel
theorem dX10_round_88 : DC mX10_round 88 (.if_icmp .gt 35) 3 := by decide +kernel
theorem dX10_round_91 : DC mX10_round 91 (.aload_n 0) 1 := by decide +kernel
theorem dX10_round_92 : DC mX10_round 92 (.iload_n 3) 1 := by decide +kernel
theorem dX10_round_93 : DC mX10_round 93 (.iload_n 3) 1 := by decide +kernel
theorem dX10_round_94 : DC mX10_round 94 (.iload 4) 2 := by decide +kernel
theorem dX10_round_96 : DC mX10_round 96 (.iadd) 1 := by decide +kernel
theorem dX10_round_97 : DC mX10_round 97 (.invokevirtual 193) 3 := by decide +kernel
theorem dX10_round_100 : DC mX10_round 100 (.ifCond .eq 14) 3 := by decide +kernel
theorem dX10_round_103 : DC mX10_round 103 (.iload_n 1) 1 := by decide +kernel
theorem dX10_round_104 : DC mX10_round 104 (.ifCond .ne 7) 3 := by decide +kernel
theorem dX10_round_107 : DC mX10_round 107 (.iload_n 3) 1 := by decide +kernel
theorem dX10_round_108 : DC mX10_round 108 (.goto 5) 3 := by decide +kernel
theorem dX10_round_111 : DC mX10_round 111 (.iload 4) 2 := by decide +kernel
theorem dX10_round_113 : DC mX10_round 113 (.ireturn) 1 := by decide +kernel
theorem dX10_round_114 : DC mX10_round 114 (.iload 4) 2 := by decide +kernel
theorem dX10_round_116 : DC mX10_round 116 (.iload_n 2) 1 := by decide +kernel
theorem dX10_round_117 : DC mX10_round 117 (.iadd) 1 := by decide +kernel
theorem dX10_round_118 : DC mX10_round 118 (.istore 4) 2 := by decide +kernel
theorem dX10_round_120 : DC mX10_round 120 (.goto (-37)) 3 := by decide +kernel
theorem dX10_round_123 : DC mX10_round 123 (.iinc 3 1) 3 := by decide +kernel
theorem dX10_round_126 : DC mX10_round 126 (.goto (-53)) 3 := by decide +kernel
theorem dX10_round_129 : DC mX10_round 129 (.iconst (-1)) 1 := by decide +kernel
theorem dX10_round_130 : DC mX10_round 130 (.ireturn) 1 := by decide +kernel
theorem dX10_meeting_0 : DC mX10_meeting 0 (.aload_n 0) 1 := by decide +kernel
theorem dX10_meeting_1 : DC mX10_meeting 1 (.iload_n 1) 1 := by decide +kernel
theorem dX10_meeting_2 : DC mX10_meeting 2 (.invokevirtual 106) 3 := by decide +kernel
theorem dX10_meeting_5 : DC mX10_meeting 5 (.ifCond .ne 11) 3 := by decide +kernel
theorem dX10_meeting_8 : DC mX10_meeting 8 (.aload_n 0) 1 := by decide +kernel
theorem dX10_meeting_9 : DC mX10_meeting 9 (.iload_n 2) 1 := by decide +kernel
theorem dX10_meeting_10 : DC mX10_meeting 10 (.invokevirtual 106) 3 := by decide +kernel
theorem dX10_meeting_13 : DC mX10_meeting 13 (.ifCond .eq 7) 3 := by decide +kernel
theorem dX10_meeting_16 : DC mX10_meeting 16 (.sipush (-1001)) 3 := by decide +kernel
theorem dX10_meeting_19 : DC mX10_meeting 19 (.ireturn) 1 := by decide +kernel
theorem dX10_meeting_20 : DC mX10_meeting 20 (.iload_n 1) 1 := by decide +kernel
theorem dX10_meeting_21 : DC mX10_meeting 21 (.iload_n 2) 1 := by decide +kernel
theorem dX10_meeting_22 : DC mX10_meeting 22 (.if_icmp .ne 7) 3 := by decide +kernel
theorem dX10_meeting_25 : DC mX10_meeting 25 (.sipush (-1003)) 3 := by decide +kernel
theorem dX10_meeting_28 : DC mX10_meeting 28 (.ireturn) 1 := by decide +kernel
theorem dX10_meeting_29 : DC mX10_meeting 29 (.aload_n 0) 1 := by decide +kernel
theorem dX10_meeting_30 : DC mX10_meeting 30 (.iconst 1) 1 := by decide +kernel
theorem dX10_meeting_31 : DC mX10_meeting 31 (.invokevirtual 177) 3 := by decide +kernel
theorem dX10_meeting_34 : DC mX10_meeting 34 (.iconst 0) 1 := by decide +kernel
theorem dX10_meeting_35 : DC mX10_meeting 35 (.istore_n 3) 1 := by decide +kernel
theorem dX10_meeting_36 : DC mX10_meeting 36 (.iload_n 3) 1 := by decide +kernel
theorem dX10_meeting_37 : DC mX10_meeting 37 (.sipush 1000) 3 := by decide +kernel
theorem dX10_meeting_40 : DC mX10_meeting 40 (.if_icmp .ge 40) 3 := by decide +kernel
theorem dX10_meeting_43 : DC mX10_meeting 43 (.aload_n 0) 1 := by decide +kernel
theorem dX10_meeting_44 : DC mX10_meeting 44 (.iconst 1) 1 := by decide +kernel
theorem dX10_meeting_45 : DC mX10_meeting 45 (.iload_n 3) 1 := by decide +kernel
theorem dX10_meeting_46 : DC mX10_meeting 46 (.iconst 1) 1 := by decide +kernel
theorem dX10_meeting_47 : DC mX10_meeting 47 (.invokevirtual 173) 3 := by decide +kernel
theorem dX10_meeting_50 : DC mX10_meeting 50 (.istore 4) 2 := by decide +kernel
theorem dX10_meeting_52 : DC mX10_meeting 52 (.iload 4) 2 := by decide +kernel
theorem dX10_meeting_54 : DC mX10_meeting 54 (.iload_n 1) 1 := by decide +kernel
theorem dX10_meeting_55 : DC mX10_meeting 55 (.ishr) 1 := by decide +kernel
theorem dX10_meeting_56 : DC mX10_meeting 56 (.iconst 1) 1 := by decide +kernel
theorem dX10_meeting_57 : DC mX10_meeting 57 (.iand) 1 := by decide +kernel
theorem dX10_meeting_58 : DC mX10_meeting 58 (.iconst 1) 1 := by decide +kernel
theorem dX10_meeting_59 : DC mX10_meeting 59 (.if_icmp .ne 15) 3 := by decide +kernel
theorem dX10_meeting_62 : DC mX10_meeting 62 (.iload 4) 2 := by decide +kernel
theorem dX10_meeting_64 : DC mX10_meeting 64 (.iload_n 2) 1 := by decide +kernel
theorem dX10_meeting_65 : DC mX10_meeting 65 (.ishr) 1 := by decide +kernel
theorem dX10_meeting_66 : DC mX10_meeting 66 (.iconst 1) 1 := by decide +kernel
theorem dX10_meeting_67 : DC mX10_meeting 67 (.iand) 1 := by decide +kernel
theorem dX10_meeting_68 : DC mX10_meeting 68 (.iconst 1) 1 := by decide +kernel
theorem dX10_meeting_69 : DC mX10_meeting 69 (.if_icmp .ne 5) 3 := by decide +kernel
theorem dX10_meeting_72 : DC mX10_meeting 72 (.iload_n 3) 1 := by decide +kernel
theorem dX10_meeting_73 : DC mX10_meeting 73 (.ireturn) 1 := by decide +kernel
theorem dX10_meeting_74 : DC mX10_meeting 74 (.iinc 3 1) 3 := by decide +kernel
theorem dX10_meeting_77 : DC mX10_meeting 77 (.goto (-41)) 3 := by decide +kernel
theorem dX10_meeting_80 : DC mX10_meeting 80 (.iconst (-1)) 1 := by decide +kernel
theorem dX10_meeting_81 : DC mX10_meeting 81 (.ireturn) 1 := by decide +kernel
theorem dX10_ones_0 : DC mX10_ones 0 (.iconst 0) 1 := by decide +kernel
theorem dX10_ones_1 : DC mX10_ones 1 (.istore_n 2) 1 := by decide +kernel
theorem dX10_ones_2 : DC mX10_ones 2 (.iconst 0) 1 := by decide +kernel
theorem dX10_ones_3 : DC mX10_ones 3 (.istore_n 3) 1 := by decide +kernel
theorem dX10_ones_4 : DC mX10_ones 4 (.iload_n 3) 1 := by decide +kernel
theorem dX10_ones_5 : DC mX10_ones 5 (.bipush 60) 2 := by decide +kernel
theorem dX10_ones_7 : DC mX10_ones 7 (.if_icmp .ge 18) 3 := by decide +kernel
theorem dX10_ones_10 : DC mX10_ones 10 (.iload_n 2) 1 := by decide +kernel
theorem dX10_ones_11 : DC mX10_ones 11 (.lload_n 0) 1 := by decide +kernel
theorem dX10_ones_12 : DC mX10_ones 12 (.iload_n 3) 1 := by decide +kernel
theorem dX10_ones_13 : DC mX10_ones 13 (.lshr) 1 := by decide +kernel
theorem dX10_ones_14 : DC mX10_ones 14 (.lconst 1) 1 := by decide +kernel
theorem dX10_ones_15 : DC mX10_ones 15 (.land) 1 := by decide +kernel
theorem dX10_ones_16 : DC mX10_ones 16 (.l2i) 1 := by decide +kernel
theorem dX10_ones_17 : DC mX10_ones 17 (.iadd) 1 := by decide +kernel
theorem dX10_ones_18 : DC mX10_ones 18 (.istore_n 2) 1 := by decide +kernel
theorem dX10_ones_19 : DC mX10_ones 19 (.iinc 3 1) 3 := by decide +kernel
theorem dX10_ones_22 : DC mX10_ones 22 (.goto (-18)) 3 := by decide +kernel
theorem dX10_ones_25 : DC mX10_ones 25 (.iload_n 2) 1 := by decide +kernel
theorem dX10_ones_26 : DC mX10_ones 26 (.ireturn) 1 := by decide +kernel
theorem dX10_offOf_0 : DC mX10_offOf 0 (.ldc2_w 196) 3 := by decide +kernel
theorem dX10_offOf_3 : DC mX10_offOf 3 (.lstore 4) 2 := by decide +kernel
theorem dX10_offOf_5 : DC mX10_offOf 5 (.sipush 1000) 3 := by decide +kernel
theorem dX10_offOf_8 : DC mX10_offOf 8 (.istore 6) 2 := by decide +kernel
theorem dX10_offOf_10 : DC mX10_offOf 10 (.bipush (-5)) 2 := by decide +kernel
theorem dX10_offOf_12 : DC mX10_offOf 12 (.istore 7) 2 := by decide +kernel
theorem dX10_offOf_14 : DC mX10_offOf 14 (.iload 7) 2 := by decide +kernel
theorem dX10_offOf_16 : DC mX10_offOf 16 (.iconst 5) 1 := by decide +kernel
theorem dX10_offOf_17 : DC mX10_offOf 17 (.if_icmp .gt 72) 3 := by decide +kernel
theorem dX10_offOf_20 : DC mX10_offOf 20 (.iload 7) 2 := by decide +kernel
theorem dX10_offOf_22 : DC mX10_offOf 22 (.ifCond .ge 12) 3 := by decide +kernel
theorem dX10_offOf_25 : DC mX10_offOf 25 (.lload_n 2) 1 := by decide +kernel
theorem dX10_offOf_26 : DC mX10_offOf 26 (.iconst 0) 1 := by decide +kernel
theorem dX10_offOf_27 : DC mX10_offOf 27 (.iload 7) 2 := by decide +kernel
theorem dX10_offOf_29 : DC mX10_offOf 29 (.isub) 1 := by decide +kernel
theorem dX10_offOf_30 : DC mX10_offOf 30 (.lshr) 1 := by decide +kernel
theorem dX10_offOf_31 : DC mX10_offOf 31 (.goto 10) 3 := by decide +kernel
theorem dX10_offOf_34 : DC mX10_offOf 34 (.lload_n 2) 1 := by decide +kernel
theorem dX10_offOf_35 : DC mX10_offOf 35 (.iload 7) 2 := by decide +kernel
theorem dX10_offOf_37 : DC mX10_offOf 37 (.lshl) 1 := by decide +kernel
theorem dX10_offOf_38 : DC mX10_offOf 38 (.lload 4) 2 := by decide +kernel
theorem dX10_offOf_40 : DC mX10_offOf 40 (.land) 1 := by decide +kernel
theorem dX10_offOf_41 : DC mX10_offOf 41 (.lstore 8) 2 := by decide +kernel
theorem dX10_offOf_43 : DC mX10_offOf 43 (.lload_n 0) 1 := by decide +kernel
theorem dX10_offOf_44 : DC mX10_offOf 44 (.lload 8) 2 := by decide +kernel
theorem dX10_offOf_46 : DC mX10_offOf 46 (.lxor) 1 := by decide +kernel
theorem dX10_offOf_47 : DC mX10_offOf 47 (.invokestatic 198) 3 := by decide +kernel
theorem dX10_offOf_50 : DC mX10_offOf 50 (.iload 7) 2 := by decide +kernel
theorem dX10_offOf_52 : DC mX10_offOf 52 (.ifCond .ge 10) 3 := by decide +kernel
theorem dX10_offOf_55 : DC mX10_offOf 55 (.iconst 0) 1 := by decide +kernel
theorem dX10_offOf_56 : DC mX10_offOf 56 (.iload 7) 2 := by decide +kernel
theorem dX10_offOf_58 : DC mX10_offOf 58 (.isub) 1 := by decide +kernel
theorem dX10_offOf_59 : DC mX10_offOf 59 (.goto 5) 3 := by decide +kernel
theorem dX10_offOf_62 : DC mX10_offOf 62 (.iload 7) 2 := by decide +kernel
theorem dX10_offOf_64 : DC mX10_offOf 64 (.iadd) 1 := by decide +kernel
theorem dX10_offOf_65 : DC mX10_offOf 65 (.istore 10) 2 := by decide +kernel
theorem dX10_offOf_67 : DC mX10_offOf 67 (.iload 10) 2 := by decide +kernel
theorem dX10_offOf_69 : DC mX10_offOf 69 (.iload 6) 2 := by decide +kernel
theorem dX10_offOf_71 : DC mX10_offOf 71 (.if_icmp .ge 8) 3 := by decide +kernel
theorem dX10_offOf_74 : DC mX10_offOf 74 (.iload 10) 2 := by decide +kernel
theorem dX10_offOf_76 : DC mX10_offOf 76 (.goto 5) 3 := by decide +kernel
theorem dX10_offOf_79 : DC mX10_offOf 79 (.iload 6) 2 := by decide +kernel
theorem dX10_offOf_81 : DC mX10_offOf 81 (.istore 6) 2 := by decide +kernel
theorem dX10_offOf_83 : DC mX10_offOf 83 (.iinc 7 1) 3 := by decide +kernel
theorem dX10_offOf_86 : DC mX10_offOf 86 (.goto (-72)) 3 := by decide +kernel
theorem dX10_offOf_89 : DC mX10_offOf 89 (.iload 6) 2 := by decide +kernel
theorem dX10_offOf_91 : DC mX10_offOf 91 (.ireturn) 1 := by decide +kernel
theorem dX10_loneRow_0 : DC mX10_loneRow 0 (.lconst 0) 1 := by decide +kernel
theorem dX10_loneRow_1 : DC mX10_loneRow 1 (.lstore 4) 2 := by decide +kernel
theorem dX10_loneRow_3 : DC mX10_loneRow 3 (.iconst 0) 1 := by decide +kernel
theorem dX10_loneRow_4 : DC mX10_loneRow 4 (.istore 6) 2 := by decide +kernel
theorem dX10_loneRow_6 : DC mX10_loneRow 6 (.iconst (-1)) 1 := by decide +kernel
theorem dX10_loneRow_7 : DC mX10_loneRow 7 (.istore 7) 2 := by decide +kernel
theorem dX10_loneRow_9 : DC mX10_loneRow 9 (.iconst 0) 1 := by decide +kernel
theorem dX10_loneRow_10 : DC mX10_loneRow 10 (.istore 8) 2 := by decide +kernel
theorem dX10_loneRow_12 : DC mX10_loneRow 12 (.iload 8) 2 := by decide +kernel
theorem dX10_loneRow_14 : DC mX10_loneRow 14 (.bipush 60) 2 := by decide +kernel
theorem dX10_loneRow_16 : DC mX10_loneRow 16 (.if_icmp .ge 64) 3 := by decide +kernel
theorem dX10_loneRow_19 : DC mX10_loneRow 19 (.iload 6) 2 := by decide +kernel
theorem dX10_loneRow_21 : DC mX10_loneRow 21 (.iload 8) 2 := by decide +kernel
theorem dX10_loneRow_23 : DC mX10_loneRow 23 (.iload_n 3) 1 := by decide +kernel
theorem dX10_loneRow_24 : DC mX10_loneRow 24 (.irem) 1 := by decide +kernel
theorem dX10_loneRow_25 : DC mX10_loneRow 25 (.ifCond .ne 14) 3 := by decide +kernel
theorem dX10_loneRow_28 : DC mX10_loneRow 28 (.iload 7) 2 := by decide +kernel
theorem dX10_loneRow_30 : DC mX10_loneRow 30 (.iload 8) 2 := by decide +kernel
theorem dX10_loneRow_32 : DC mX10_loneRow 32 (.if_icmp .ge 7) 3 := by decide +kernel
theorem dX10_loneRow_35 : DC mX10_loneRow 35 (.iload_n 2) 1 := by decide +kernel
theorem dX10_loneRow_36 : DC mX10_loneRow 36 (.goto 4) 3 := by decide +kernel
theorem dX10_loneRow_39 : DC mX10_loneRow 39 (.iconst 0) 1 := by decide +kernel
theorem dX10_loneRow_40 : DC mX10_loneRow 40 (.iadd) 1 := by decide +kernel
theorem dX10_loneRow_41 : DC mX10_loneRow 41 (.istore 6) 2 := by decide +kernel
theorem dX10_loneRow_43 : DC mX10_loneRow 43 (.iload 7) 2 := by decide +kernel
theorem dX10_loneRow_45 : DC mX10_loneRow 45 (.iload 8) 2 := by decide +kernel
theorem dX10_loneRow_47 : DC mX10_loneRow 47 (.if_icmp .ge 27) 3 := by decide +kernel
theorem dX10_loneRow_50 : DC mX10_loneRow 50 (.iload 6) 2 := by decide +kernel
theorem dX10_loneRow_52 : DC mX10_loneRow 52 (.iload_n 0) 1 := by decide +kernel
theorem dX10_loneRow_53 : DC mX10_loneRow 53 (.if_icmp .lt 21) 3 := by decide +kernel
theorem dX10_loneRow_56 : DC mX10_loneRow 56 (.lload 4) 2 := by decide +kernel
theorem dX10_loneRow_58 : DC mX10_loneRow 58 (.lconst 1) 1 := by decide +kernel
theorem dX10_loneRow_59 : DC mX10_loneRow 59 (.iload 8) 2 := by decide +kernel
theorem dX10_loneRow_61 : DC mX10_loneRow 61 (.lshl) 1 := by decide +kernel
theorem dX10_loneRow_62 : DC mX10_loneRow 62 (.lor) 1 := by decide +kernel
theorem dX10_loneRow_63 : DC mX10_loneRow 63 (.lstore 4) 2 := by decide +kernel
theorem dX10_loneRow_65 : DC mX10_loneRow 65 (.iconst 0) 1 := by decide +kernel
theorem dX10_loneRow_66 : DC mX10_loneRow 66 (.istore 6) 2 := by decide +kernel
theorem dX10_loneRow_68 : DC mX10_loneRow 68 (.iload 8) 2 := by decide +kernel
theorem dX10_loneRow_70 : DC mX10_loneRow 70 (.iload_n 1) 1 := by decide +kernel
theorem dX10_loneRow_71 : DC mX10_loneRow 71 (.iadd) 1 := by decide +kernel
theorem dX10_loneRow_72 : DC mX10_loneRow 72 (.istore 7) 2 := by decide +kernel
theorem dX10_loneRow_74 : DC mX10_loneRow 74 (.iinc 8 1) 3 := by decide +kernel
theorem dX10_loneRow_77 : DC mX10_loneRow 77 (.goto (-65)) 3 := by decide +kernel
theorem dX10_loneRow_80 : DC mX10_loneRow 80 (.lload 4) 2 := by decide +kernel
theorem dX10_loneRow_82 : DC mX10_loneRow 82 (.lreturn) 1 := by decide +kernel
theorem dX10_isRow_0 : DC mX10_isRow 0 (.lload_n 0) 1 := by decide +kernel
theorem dX10_isRow_1 : DC mX10_isRow 1 (.lconst 0) 1 := by decide +kernel
theorem dX10_isRow_2 : DC mX10_isRow 2 (.lcmp) 1 := by decide +kernel
theorem dX10_isRow_3 : DC mX10_isRow 3 (.ifCond .lt 16) 3 := by decide +kernel
theorem dX10_isRow_6 : DC mX10_isRow 6 (.lload_n 0) 1 := by decide +kernel
theorem dX10_isRow_7 : DC mX10_isRow 7 (.bipush 60) 2 := by decide +kernel
theorem dX10_isRow_9 : DC mX10_isRow 9 (.lshr) 1 := by decide +kernel
theorem dX10_isRow_10 : DC mX10_isRow 10 (.lconst 0) 1 := by decide +kernel
theorem dX10_isRow_11 : DC mX10_isRow 11 (.lcmp) 1 := by decide +kernel
theorem dX10_isRow_12 : DC mX10_isRow 12 (.ifCond .ne 7) 3 := by decide +kernel
theorem dX10_isRow_15 : DC mX10_isRow 15 (.iconst 1) 1 := by decide +kernel
theorem dX10_isRow_16 : DC mX10_isRow 16 (.goto 4) 3 := by decide +kernel
theorem dX10_isRow_19 : DC mX10_isRow 19 (.iconst 0) 1 := by decide +kernel
theorem dX10_isRow_20 : DC mX10_isRow 20 (.ireturn) 1 := by decide +kernel
theorem dX10_drip_0 : DC mX10_drip 0 (.lload_n 1) 1 := by decide +kernel
theorem dX10_drip_1 : DC mX10_drip 1 (.invokestatic 202) 3 := by decide +kernel
theorem dX10_drip_4 : DC mX10_drip 4 (.ifCond .eq 41) 3 := by decide +kernel
theorem dX10_drip_7 : DC mX10_drip 7 (.iload_n 3) 1 := by decide +kernel
theorem dX10_drip_8 : DC mX10_drip 8 (.i2l) 1 := by decide +kernel
theorem dX10_drip_9 : DC mX10_drip 9 (.lconst 1) 1 := by decide +kernel
theorem dX10_drip_10 : DC mX10_drip 10 (.ldc2_w 102) 3 := by decide +kernel
theorem dX10_drip_13 : DC mX10_drip 13 (.invokestatic 95) 3 := by decide +kernel
theorem dX10_drip_16 : DC mX10_drip 16 (.ifCond .eq 29) 3 := by decide +kernel
theorem dX10_drip_19 : DC mX10_drip 19 (.iload 4) 2 := by decide +kernel
theorem dX10_drip_21 : DC mX10_drip 21 (.i2l) 1 := by decide +kernel
theorem dX10_drip_22 : DC mX10_drip 22 (.lconst 0) 1 := by decide +kernel
theorem dX10_drip_23 : DC mX10_drip 23 (.ldc2_w 104) 3 := by decide +kernel
theorem dX10_drip_26 : DC mX10_drip 26 (.invokestatic 95) 3 := by decide +kernel
theorem dX10_drip_29 : DC mX10_drip 29 (.ifCond .eq 16) 3 := by decide +kernel
theorem dX10_drip_32 : DC mX10_drip 32 (.iload 5) 2 := by decide +kernel
theorem dX10_drip_34 : DC mX10_drip 34 (.i2l) 1 := by decide +kernel
theorem dX10_drip_35 : DC mX10_drip 35 (.lconst 0) 1 := by decide +kernel
theorem dX10_drip_36 : DC mX10_drip 36 (.ldc2_w 206) 3 := by decide +kernel
theorem dX10_drip_39 : DC mX10_drip 39 (.invokestatic 95) 3 := by decide +kernel
theorem dX10_drip_42 : DC mX10_drip 42 (.ifCond .ne 7) 3 := by decide +kernel
theorem dX10_drip_45 : DC mX10_drip 45 (.sipush (-1002)) 3 := by decide +kernel
theorem dX10_drip_48 : DC mX10_drip 48 (.ireturn) 1 := by decide +kernel
theorem dX10_drip_49 : DC mX10_drip 49 (.sipush 10000) 3 := by decide +kernel
theorem dX10_drip_52 : DC mX10_drip 52 (.istore 6) 2 := by decide +kernel
theorem dX10_drip_54 : DC mX10_drip 54 (.iconst 0) 1 := by decide +kernel
theorem dX10_drip_55 : DC mX10_drip 55 (.istore 7) 2 := by decide +kernel
theorem dX10_drip_57 : DC mX10_drip 57 (.iconst 0) 1 := by decide +kernel
theorem dX10_drip_58 : DC mX10_drip 58 (.istore 8) 2 := by decide +kernel
theorem dX10_drip_60 : DC mX10_drip 60 (.iconst 1) 1 := by decide +kernel
theorem dX10_drip_61 : DC mX10_drip 61 (.istore 9) 2 := by decide +kernel
theorem dX10_drip_63 : DC mX10_drip 63 (.iload 9) 2 := by decide +kernel
theorem dX10_drip_65 : DC mX10_drip 65 (.bipush 9) 2 := by decide +kernel
theorem dX10_drip_67 : DC mX10_drip 67 (.if_icmp .ge 60) 3 := by decide +kernel
theorem dX10_drip_70 : DC mX10_drip 70 (.iconst 1) 1 := by decide +kernel
theorem dX10_drip_71 : DC mX10_drip 71 (.istore 10) 2 := by decide +kernel
theorem dX10_drip_73 : DC mX10_drip 73 (.iload 10) 2 := by decide +kernel
theorem dX10_drip_75 : DC mX10_drip 75 (.bipush 9) 2 := by decide +kernel
theorem dX10_drip_77 : DC mX10_drip 77 (.if_icmp .ge 44) 3 := by decide +kernel
theorem dX10_drip_80 : DC mX10_drip 80 (.lload_n 1) 1 := by decide +kernel
theorem dX10_drip_81 : DC mX10_drip 81 (.iload_n 3) 1 := by decide +kernel
theorem dX10_drip_82 : DC mX10_drip 82 (.iload 4) 2 := by decide +kernel
theorem dX10_drip_84 : DC mX10_drip 84 (.iload 9) 2 := by decide +kernel
theorem dX10_drip_86 : DC mX10_drip 86 (.iload 10) 2 := by decide +kernel
theorem dX10_drip_88 : DC mX10_drip 88 (.invokestatic 208) 3 := by decide +kernel
theorem dX10_drip_91 : DC mX10_drip 91 (.invokestatic 212) 3 := by decide +kernel
theorem dX10_drip_94 : DC mX10_drip 94 (.istore 11) 2 := by decide +kernel
theorem dX10_drip_96 : DC mX10_drip 96 (.iload 11) 2 := by decide +kernel
theorem dX10_drip_98 : DC mX10_drip 98 (.iload 6) 2 := by decide +kernel
theorem dX10_drip_100 : DC mX10_drip 100 (.if_icmp .ge 15) 3 := by decide +kernel
theorem dX10_drip_103 : DC mX10_drip 103 (.iload 11) 2 := by decide +kernel
theorem dX10_drip_105 : DC mX10_drip 105 (.istore 6) 2 := by decide +kernel
theorem dX10_drip_107 : DC mX10_drip 107 (.iload 9) 2 := by decide +kernel
theorem dX10_drip_109 : DC mX10_drip 109 (.istore 7) 2 := by decide +kernel
theorem dX10_drip_111 : DC mX10_drip 111 (.iload 10) 2 := by decide +kernel
theorem dX10_drip_113 : DC mX10_drip 113 (.istore 8) 2 := by decide +kernel
theorem dX10_drip_115 : DC mX10_drip 115 (.iinc 10 1) 3 := by decide +kernel
theorem dX10_drip_118 : DC mX10_drip 118 (.goto (-45)) 3 := by decide +kernel
theorem dX10_drip_121 : DC mX10_drip 121 (.iinc 9 1) 3 := by decide +kernel
theorem dX10_drip_124 : DC mX10_drip 124 (.goto (-61)) 3 := by decide +kernel
theorem dX10_drip_127 : DC mX10_drip 127 (.iload 5) 2 := by decide +kernel
theorem dX10_drip_129 : DC mX10_drip 129 (.ifCond .ne 8) 3 := by decide +kernel
theorem dX10_drip_132 : DC mX10_drip 132 (.iload 7) 2 := by decide +kernel
theorem dX10_drip_134 : DC mX10_drip 134 (.goto 16) 3 := by decide +kernel
theorem dX10_drip_137 : DC mX10_drip 137 (.iload 5) 2 := by decide +kernel
theorem dX10_drip_139 : DC mX10_drip 139 (.iconst 1) 1 := by decide +kernel
theorem dX10_drip_140 : DC mX10_drip 140 (.if_icmp .ne 8) 3 := by decide +kernel
theorem dX10_drip_143 : DC mX10_drip 143 (.iload 8) 2 := by decide +kernel
theorem dX10_drip_145 : DC mX10_drip 145 (.goto 5) 3 := by decide +kernel
theorem dX10_drip_148 : DC mX10_drip 148 (.iload 6) 2 := by decide +kernel
theorem dX10_drip_150 : DC mX10_drip 150 (.ireturn) 1 := by decide +kernel
theorem dX10_hear_0 : DC mX10_hear 0 (.aload_n 0) 1 := by decide +kernel
theorem dX10_hear_1 : DC mX10_hear 1 (.iload_n 1) 1 := by decide +kernel
theorem dX10_hear_2 : DC mX10_hear 2 (.invokevirtual 106) 3 := by decide +kernel
theorem dX10_hear_5 : DC mX10_hear 5 (.ifCond .eq 7) 3 := by decide +kernel
theorem dX10_hear_8 : DC mX10_hear 8 (.sipush (-1001)) 3 := by decide +kernel
theorem dX10_hear_11 : DC mX10_hear 11 (.ireturn) 1 := by decide +kernel
theorem dX10_hear_12 : DC mX10_hear 12 (.lload_n 2) 1 := by decide +kernel
theorem dX10_hear_13 : DC mX10_hear 13 (.invokestatic 202) 3 := by decide +kernel
theorem dX10_hear_16 : DC mX10_hear 16 (.ifCond .ne 7) 3 := by decide +kernel
theorem dX10_hear_19 : DC mX10_hear 19 (.sipush (-1002)) 3 := by decide +kernel
theorem dX10_hear_22 : DC mX10_hear 22 (.ireturn) 1 := by decide +kernel
theorem dX10_hear_23 : DC mX10_hear 23 (.aload_n 0) 1 := by decide +kernel
theorem dX10_hear_24 : DC mX10_hear 24 (.getfield 82) 3 := by decide +kernel
theorem dX10_hear_27 : DC mX10_hear 27 (.iload_n 1) 1 := by decide +kernel
theorem dX10_hear_28 : DC mX10_hear 28 (.iconst 1) 1 := by decide +kernel
theorem dX10_hear_29 : DC mX10_hear 29 (.bastore) 1 := by decide +kernel
theorem dX10_hear_30 : DC mX10_hear 30 (.aload_n 0) 1 := by decide +kernel
theorem dX10_hear_31 : DC mX10_hear 31 (.getfield 86) 3 := by decide +kernel
theorem dX10_hear_34 : DC mX10_hear 34 (.iload_n 1) 1 := by decide +kernel
theorem dX10_hear_35 : DC mX10_hear 35 (.lload_n 2) 1 := by decide +kernel
theorem dX10_hear_36 : DC mX10_hear 36 (.lastore) 1 := by decide +kernel
theorem dX10_hear_37 : DC mX10_hear 37 (.aload_n 0) 1 := by decide +kernel
theorem dX10_hear_38 : DC mX10_hear 38 (.bipush 11) 2 := by decide +kernel
theorem dX10_hear_40 : DC mX10_hear 40 (.invokevirtual 216) 3 := by decide +kernel
theorem dX10_hear_43 : DC mX10_hear 43 (.ireturn) 1 := by decide +kernel
theorem dX10_hush_0 : DC mX10_hush 0 (.aload_n 0) 1 := by decide +kernel
theorem dX10_hush_1 : DC mX10_hush 1 (.bipush 11) 2 := by decide +kernel
theorem dX10_hush_3 : DC mX10_hush 3 (.invokevirtual 216) 3 := by decide +kernel
theorem dX10_hush_6 : DC mX10_hush 6 (.istore_n 1) 1 := by decide +kernel
theorem dX10_hush_7 : DC mX10_hush 7 (.iconst 0) 1 := by decide +kernel
theorem dX10_hush_8 : DC mX10_hush 8 (.istore_n 2) 1 := by decide +kernel
theorem dX10_hush_9 : DC mX10_hush 9 (.iload_n 2) 1 := by decide +kernel
theorem dX10_hush_10 : DC mX10_hush 10 (.bipush 8) 2 := by decide +kernel
theorem dX10_hush_12 : DC mX10_hush 12 (.if_icmp .ge 16) 3 := by decide +kernel
theorem dX10_hush_15 : DC mX10_hush 15 (.aload_n 0) 1 := by decide +kernel
theorem dX10_hush_16 : DC mX10_hush 16 (.getfield 82) 3 := by decide +kernel
theorem dX10_hush_19 : DC mX10_hush 19 (.iload_n 2) 1 := by decide +kernel
theorem dX10_hush_20 : DC mX10_hush 20 (.iconst 0) 1 := by decide +kernel
theorem dX10_hush_21 : DC mX10_hush 21 (.bastore) 1 := by decide +kernel
theorem dX10_hush_22 : DC mX10_hush 22 (.iinc 2 1) 3 := by decide +kernel
theorem dX10_hush_25 : DC mX10_hush 25 (.goto (-16)) 3 := by decide +kernel
theorem dX10_hush_28 : DC mX10_hush 28 (.iload_n 1) 1 := by decide +kernel
theorem dX10_hush_29 : DC mX10_hush 29 (.ireturn) 1 := by decide +kernel
theorem dX10_isFaulty_0 : DC mX10_isFaulty 0 (.iload_n 1) 1 := by decide +kernel
theorem dX10_isFaulty_1 : DC mX10_isFaulty 1 (.bipush 10) 2 := by decide +kernel
theorem dX10_isFaulty_3 : DC mX10_isFaulty 3 (.if_icmp .ge 19) 3 := by decide +kernel
theorem dX10_isFaulty_6 : DC mX10_isFaulty 6 (.iload_n 1) 1 := by decide +kernel
theorem dX10_isFaulty_7 : DC mX10_isFaulty 7 (.aload_n 0) 1 := by decide +kernel
theorem dX10_isFaulty_8 : DC mX10_isFaulty 8 (.getfield 99) 3 := by decide +kernel
theorem dX10_isFaulty_11 : DC mX10_isFaulty 11 (.if_icmp .ge 7) 3 := by decide +kernel
theorem dX10_isFaulty_14 : DC mX10_isFaulty 14 (.iconst 1) 1 := by decide +kernel
theorem dX10_isFaulty_15 : DC mX10_isFaulty 15 (.goto 23) 3 := by decide +kernel
theorem dX10_isFaulty_18 : DC mX10_isFaulty 18 (.iconst 0) 1 := by decide +kernel
theorem dX10_isFaulty_19 : DC mX10_isFaulty 19 (.goto 19) 3 := by decide +kernel
theorem dX10_isFaulty_22 : DC mX10_isFaulty 22 (.iload_n 1) 1 := by decide +kernel
theorem dX10_isFaulty_23 : DC mX10_isFaulty 23 (.bipush 10) 2 := by decide +kernel
theorem dX10_isFaulty_25 : DC mX10_isFaulty 25 (.irem) 1 := by decide +kernel
theorem dX10_isFaulty_26 : DC mX10_isFaulty 26 (.aload_n 0) 1 := by decide +kernel
theorem dX10_isFaulty_27 : DC mX10_isFaulty 27 (.getfield 92) 3 := by decide +kernel
theorem dX10_isFaulty_30 : DC mX10_isFaulty 30 (.if_icmp .ge 7) 3 := by decide +kernel
theorem dX10_isFaulty_33 : DC mX10_isFaulty 33 (.iconst 1) 1 := by decide +kernel
theorem dX10_isFaulty_34 : DC mX10_isFaulty 34 (.goto 4) 3 := by decide +kernel
theorem dX10_isFaulty_37 : DC mX10_isFaulty 37 (.iconst 0) 1 := by decide +kernel
theorem dX10_isFaulty_38 : DC mX10_isFaulty 38 (.ireturn) 1 := by decide +kernel
theorem dX10_fits_0 : DC mX10_fits 0 (.aload_n 0) 1 := by decide +kernel
theorem dX10_fits_1 : DC mX10_fits 1 (.iload_n 1) 1 := by decide +kernel
theorem dX10_fits_2 : DC mX10_fits 2 (.putfield 64) 3 := by decide +kernel
theorem dX10_fits_5 : DC mX10_fits 5 (.aload_n 0) 1 := by decide +kernel
theorem dX10_fits_6 : DC mX10_fits 6 (.iload_n 2) 1 := by decide +kernel
theorem dX10_fits_7 : DC mX10_fits 7 (.putfield 68) 3 := by decide +kernel
theorem dX10_fits_10 : DC mX10_fits 10 (.aload_n 0) 1 := by decide +kernel
theorem dX10_fits_11 : DC mX10_fits 11 (.bipush 60) 2 := by decide +kernel
theorem dX10_fits_13 : DC mX10_fits 13 (.iconst 0) 1 := by decide +kernel
theorem dX10_fits_14 : DC mX10_fits 14 (.invokevirtual 183) 3 := by decide +kernel
theorem dX10_fits_17 : DC mX10_fits 17 (.aload_n 0) 1 := by decide +kernel
theorem dX10_fits_18 : DC mX10_fits 18 (.iconst (-1)) 1 := by decide +kernel
theorem dX10_fits_19 : DC mX10_fits 19 (.putfield 64) 3 := by decide +kernel
theorem dX10_fits_22 : DC mX10_fits 22 (.aload_n 0) 1 := by decide +kernel
theorem dX10_fits_23 : DC mX10_fits 23 (.iconst (-1)) 1 := by decide +kernel
theorem dX10_fits_24 : DC mX10_fits 24 (.putfield 68) 3 := by decide +kernel
theorem dX10_fits_27 : DC mX10_fits 27 (.iconst 1) 1 := by decide +kernel
theorem dX10_fits_28 : DC mX10_fits 28 (.istore_n 3) 1 := by decide +kernel
theorem dX10_fits_29 : DC mX10_fits 29 (.iconst 0) 1 := by decide +kernel
theorem dX10_fits_30 : DC mX10_fits 30 (.istore 4) 2 := by decide +kernel
theorem dX10_fits_32 : DC mX10_fits 32 (.iload 4) 2 := by decide +kernel
theorem dX10_fits_34 : DC mX10_fits 34 (.aload_n 0) 1 := by decide +kernel
theorem dX10_fits_35 : DC mX10_fits 35 (.getfield 92) 3 := by decide +kernel
theorem dX10_fits_38 : DC mX10_fits 38 (.if_icmp .ge 47) 3 := by decide +kernel
theorem dX10_fits_41 : DC mX10_fits 41 (.iload_n 3) 1 := by decide +kernel
theorem dX10_fits_42 : DC mX10_fits 42 (.ifCond .eq 35) 3 := by decide +kernel
theorem dX10_fits_45 : DC mX10_fits 45 (.aload_n 0) 1 := by decide +kernel
theorem dX10_fits_46 : DC mX10_fits 46 (.getfield 82) 3 := by decide +kernel
theorem dX10_fits_49 : DC mX10_fits 49 (.iload 4) 2 := by decide +kernel
theorem dX10_fits_51 : DC mX10_fits 51 (.baload) 1 := by decide +kernel
theorem dX10_fits_52 : DC mX10_fits 52 (.ifCond .eq 21) 3 := by decide +kernel
theorem dX10_fits_55 : DC mX10_fits 55 (.aload_n 0) 1 := by decide +kernel
theorem dX10_fits_56 : DC mX10_fits 56 (.getfield 74) 3 := by decide +kernel
theorem dX10_fits_59 : DC mX10_fits 59 (.iload 4) 2 := by decide +kernel
theorem dX10_fits_61 : DC mX10_fits 61 (.laload) 1 := by decide +kernel
theorem dX10_fits_62 : DC mX10_fits 62 (.aload_n 0) 1 := by decide +kernel
theorem dX10_fits_63 : DC mX10_fits 63 (.getfield 86) 3 := by decide +kernel
theorem dX10_fits_66 : DC mX10_fits 66 (.iload 4) 2 := by decide +kernel
theorem dX10_fits_68 : DC mX10_fits 68 (.laload) 1 := by decide +kernel
theorem dX10_fits_69 : DC mX10_fits 69 (.lcmp) 1 := by decide +kernel
theorem dX10_fits_70 : DC mX10_fits 70 (.ifCond .ne 7) 3 := by decide +kernel
theorem dX10_fits_73 : DC mX10_fits 73 (.iconst 1) 1 := by decide +kernel
theorem dX10_fits_74 : DC mX10_fits 74 (.goto 4) 3 := by decide +kernel
theorem dX10_fits_77 : DC mX10_fits 77 (.iconst 0) 1 := by decide +kernel
theorem dX10_fits_78 : DC mX10_fits 78 (.istore_n 3) 1 := by decide +kernel
theorem dX10_fits_79 : DC mX10_fits 79 (.iinc 4 1) 3 := by decide +kernel
theorem dX10_fits_82 : DC mX10_fits 82 (.goto (-50)) 3 := by decide +kernel
theorem dX10_fits_85 : DC mX10_fits 85 (.iload_n 3) 1 := by decide +kernel
theorem dX10_fits_86 : DC mX10_fits 86 (.ireturn) 1 := by decide +kernel
theorem dX10_blamed_0 : DC mX10_blamed 0 (.iload_n 1) 1 := by decide +kernel
theorem dX10_blamed_1 : DC mX10_blamed 1 (.i2l) 1 := by decide +kernel
theorem dX10_blamed_2 : DC mX10_blamed 2 (.lconst 0) 1 := by decide +kernel
theorem dX10_blamed_3 : DC mX10_blamed 3 (.ldc2_w 219) 3 := by decide +kernel
theorem dX10_blamed_6 : DC mX10_blamed 6 (.invokestatic 95) 3 := by decide +kernel
theorem dX10_blamed_9 : DC mX10_blamed 9 (.ifCond .ne 7) 3 := by decide +kernel
theorem dX10_blamed_12 : DC mX10_blamed 12 (.sipush (-1002)) 3 := by decide +kernel
theorem dX10_blamed_15 : DC mX10_blamed 15 (.ireturn) 1 := by decide +kernel
theorem dX10_blamed_16 : DC mX10_blamed 16 (.aload_n 0) 1 := by decide +kernel
theorem dX10_blamed_17 : DC mX10_blamed 17 (.iconst (-1)) 1 := by decide +kernel
theorem dX10_blamed_18 : DC mX10_blamed 18 (.iconst (-1)) 1 := by decide +kernel
theorem dX10_blamed_19 : DC mX10_blamed 19 (.invokevirtual 221) 3 := by decide +kernel
theorem dX10_blamed_22 : DC mX10_blamed 22 (.ifCond .eq 22) 3 := by decide +kernel
theorem dX10_blamed_25 : DC mX10_blamed 25 (.iload_n 1) 1 := by decide +kernel
theorem dX10_blamed_26 : DC mX10_blamed 26 (.ifCond .ne 7) 3 := by decide +kernel
theorem dX10_blamed_29 : DC mX10_blamed 29 (.iconst 0) 1 := by decide +kernel
theorem dX10_blamed_30 : DC mX10_blamed 30 (.goto 13) 3 := by decide +kernel
theorem dX10_blamed_33 : DC mX10_blamed 33 (.iload_n 1) 1 := by decide +kernel
theorem dX10_blamed_34 : DC mX10_blamed 34 (.iconst 1) 1 := by decide +kernel
theorem dX10_blamed_35 : DC mX10_blamed 35 (.if_icmp .ne 7) 3 := by decide +kernel
theorem dX10_blamed_38 : DC mX10_blamed 38 (.iconst 1) 1 := by decide +kernel
theorem dX10_blamed_39 : DC mX10_blamed 39 (.goto 4) 3 := by decide +kernel
theorem dX10_blamed_42 : DC mX10_blamed 42 (.iconst (-1)) 1 := by decide +kernel
theorem dX10_blamed_43 : DC mX10_blamed 43 (.ireturn) 1 := by decide +kernel
theorem dX10_blamed_44 : DC mX10_blamed 44 (.iconst 0) 1 := by decide +kernel
theorem dX10_blamed_45 : DC mX10_blamed 45 (.istore_n 2) 1 := by decide +kernel
theorem dX10_blamed_46 : DC mX10_blamed 46 (.iconst (-1)) 1 := by decide +kernel
theorem dX10_blamed_47 : DC mX10_blamed 47 (.istore_n 3) 1 := by decide +kernel
theorem dX10_blamed_48 : DC mX10_blamed 48 (.iconst (-1)) 1 := by decide +kernel
theorem dX10_blamed_49 : DC mX10_blamed 49 (.istore 4) 2 := by decide +kernel
theorem dX10_blamed_51 : DC mX10_blamed 51 (.iconst 0) 1 := by decide +kernel
theorem dX10_blamed_52 : DC mX10_blamed 52 (.istore 5) 2 := by decide +kernel
theorem dX10_blamed_54 : DC mX10_blamed 54 (.iload_n 2) 1 := by decide +kernel
theorem dX10_blamed_55 : DC mX10_blamed 55 (.ifCond .ne 158) 3 := by decide +kernel
theorem dX10_blamed_58 : DC mX10_blamed 58 (.iload 5) 2 := by decide +kernel
theorem dX10_blamed_60 : DC mX10_blamed 60 (.iconst 2) 1 := by decide +kernel
theorem dX10_blamed_61 : DC mX10_blamed 61 (.if_icmp .ge 152) 3 := by decide +kernel
theorem dX10_blamed_64 : DC mX10_blamed 64 (.iinc 5 1) 3 := by decide +kernel
theorem dX10_blamed_67 : DC mX10_blamed 67 (.iconst 0) 1 := by decide +kernel
theorem dX10_blamed_68 : DC mX10_blamed 68 (.istore 6) 2 := by decide +kernel
theorem dX10_blamed_70 : DC mX10_blamed 70 (.iload 6) 2 := by decide +kernel
theorem dX10_blamed_72 : DC mX10_blamed 72 (.bipush 28) 2 := by decide +kernel
theorem dX10_blamed_74 : DC mX10_blamed 74 (.if_icmp .ge 136) 3 := by decide +kernel
theorem dX10_blamed_77 : DC mX10_blamed 77 (.iload 5) 2 := by decide +kernel
theorem dX10_blamed_79 : DC mX10_blamed 79 (.iconst 1) 1 := by decide +kernel
theorem dX10_blamed_80 : DC mX10_blamed 80 (.if_icmp .ne 8) 3 := by decide +kernel
theorem dX10_blamed_83 : DC mX10_blamed 83 (.bipush 28) 2 := by decide +kernel
theorem dX10_blamed_85 : DC mX10_blamed 85 (.goto 7) 3 := by decide +kernel
theorem dX10_blamed_88 : DC mX10_blamed 88 (.iload 6) 2 := by decide +kernel
theorem dX10_blamed_90 : DC mX10_blamed 90 (.iconst 1) 1 := by decide +kernel
theorem dX10_blamed_91 : DC mX10_blamed 91 (.iadd) 1 := by decide +kernel
theorem dX10_blamed_92 : DC mX10_blamed 92 (.istore 7) 2 := by decide +kernel
theorem dX10_blamed_94 : DC mX10_blamed 94 (.iload 7) 2 := by decide +kernel
theorem dX10_blamed_96 : DC mX10_blamed 96 (.bipush 29) 2 := by decide +kernel
theorem dX10_blamed_98 : DC mX10_blamed 98 (.if_icmp .ge 106) 3 := by decide +kernel
theorem dX10_blamed_101 : DC mX10_blamed 101 (.aload_n 0) 1 := by decide +kernel
theorem dX10_blamed_102 : DC mX10_blamed 102 (.iload 6) 2 := by decide +kernel
theorem dX10_blamed_104 : DC mX10_blamed 104 (.invokevirtual 224) 3 := by decide +kernel
theorem dX10_blamed_107 : DC mX10_blamed 107 (.ifCond .eq 29) 3 := by decide +kernel
theorem dX10_blamed_110 : DC mX10_blamed 110 (.iload 5) 2 := by decide +kernel
theorem dX10_blamed_112 : DC mX10_blamed 112 (.iconst 1) 1 := by decide +kernel
theorem dX10_blamed_113 : DC mX10_blamed 113 (.if_icmp .eq 19) 3 := by decide +kernel
theorem dX10_blamed_116 : DC mX10_blamed 116 (.iload 7) 2 := by decide +kernel
theorem dX10_blamed_118 : DC mX10_blamed 118 (.bipush 28) 2 := by decide +kernel
theorem dX10_blamed_120 : DC mX10_blamed 120 (.if_icmp .ge 16) 3 := by decide +kernel
theorem dX10_blamed_123 : DC mX10_blamed 123 (.aload_n 0) 1 := by decide +kernel
theorem dX10_blamed_124 : DC mX10_blamed 124 (.iload 7) 2 := by decide +kernel
theorem dX10_blamed_126 : DC mX10_blamed 126 (.invokevirtual 224) 3 := by decide +kernel
theorem dX10_blamed_129 : DC mX10_blamed 129 (.ifCond .eq 7) 3 := by decide +kernel
theorem dX10_blamed_132 : DC mX10_blamed 132 (.iconst 1) 1 := by decide +kernel
theorem dX10_blamed_133 : DC mX10_blamed 133 (.goto 4) 3 := by decide +kernel
theorem dX10_blamed_136 : DC mX10_blamed 136 (.iconst 0) 1 := by decide +kernel
theorem dX10_blamed_137 : DC mX10_blamed 137 (.istore 8) 2 := by decide +kernel
theorem dX10_blamed_139 : DC mX10_blamed 139 (.iload 8) 2 := by decide +kernel
theorem dX10_blamed_141 : DC mX10_blamed 141 (.ifCond .eq 57) 3 := by decide +kernel
theorem dX10_blamed_144 : DC mX10_blamed 144 (.aload_n 0) 1 := by decide +kernel
theorem dX10_blamed_145 : DC mX10_blamed 145 (.iload 6) 2 := by decide +kernel
theorem dX10_blamed_147 : DC mX10_blamed 147 (.iload 5) 2 := by decide +kernel
theorem dX10_blamed_149 : DC mX10_blamed 149 (.iconst 1) 1 := by decide +kernel
theorem dX10_blamed_150 : DC mX10_blamed 150 (.if_icmp .ne 7) 3 := by decide +kernel
theorem dX10_blamed_153 : DC mX10_blamed 153 (.iconst (-1)) 1 := by decide +kernel
theorem dX10_blamed_154 : DC mX10_blamed 154 (.goto 5) 3 := by decide +kernel
theorem dX10_blamed_157 : DC mX10_blamed 157 (.iload 7) 2 := by decide +kernel
theorem dX10_blamed_159 : DC mX10_blamed 159 (.invokevirtual 221) 3 := by decide +kernel
theorem dX10_blamed_162 : DC mX10_blamed 162 (.ifCond .eq 36) 3 := by decide +kernel
theorem dX10_blamed_165 : DC mX10_blamed 165 (.iload_n 2) 1 := by decide +kernel
theorem dX10_blamed_166 : DC mX10_blamed 166 (.ifCond .ne 8) 3 := by decide +kernel
theorem dX10_blamed_169 : DC mX10_blamed 169 (.iload 6) 2 := by decide +kernel
theorem dX10_blamed_171 : DC mX10_blamed 171 (.goto 4) 3 := by decide +kernel
theorem dX10_blamed_174 : DC mX10_blamed 174 (.iload_n 3) 1 := by decide +kernel
theorem dX10_blamed_175 : DC mX10_blamed 175 (.istore_n 3) 1 := by decide +kernel
theorem dX10_blamed_176 : DC mX10_blamed 176 (.iload_n 2) 1 := by decide +kernel
theorem dX10_blamed_177 : DC mX10_blamed 177 (.ifCond .ne 14) 3 := by decide +kernel
theorem dX10_blamed_180 : DC mX10_blamed 180 (.iload 5) 2 := by decide +kernel
theorem dX10_blamed_182 : DC mX10_blamed 182 (.iconst 2) 1 := by decide +kernel
theorem dX10_blamed_183 : DC mX10_blamed 183 (.if_icmp .ne 8) 3 := by decide +kernel
theorem dX10_blamed_186 : DC mX10_blamed 186 (.iload 7) 2 := by decide +kernel
theorem dX10_blamed_188 : DC mX10_blamed 188 (.goto 5) 3 := by decide +kernel
theorem dX10_blamed_191 : DC mX10_blamed 191 (.iload 4) 2 := by decide +kernel
theorem dX10_blamed_193 : DC mX10_blamed 193 (.istore 4) 2 := by decide +kernel
theorem dX10_blamed_195 : DC mX10_blamed 195 (.iinc 2 1) 3 := by decide +kernel
theorem dX10_blamed_198 : DC mX10_blamed 198 (.iinc 7 1) 3 := by decide +kernel
theorem dX10_blamed_201 : DC mX10_blamed 201 (.goto (-107)) 3 := by decide +kernel
theorem dX10_blamed_204 : DC mX10_blamed 204 (.iinc 6 1) 3 := by decide +kernel
theorem dX10_blamed_207 : DC mX10_blamed 207 (.goto (-137)) 3 := by decide +kernel
theorem dX10_blamed_210 : DC mX10_blamed 210 (.goto (-156)) 3 := by decide +kernel
theorem dX10_blamed_213 : DC mX10_blamed 213 (.iload_n 1) 1 := by decide +kernel
theorem dX10_blamed_214 : DC mX10_blamed 214 (.ifCond .ne 16) 3 := by decide +kernel
theorem dX10_blamed_217 : DC mX10_blamed 217 (.iload_n 2) 1 := by decide +kernel
theorem dX10_blamed_218 : DC mX10_blamed 218 (.ifCond .ne 7) 3 := by decide +kernel
theorem dX10_blamed_221 : DC mX10_blamed 221 (.iconst (-1)) 1 := by decide +kernel
theorem dX10_blamed_222 : DC mX10_blamed 222 (.goto 28) 3 := by decide +kernel
theorem dX10_blamed_225 : DC mX10_blamed 225 (.iload 5) 2 := by decide +kernel
theorem dX10_blamed_227 : DC mX10_blamed 227 (.goto 23) 3 := by decide +kernel
theorem dX10_blamed_230 : DC mX10_blamed 230 (.iload_n 1) 1 := by decide +kernel
theorem dX10_blamed_231 : DC mX10_blamed 231 (.iconst 1) 1 := by decide +kernel
theorem dX10_blamed_232 : DC mX10_blamed 232 (.if_icmp .ne 7) 3 := by decide +kernel
theorem dX10_blamed_235 : DC mX10_blamed 235 (.iload_n 2) 1 := by decide +kernel
theorem dX10_blamed_236 : DC mX10_blamed 236 (.goto 14) 3 := by decide +kernel
theorem dX10_blamed_239 : DC mX10_blamed 239 (.iload_n 1) 1 := by decide +kernel
theorem dX10_blamed_240 : DC mX10_blamed 240 (.iconst 2) 1 := by decide +kernel
theorem dX10_blamed_241 : DC mX10_blamed 241 (.if_icmp .ne 7) 3 := by decide +kernel
theorem dX10_blamed_244 : DC mX10_blamed 244 (.iload_n 3) 1 := by decide +kernel
theorem dX10_blamed_245 : DC mX10_blamed 245 (.goto 5) 3 := by decide +kernel
theorem dX10_blamed_248 : DC mX10_blamed 248 (.iload 4) 2 := by decide +kernel
theorem dX10_blamed_250 : DC mX10_blamed 250 (.ireturn) 1 := by decide +kernel
theorem dX10_knocksOf_0 : DC mX10_knocksOf 0 (.iconst 0) 1 := by decide +kernel
theorem dX10_knocksOf_1 : DC mX10_knocksOf 1 (.istore_n 3) 1 := by decide +kernel
theorem dX10_knocksOf_2 : DC mX10_knocksOf 2 (.aload_n 0) 1 := by decide +kernel
theorem dX10_knocksOf_3 : DC mX10_knocksOf 3 (.iconst 1) 1 := by decide +kernel
theorem dX10_knocksOf_4 : DC mX10_knocksOf 4 (.invokevirtual 177) 3 := by decide +kernel
theorem dX10_knocksOf_7 : DC mX10_knocksOf 7 (.iconst 0) 1 := by decide +kernel
theorem dX10_knocksOf_8 : DC mX10_knocksOf 8 (.istore 4) 2 := by decide +kernel
theorem dX10_knocksOf_10 : DC mX10_knocksOf 10 (.iload 4) 2 := by decide +kernel
theorem dX10_knocksOf_12 : DC mX10_knocksOf 12 (.iload_n 2) 1 := by decide +kernel
theorem dX10_knocksOf_13 : DC mX10_knocksOf 13 (.if_icmp .ge 24) 3 := by decide +kernel
theorem dX10_knocksOf_16 : DC mX10_knocksOf 16 (.iload_n 3) 1 := by decide +kernel
theorem dX10_knocksOf_17 : DC mX10_knocksOf 17 (.aload_n 0) 1 := by decide +kernel
theorem dX10_knocksOf_18 : DC mX10_knocksOf 18 (.iconst 1) 1 := by decide +kernel
theorem dX10_knocksOf_19 : DC mX10_knocksOf 19 (.iload 4) 2 := by decide +kernel
theorem dX10_knocksOf_21 : DC mX10_knocksOf 21 (.iconst 0) 1 := by decide +kernel
theorem dX10_knocksOf_22 : DC mX10_knocksOf 22 (.invokevirtual 173) 3 := by decide +kernel
theorem dX10_knocksOf_25 : DC mX10_knocksOf 25 (.iload_n 1) 1 := by decide +kernel
theorem dX10_knocksOf_26 : DC mX10_knocksOf 26 (.ishr) 1 := by decide +kernel
theorem dX10_knocksOf_27 : DC mX10_knocksOf 27 (.iconst 1) 1 := by decide +kernel
theorem dX10_knocksOf_28 : DC mX10_knocksOf 28 (.iand) 1 := by decide +kernel
theorem dX10_knocksOf_29 : DC mX10_knocksOf 29 (.iadd) 1 := by decide +kernel
theorem dX10_knocksOf_30 : DC mX10_knocksOf 30 (.istore_n 3) 1 := by decide +kernel
theorem dX10_knocksOf_31 : DC mX10_knocksOf 31 (.iinc 4 1) 3 := by decide +kernel
theorem dX10_knocksOf_34 : DC mX10_knocksOf 34 (.goto (-24)) 3 := by decide +kernel
theorem dX10_knocksOf_37 : DC mX10_knocksOf 37 (.iload_n 3) 1 := by decide +kernel
theorem dX10_knocksOf_38 : DC mX10_knocksOf 38 (.ireturn) 1 := by decide +kernel
theorem dX10_findTurn_0 : DC mX10_findTurn 0 (.iconst 1) 1 := by decide +kernel
theorem dX10_findTurn_1 : DC mX10_findTurn 1 (.istore 4) 2 := by decide +kernel
theorem dX10_findTurn_3 : DC mX10_findTurn 3 (.iconst 0) 1 := by decide +kernel
theorem dX10_findTurn_4 : DC mX10_findTurn 4 (.istore 5) 2 := by decide +kernel
theorem dX10_findTurn_6 : DC mX10_findTurn 6 (.iload 5) 2 := by decide +kernel
theorem dX10_findTurn_8 : DC mX10_findTurn 8 (.aload_n 0) 1 := by decide +kernel
theorem dX10_findTurn_9 : DC mX10_findTurn 9 (.getfield 99) 3 := by decide +kernel
theorem dX10_findTurn_12 : DC mX10_findTurn 12 (.if_icmp .ge 15) 3 := by decide +kernel
theorem dX10_findTurn_15 : DC mX10_findTurn 15 (.iload 4) 2 := by decide +kernel
theorem dX10_findTurn_17 : DC mX10_findTurn 17 (.iconst 5) 1 := by decide +kernel
theorem dX10_findTurn_18 : DC mX10_findTurn 18 (.imul) 1 := by decide +kernel
theorem dX10_findTurn_19 : DC mX10_findTurn 19 (.istore 4) 2 := by decide +kernel
theorem dX10_findTurn_21 : DC mX10_findTurn 21 (.iinc 5 1) 3 := by decide +kernel
theorem dX10_findTurn_24 : DC mX10_findTurn 24 (.goto (-18)) 3 := by decide +kernel
theorem dX10_findTurn_27 : DC mX10_findTurn 27 (.iconst (-1)) 1 := by decide +kernel
theorem dX10_findTurn_28 : DC mX10_findTurn 28 (.istore 5) 2 := by decide +kernel
theorem dX10_findTurn_30 : DC mX10_findTurn 30 (.iconst 0) 1 := by decide +kernel
theorem dX10_findTurn_31 : DC mX10_findTurn 31 (.istore 6) 2 := by decide +kernel
theorem dX10_findTurn_33 : DC mX10_findTurn 33 (.iload 6) 2 := by decide +kernel
theorem dX10_findTurn_35 : DC mX10_findTurn 35 (.iload 4) 2 := by decide +kernel
theorem dX10_findTurn_37 : DC mX10_findTurn 37 (.if_icmp .ge 189) 3 := by decide +kernel
theorem dX10_findTurn_40 : DC mX10_findTurn 40 (.iload 6) 2 := by decide +kernel
theorem dX10_findTurn_42 : DC mX10_findTurn 42 (.istore 7) 2 := by decide +kernel
theorem dX10_findTurn_44 : DC mX10_findTurn 44 (.iconst 0) 1 := by decide +kernel
theorem dX10_findTurn_45 : DC mX10_findTurn 45 (.istore 8) 2 := by decide +kernel
theorem dX10_findTurn_47 : DC mX10_findTurn 47 (.iconst 1) 1 := by decide +kernel
theorem dX10_findTurn_48 : DC mX10_findTurn 48 (.istore 9) 2 := by decide +kernel
theorem dX10_findTurn_50 : DC mX10_findTurn 50 (.aload_n 0) 1 := by decide +kernel
theorem dX10_findTurn_51 : DC mX10_findTurn 51 (.getfield 99) 3 := by decide +kernel
theorem dX10_findTurn_54 : DC mX10_findTurn 54 (.iconst 1) 1 := by decide +kernel
theorem dX10_findTurn_55 : DC mX10_findTurn 55 (.isub) 1 := by decide +kernel
theorem dX10_findTurn_56 : DC mX10_findTurn 56 (.istore 10) 2 := by decide +kernel
theorem dX10_findTurn_58 : DC mX10_findTurn 58 (.iload 10) 2 := by decide +kernel
theorem dX10_findTurn_60 : DC mX10_findTurn 60 (.ifCond .lt 100) 3 := by decide +kernel
theorem dX10_findTurn_63 : DC mX10_findTurn 63 (.aload_n 0) 1 := by decide +kernel
theorem dX10_findTurn_64 : DC mX10_findTurn 64 (.getfield 71) 3 := by decide +kernel
theorem dX10_findTurn_67 : DC mX10_findTurn 67 (.iload 10) 2 := by decide +kernel
theorem dX10_findTurn_69 : DC mX10_findTurn 69 (.iload 7) 2 := by decide +kernel
theorem dX10_findTurn_71 : DC mX10_findTurn 71 (.iconst 5) 1 := by decide +kernel
theorem dX10_findTurn_72 : DC mX10_findTurn 72 (.irem) 1 := by decide +kernel
theorem dX10_findTurn_73 : DC mX10_findTurn 73 (.iconst 2) 1 := by decide +kernel
theorem dX10_findTurn_74 : DC mX10_findTurn 74 (.isub) 1 := by decide +kernel
theorem dX10_findTurn_75 : DC mX10_findTurn 75 (.iastore) 1 := by decide +kernel
theorem dX10_findTurn_76 : DC mX10_findTurn 76 (.iload 7) 2 := by decide +kernel
theorem dX10_findTurn_78 : DC mX10_findTurn 78 (.iconst 5) 1 := by decide +kernel
theorem dX10_findTurn_79 : DC mX10_findTurn 79 (.idiv) 1 := by decide +kernel
theorem dX10_findTurn_80 : DC mX10_findTurn 80 (.istore 7) 2 := by decide +kernel
theorem dX10_findTurn_82 : DC mX10_findTurn 82 (.iload 8) 2 := by decide +kernel
theorem dX10_findTurn_84 : DC mX10_findTurn 84 (.aload_n 0) 1 := by decide +kernel
theorem dX10_findTurn_85 : DC mX10_findTurn 85 (.getfield 71) 3 := by decide +kernel
theorem dX10_findTurn_88 : DC mX10_findTurn 88 (.iload 10) 2 := by decide +kernel
theorem dX10_findTurn_90 : DC mX10_findTurn 90 (.iaload) 1 := by decide +kernel
theorem dX10_findTurn_91 : DC mX10_findTurn 91 (.ifCond .ge 15) 3 := by decide +kernel
theorem dX10_findTurn_94 : DC mX10_findTurn 94 (.iconst 0) 1 := by decide +kernel
theorem dX10_findTurn_95 : DC mX10_findTurn 95 (.aload_n 0) 1 := by decide +kernel
theorem dX10_findTurn_96 : DC mX10_findTurn 96 (.getfield 71) 3 := by decide +kernel
theorem dX10_findTurn_99 : DC mX10_findTurn 99 (.iload 10) 2 := by decide +kernel
theorem dX10_findTurn_101 : DC mX10_findTurn 101 (.iaload) 1 := by decide +kernel
theorem dX10_findTurn_102 : DC mX10_findTurn 102 (.isub) 1 := by decide +kernel
theorem dX10_findTurn_103 : DC mX10_findTurn 103 (.goto 10) 3 := by decide +kernel
theorem dX10_findTurn_106 : DC mX10_findTurn 106 (.aload_n 0) 1 := by decide +kernel
theorem dX10_findTurn_107 : DC mX10_findTurn 107 (.getfield 71) 3 := by decide +kernel
theorem dX10_findTurn_110 : DC mX10_findTurn 110 (.iload 10) 2 := by decide +kernel
theorem dX10_findTurn_112 : DC mX10_findTurn 112 (.iaload) 1 := by decide +kernel
theorem dX10_findTurn_113 : DC mX10_findTurn 113 (.iadd) 1 := by decide +kernel
theorem dX10_findTurn_114 : DC mX10_findTurn 114 (.istore 8) 2 := by decide +kernel
theorem dX10_findTurn_116 : DC mX10_findTurn 116 (.iload 9) 2 := by decide +kernel
theorem dX10_findTurn_118 : DC mX10_findTurn 118 (.ifCond .eq 33) 3 := by decide +kernel
theorem dX10_findTurn_121 : DC mX10_findTurn 121 (.aload_n 0) 1 := by decide +kernel
theorem dX10_findTurn_122 : DC mX10_findTurn 122 (.getfield 25) 3 := by decide +kernel
theorem dX10_findTurn_125 : DC mX10_findTurn 125 (.iload 10) 2 := by decide +kernel
theorem dX10_findTurn_127 : DC mX10_findTurn 127 (.iaload) 1 := by decide +kernel
theorem dX10_findTurn_128 : DC mX10_findTurn 128 (.aload_n 0) 1 := by decide +kernel
theorem dX10_findTurn_129 : DC mX10_findTurn 129 (.getfield 71) 3 := by decide +kernel
theorem dX10_findTurn_132 : DC mX10_findTurn 132 (.iload 10) 2 := by decide +kernel
theorem dX10_findTurn_134 : DC mX10_findTurn 134 (.iaload) 1 := by decide +kernel
theorem dX10_findTurn_135 : DC mX10_findTurn 135 (.iadd) 1 := by decide +kernel
theorem dX10_findTurn_136 : DC mX10_findTurn 136 (.i2l) 1 := by decide +kernel
theorem dX10_findTurn_137 : DC mX10_findTurn 137 (.lconst 0) 1 := by decide +kernel
theorem dX10_findTurn_138 : DC mX10_findTurn 138 (.ldc2_w 104) 3 := by decide +kernel
theorem dX10_findTurn_141 : DC mX10_findTurn 141 (.invokestatic 95) 3 := by decide +kernel
theorem dX10_findTurn_144 : DC mX10_findTurn 144 (.ifCond .eq 7) 3 := by decide +kernel
theorem dX10_findTurn_147 : DC mX10_findTurn 147 (.iconst 1) 1 := by decide +kernel
theorem dX10_findTurn_148 : DC mX10_findTurn 148 (.goto 4) 3 := by decide +kernel
theorem dX10_findTurn_151 : DC mX10_findTurn 151 (.iconst 0) 1 := by decide +kernel
theorem dX10_findTurn_152 : DC mX10_findTurn 152 (.istore 9) 2 := by decide +kernel
theorem dX10_findTurn_154 : DC mX10_findTurn 154 (.iinc 10 (-1)) 3 := by decide +kernel
theorem dX10_findTurn_157 : DC mX10_findTurn 157 (.goto (-99)) 3 := by decide +kernel
theorem dX10_findTurn_160 : DC mX10_findTurn 160 (.iload 9) 2 := by decide +kernel
theorem dX10_findTurn_162 : DC mX10_findTurn 162 (.ifCond .eq 58) 3 := by decide +kernel
theorem dX10_findTurn_165 : DC mX10_findTurn 165 (.iload 5) 2 := by decide +kernel
theorem dX10_findTurn_167 : DC mX10_findTurn 167 (.ifCond .lt 10) 3 := by decide +kernel
theorem dX10_findTurn_170 : DC mX10_findTurn 170 (.iload 8) 2 := by decide +kernel
theorem dX10_findTurn_172 : DC mX10_findTurn 172 (.iload 5) 2 := by decide +kernel
theorem dX10_findTurn_174 : DC mX10_findTurn 174 (.if_icmp .ge 46) 3 := by decide +kernel
theorem dX10_findTurn_177 : DC mX10_findTurn 177 (.aload_n 0) 1 := by decide +kernel
theorem dX10_findTurn_178 : DC mX10_findTurn 178 (.iload_n 1) 1 := by decide +kernel
theorem dX10_findTurn_179 : DC mX10_findTurn 179 (.iload_n 3) 1 := by decide +kernel
theorem dX10_findTurn_180 : DC mX10_findTurn 180 (.invokevirtual 227) 3 := by decide +kernel
theorem dX10_findTurn_183 : DC mX10_findTurn 183 (.iload_n 2) 1 := by decide +kernel
theorem dX10_findTurn_184 : DC mX10_findTurn 184 (.if_icmp .ne 36) 3 := by decide +kernel
theorem dX10_findTurn_187 : DC mX10_findTurn 187 (.iload 8) 2 := by decide +kernel
theorem dX10_findTurn_189 : DC mX10_findTurn 189 (.istore 5) 2 := by decide +kernel
theorem dX10_findTurn_191 : DC mX10_findTurn 191 (.iconst 0) 1 := by decide +kernel
theorem dX10_findTurn_192 : DC mX10_findTurn 192 (.istore 10) 2 := by decide +kernel
theorem dX10_findTurn_194 : DC mX10_findTurn 194 (.iload 10) 2 := by decide +kernel
theorem dX10_findTurn_196 : DC mX10_findTurn 196 (.iconst 4) 1 := by decide +kernel
theorem dX10_findTurn_197 : DC mX10_findTurn 197 (.if_icmp .ge 23) 3 := by decide +kernel
theorem dX10_findTurn_200 : DC mX10_findTurn 200 (.aload_n 0) 1 := by decide +kernel
theorem dX10_findTurn_201 : DC mX10_findTurn 201 (.getfield 89) 3 := by decide +kernel
theorem dX10_findTurn_204 : DC mX10_findTurn 204 (.iload 10) 2 := by decide +kernel
theorem dX10_findTurn_206 : DC mX10_findTurn 206 (.aload_n 0) 1 := by decide +kernel
theorem dX10_findTurn_207 : DC mX10_findTurn 207 (.getfield 71) 3 := by decide +kernel
theorem dX10_findTurn_210 : DC mX10_findTurn 210 (.iload 10) 2 := by decide +kernel
theorem dX10_findTurn_212 : DC mX10_findTurn 212 (.iaload) 1 := by decide +kernel
theorem dX10_findTurn_213 : DC mX10_findTurn 213 (.iastore) 1 := by decide +kernel
theorem dX10_findTurn_214 : DC mX10_findTurn 214 (.iinc 10 1) 3 := by decide +kernel
theorem dX10_findTurn_217 : DC mX10_findTurn 217 (.goto (-23)) 3 := by decide +kernel
theorem dX10_findTurn_220 : DC mX10_findTurn 220 (.iinc 6 1) 3 := by decide +kernel
theorem dX10_findTurn_223 : DC mX10_findTurn 223 (.goto (-190)) 3 := by decide +kernel
theorem dX10_findTurn_226 : DC mX10_findTurn 226 (.iconst 0) 1 := by decide +kernel
theorem dX10_findTurn_227 : DC mX10_findTurn 227 (.istore 6) 2 := by decide +kernel
theorem dX10_findTurn_229 : DC mX10_findTurn 229 (.iload 6) 2 := by decide +kernel
theorem dX10_findTurn_231 : DC mX10_findTurn 231 (.iconst 4) 1 := by decide +kernel
theorem dX10_findTurn_232 : DC mX10_findTurn 232 (.if_icmp .ge 40) 3 := by decide +kernel
theorem dX10_findTurn_235 : DC mX10_findTurn 235 (.aload_n 0) 1 := by decide +kernel
theorem dX10_findTurn_236 : DC mX10_findTurn 236 (.getfield 89) 3 := by decide +kernel
theorem dX10_findTurn_239 : DC mX10_findTurn 239 (.iload 6) 2 := by decide +kernel
theorem dX10_findTurn_241 : DC mX10_findTurn 241 (.iload 5) 2 := by decide +kernel
theorem dX10_findTurn_243 : DC mX10_findTurn 243 (.ifCond .ge 7) 3 := by decide +kernel
theorem dX10_findTurn_246 : DC mX10_findTurn 246 (.iconst 0) 1 := by decide +kernel
theorem dX10_findTurn_247 : DC mX10_findTurn 247 (.goto 10) 3 := by decide +kernel
theorem dX10_findTurn_250 : DC mX10_findTurn 250 (.aload_n 0) 1 := by decide +kernel
theorem dX10_findTurn_251 : DC mX10_findTurn 251 (.getfield 89) 3 := by decide +kernel
theorem dX10_findTurn_254 : DC mX10_findTurn 254 (.iload 6) 2 := by decide +kernel
theorem dX10_findTurn_256 : DC mX10_findTurn 256 (.iaload) 1 := by decide +kernel
theorem dX10_findTurn_257 : DC mX10_findTurn 257 (.iastore) 1 := by decide +kernel
theorem dX10_findTurn_258 : DC mX10_findTurn 258 (.aload_n 0) 1 := by decide +kernel
theorem dX10_findTurn_259 : DC mX10_findTurn 259 (.getfield 71) 3 := by decide +kernel
theorem dX10_findTurn_262 : DC mX10_findTurn 262 (.iload 6) 2 := by decide +kernel
theorem dX10_findTurn_264 : DC mX10_findTurn 264 (.iconst 0) 1 := by decide +kernel
theorem dX10_findTurn_265 : DC mX10_findTurn 265 (.iastore) 1 := by decide +kernel
theorem dX10_findTurn_266 : DC mX10_findTurn 266 (.iinc 6 1) 3 := by decide +kernel
theorem dX10_findTurn_269 : DC mX10_findTurn 269 (.goto (-40)) 3 := by decide +kernel
theorem dX10_findTurn_272 : DC mX10_findTurn 272 (.iload 5) 2 := by decide +kernel
theorem dX10_findTurn_274 : DC mX10_findTurn 274 (.ireturn) 1 := by decide +kernel
theorem dX10_mended_0 : DC mX10_mended 0 (.aload_n 0) 1 := by decide +kernel
theorem dX10_mended_1 : DC mX10_mended 1 (.iload_n 1) 1 := by decide +kernel
theorem dX10_mended_2 : DC mX10_mended 2 (.invokevirtual 106) 3 := by decide +kernel
theorem dX10_mended_5 : DC mX10_mended 5 (.ifCond .ne 18) 3 := by decide +kernel
theorem dX10_mended_8 : DC mX10_mended 8 (.iload 4) 2 := by decide +kernel
theorem dX10_mended_10 : DC mX10_mended 10 (.iconst (-1)) 1 := by decide +kernel
theorem dX10_mended_11 : DC mX10_mended 11 (.if_icmp .eq 16) 3 := by decide +kernel
theorem dX10_mended_14 : DC mX10_mended 14 (.aload_n 0) 1 := by decide +kernel
theorem dX10_mended_15 : DC mX10_mended 15 (.iload 4) 2 := by decide +kernel
theorem dX10_mended_17 : DC mX10_mended 17 (.invokevirtual 112) 3 := by decide +kernel
theorem dX10_mended_20 : DC mX10_mended 20 (.ifCond .eq 7) 3 := by decide +kernel
theorem dX10_mended_23 : DC mX10_mended 23 (.sipush (-1001)) 3 := by decide +kernel
theorem dX10_mended_26 : DC mX10_mended 26 (.ireturn) 1 := by decide +kernel
theorem dX10_mended_27 : DC mX10_mended 27 (.iload_n 2) 1 := by decide +kernel
theorem dX10_mended_28 : DC mX10_mended 28 (.i2l) 1 := by decide +kernel
theorem dX10_mended_29 : DC mX10_mended 29 (.lconst 0) 1 := by decide +kernel
theorem dX10_mended_30 : DC mX10_mended 30 (.ldc2_w 171) 3 := by decide +kernel
theorem dX10_mended_33 : DC mX10_mended 33 (.invokestatic 95) 3 := by decide +kernel
theorem dX10_mended_36 : DC mX10_mended 36 (.ifCond .eq 15) 3 := by decide +kernel
theorem dX10_mended_39 : DC mX10_mended 39 (.iload_n 3) 1 := by decide +kernel
theorem dX10_mended_40 : DC mX10_mended 40 (.i2l) 1 := by decide +kernel
theorem dX10_mended_41 : DC mX10_mended 41 (.lconst 1) 1 := by decide +kernel
theorem dX10_mended_42 : DC mX10_mended 42 (.ldc2_w 171) 3 := by decide +kernel
theorem dX10_mended_45 : DC mX10_mended 45 (.invokestatic 95) 3 := by decide +kernel
theorem dX10_mended_48 : DC mX10_mended 48 (.ifCond .ne 7) 3 := by decide +kernel
theorem dX10_mended_51 : DC mX10_mended 51 (.sipush (-1002)) 3 := by decide +kernel
theorem dX10_mended_54 : DC mX10_mended 54 (.ireturn) 1 := by decide +kernel
theorem dX10_mended_55 : DC mX10_mended 55 (.aload_n 0) 1 := by decide +kernel
theorem dX10_mended_56 : DC mX10_mended 56 (.iload_n 1) 1 := by decide +kernel
theorem dX10_mended_57 : DC mX10_mended 57 (.iload_n 2) 1 := by decide +kernel
theorem dX10_mended_58 : DC mX10_mended 58 (.iload_n 3) 1 := by decide +kernel
theorem dX10_mended_59 : DC mX10_mended 59 (.invokevirtual 231) 3 := by decide +kernel
theorem dX10_mended_62 : DC mX10_mended 62 (.istore 5) 2 := by decide +kernel
theorem dX10_mended_64 : DC mX10_mended 64 (.iload 4) 2 := by decide +kernel
theorem dX10_mended_66 : DC mX10_mended 66 (.ifCond .ge 8) 3 := by decide +kernel
theorem dX10_mended_69 : DC mX10_mended 69 (.iload 5) 2 := by decide +kernel
theorem dX10_mended_71 : DC mX10_mended 71 (.goto 10) 3 := by decide +kernel
theorem dX10_mended_74 : DC mX10_mended 74 (.aload_n 0) 1 := by decide +kernel
theorem dX10_mended_75 : DC mX10_mended 75 (.getfield 89) 3 := by decide +kernel
theorem dX10_mended_78 : DC mX10_mended 78 (.iload 4) 2 := by decide +kernel
theorem dX10_mended_80 : DC mX10_mended 80 (.iaload) 1 := by decide +kernel
theorem dX10_mended_81 : DC mX10_mended 81 (.ireturn) 1 := by decide +kernel
theorem dJ6_bitCount_0f7a4_0 : DC mJ6_bitCount_0f7a4 0 (.iload_n 0) 1 := by decide +kernel
theorem dJ6_bitCount_0f7a4_1 : DC mJ6_bitCount_0f7a4 1 (.iload_n 0) 1 := by decide +kernel
theorem dJ6_bitCount_0f7a4_2 : DC mJ6_bitCount_0f7a4 2 (.iconst 1) 1 := by decide +kernel
theorem dJ6_bitCount_0f7a4_3 : DC mJ6_bitCount_0f7a4 3 (.iushr) 1 := by decide +kernel
theorem dJ6_bitCount_0f7a4_4 : DC mJ6_bitCount_0f7a4 4 (.ldc_w 265) 3 := by decide +kernel
theorem dJ6_bitCount_0f7a4_7 : DC mJ6_bitCount_0f7a4 7 (.iand) 1 := by decide +kernel
theorem dJ6_bitCount_0f7a4_8 : DC mJ6_bitCount_0f7a4 8 (.isub) 1 := by decide +kernel
theorem dJ6_bitCount_0f7a4_9 : DC mJ6_bitCount_0f7a4 9 (.istore_n 0) 1 := by decide +kernel
theorem dJ6_bitCount_0f7a4_10 : DC mJ6_bitCount_0f7a4 10 (.iload_n 0) 1 := by decide +kernel
theorem dJ6_bitCount_0f7a4_11 : DC mJ6_bitCount_0f7a4 11 (.ldc_w 266) 3 := by decide +kernel
theorem dJ6_bitCount_0f7a4_14 : DC mJ6_bitCount_0f7a4 14 (.iand) 1 := by decide +kernel
theorem dJ6_bitCount_0f7a4_15 : DC mJ6_bitCount_0f7a4 15 (.iload_n 0) 1 := by decide +kernel
theorem dJ6_bitCount_0f7a4_16 : DC mJ6_bitCount_0f7a4 16 (.iconst 2) 1 := by decide +kernel
theorem dJ6_bitCount_0f7a4_17 : DC mJ6_bitCount_0f7a4 17 (.iushr) 1 := by decide +kernel
theorem dJ6_bitCount_0f7a4_18 : DC mJ6_bitCount_0f7a4 18 (.ldc_w 266) 3 := by decide +kernel
theorem dJ6_bitCount_0f7a4_21 : DC mJ6_bitCount_0f7a4 21 (.iand) 1 := by decide +kernel
theorem dJ6_bitCount_0f7a4_22 : DC mJ6_bitCount_0f7a4 22 (.iadd) 1 := by decide +kernel
theorem dJ6_bitCount_0f7a4_23 : DC mJ6_bitCount_0f7a4 23 (.istore_n 0) 1 := by decide +kernel
theorem dJ6_bitCount_0f7a4_24 : DC mJ6_bitCount_0f7a4 24 (.iload_n 0) 1 := by decide +kernel
theorem dJ6_bitCount_0f7a4_25 : DC mJ6_bitCount_0f7a4 25 (.iload_n 0) 1 := by decide +kernel
theorem dJ6_bitCount_0f7a4_26 : DC mJ6_bitCount_0f7a4 26 (.iconst 4) 1 := by decide +kernel
theorem dJ6_bitCount_0f7a4_27 : DC mJ6_bitCount_0f7a4 27 (.iushr) 1 := by decide +kernel
theorem dJ6_bitCount_0f7a4_28 : DC mJ6_bitCount_0f7a4 28 (.iadd) 1 := by decide +kernel
theorem dJ6_bitCount_0f7a4_29 : DC mJ6_bitCount_0f7a4 29 (.ldc_w 267) 3 := by decide +kernel
theorem dJ6_bitCount_0f7a4_32 : DC mJ6_bitCount_0f7a4 32 (.iand) 1 := by decide +kernel
theorem dJ6_bitCount_0f7a4_33 : DC mJ6_bitCount_0f7a4 33 (.istore_n 0) 1 := by decide +kernel
theorem dJ6_bitCount_0f7a4_34 : DC mJ6_bitCount_0f7a4 34 (.iload_n 0) 1 := by decide +kernel
theorem dJ6_bitCount_0f7a4_35 : DC mJ6_bitCount_0f7a4 35 (.iload_n 0) 1 := by decide +kernel
theorem dJ6_bitCount_0f7a4_36 : DC mJ6_bitCount_0f7a4 36 (.bipush 8) 2 := by decide +kernel
theorem dJ6_bitCount_0f7a4_38 : DC mJ6_bitCount_0f7a4 38 (.iushr) 1 := by decide +kernel
theorem dJ6_bitCount_0f7a4_39 : DC mJ6_bitCount_0f7a4 39 (.iadd) 1 := by decide +kernel
theorem dJ6_bitCount_0f7a4_40 : DC mJ6_bitCount_0f7a4 40 (.istore_n 0) 1 := by decide +kernel
theorem dJ6_bitCount_0f7a4_41 : DC mJ6_bitCount_0f7a4 41 (.iload_n 0) 1 := by decide +kernel
theorem dJ6_bitCount_0f7a4_42 : DC mJ6_bitCount_0f7a4 42 (.iload_n 0) 1 := by decide +kernel
theorem dJ6_bitCount_0f7a4_43 : DC mJ6_bitCount_0f7a4 43 (.bipush 16) 2 := by decide +kernel
theorem dJ6_bitCount_0f7a4_45 : DC mJ6_bitCount_0f7a4 45 (.iushr) 1 := by decide +kernel
theorem dJ6_bitCount_0f7a4_46 : DC mJ6_bitCount_0f7a4 46 (.iadd) 1 := by decide +kernel
theorem dJ6_bitCount_0f7a4_47 : DC mJ6_bitCount_0f7a4 47 (.istore_n 0) 1 := by decide +kernel
theorem dJ6_bitCount_0f7a4_48 : DC mJ6_bitCount_0f7a4 48 (.iload_n 0) 1 := by decide +kernel
theorem dJ6_bitCount_0f7a4_49 : DC mJ6_bitCount_0f7a4 49 (.bipush 63) 2 := by decide +kernel
theorem dJ6_bitCount_0f7a4_51 : DC mJ6_bitCount_0f7a4 51 (.iand) 1 := by decide +kernel
theorem dJ6_bitCount_0f7a4_52 : DC mJ6_bitCount_0f7a4 52 (.ireturn) 1 := by decide +kernel
theorem dJ13_bitCount_95d88_0 : DC mJ13_bitCount_95d88 0 (.lload_n 0) 1 := by decide +kernel
theorem dJ13_bitCount_95d88_1 : DC mJ13_bitCount_95d88 1 (.lload_n 0) 1 := by decide +kernel
theorem dJ13_bitCount_95d88_2 : DC mJ13_bitCount_95d88 2 (.iconst 1) 1 := by decide +kernel
theorem dJ13_bitCount_95d88_3 : DC mJ13_bitCount_95d88 3 (.lushr) 1 := by decide +kernel
theorem dJ13_bitCount_95d88_4 : DC mJ13_bitCount_95d88 4 (.ldc2_w 314) 3 := by decide +kernel
theorem dJ13_bitCount_95d88_7 : DC mJ13_bitCount_95d88 7 (.land) 1 := by decide +kernel
theorem dJ13_bitCount_95d88_8 : DC mJ13_bitCount_95d88 8 (.lsub) 1 := by decide +kernel
theorem dJ13_bitCount_95d88_9 : DC mJ13_bitCount_95d88 9 (.lstore_n 0) 1 := by decide +kernel
theorem dJ13_bitCount_95d88_10 : DC mJ13_bitCount_95d88 10 (.lload_n 0) 1 := by decide +kernel
theorem dJ13_bitCount_95d88_11 : DC mJ13_bitCount_95d88 11 (.ldc2_w 316) 3 := by decide +kernel
theorem dJ13_bitCount_95d88_14 : DC mJ13_bitCount_95d88 14 (.land) 1 := by decide +kernel
theorem dJ13_bitCount_95d88_15 : DC mJ13_bitCount_95d88 15 (.lload_n 0) 1 := by decide +kernel
theorem dJ13_bitCount_95d88_16 : DC mJ13_bitCount_95d88 16 (.iconst 2) 1 := by decide +kernel
theorem dJ13_bitCount_95d88_17 : DC mJ13_bitCount_95d88 17 (.lushr) 1 := by decide +kernel
theorem dJ13_bitCount_95d88_18 : DC mJ13_bitCount_95d88 18 (.ldc2_w 316) 3 := by decide +kernel
theorem dJ13_bitCount_95d88_21 : DC mJ13_bitCount_95d88 21 (.land) 1 := by decide +kernel
theorem dJ13_bitCount_95d88_22 : DC mJ13_bitCount_95d88 22 (.ladd) 1 := by decide +kernel
theorem dJ13_bitCount_95d88_23 : DC mJ13_bitCount_95d88 23 (.lstore_n 0) 1 := by decide +kernel
theorem dJ13_bitCount_95d88_24 : DC mJ13_bitCount_95d88 24 (.lload_n 0) 1 := by decide +kernel
theorem dJ13_bitCount_95d88_25 : DC mJ13_bitCount_95d88 25 (.lload_n 0) 1 := by decide +kernel
theorem dJ13_bitCount_95d88_26 : DC mJ13_bitCount_95d88 26 (.iconst 4) 1 := by decide +kernel
theorem dJ13_bitCount_95d88_27 : DC mJ13_bitCount_95d88 27 (.lushr) 1 := by decide +kernel
theorem dJ13_bitCount_95d88_28 : DC mJ13_bitCount_95d88 28 (.ladd) 1 := by decide +kernel
theorem dJ13_bitCount_95d88_29 : DC mJ13_bitCount_95d88 29 (.ldc2_w 318) 3 := by decide +kernel
theorem dJ13_bitCount_95d88_32 : DC mJ13_bitCount_95d88 32 (.land) 1 := by decide +kernel
theorem dJ13_bitCount_95d88_33 : DC mJ13_bitCount_95d88 33 (.lstore_n 0) 1 := by decide +kernel
theorem dJ13_bitCount_95d88_34 : DC mJ13_bitCount_95d88 34 (.lload_n 0) 1 := by decide +kernel
theorem dJ13_bitCount_95d88_35 : DC mJ13_bitCount_95d88 35 (.lload_n 0) 1 := by decide +kernel
theorem dJ13_bitCount_95d88_36 : DC mJ13_bitCount_95d88 36 (.bipush 8) 2 := by decide +kernel
theorem dJ13_bitCount_95d88_38 : DC mJ13_bitCount_95d88 38 (.lushr) 1 := by decide +kernel
theorem dJ13_bitCount_95d88_39 : DC mJ13_bitCount_95d88 39 (.ladd) 1 := by decide +kernel
theorem dJ13_bitCount_95d88_40 : DC mJ13_bitCount_95d88 40 (.lstore_n 0) 1 := by decide +kernel
theorem dJ13_bitCount_95d88_41 : DC mJ13_bitCount_95d88 41 (.lload_n 0) 1 := by decide +kernel
theorem dJ13_bitCount_95d88_42 : DC mJ13_bitCount_95d88 42 (.lload_n 0) 1 := by decide +kernel
theorem dJ13_bitCount_95d88_43 : DC mJ13_bitCount_95d88 43 (.bipush 16) 2 := by decide +kernel
theorem dJ13_bitCount_95d88_45 : DC mJ13_bitCount_95d88 45 (.lushr) 1 := by decide +kernel
theorem dJ13_bitCount_95d88_46 : DC mJ13_bitCount_95d88 46 (.ladd) 1 := by decide +kernel
theorem dJ13_bitCount_95d88_47 : DC mJ13_bitCount_95d88 47 (.lstore_n 0) 1 := by decide +kernel
theorem dJ13_bitCount_95d88_48 : DC mJ13_bitCount_95d88 48 (.lload_n 0) 1 := by decide +kernel
theorem dJ13_bitCount_95d88_49 : DC mJ13_bitCount_95d88 49 (.lload_n 0) 1 := by decide +kernel
theorem dJ13_bitCount_95d88_50 : DC mJ13_bitCount_95d88 50 (.bipush 32) 2 := by decide +kernel
theorem dJ13_bitCount_95d88_52 : DC mJ13_bitCount_95d88 52 (.lushr) 1 := by decide +kernel
theorem dJ13_bitCount_95d88_53 : DC mJ13_bitCount_95d88 53 (.ladd) 1 := by decide +kernel
theorem dJ13_bitCount_95d88_54 : DC mJ13_bitCount_95d88 54 (.lstore_n 0) 1 := by decide +kernel
theorem dJ13_bitCount_95d88_55 : DC mJ13_bitCount_95d88 55 (.lload_n 0) 1 := by decide +kernel
theorem dJ13_bitCount_95d88_56 : DC mJ13_bitCount_95d88 56 (.l2i) 1 := by decide +kernel
theorem dJ13_bitCount_95d88_57 : DC mJ13_bitCount_95d88 57 (.bipush 127) 2 := by decide +kernel
theorem dJ13_bitCount_95d88_59 : DC mJ13_bitCount_95d88 59 (.iand) 1 := by decide +kernel
theorem dJ13_bitCount_95d88_60 : DC mJ13_bitCount_95d88 60 (.ireturn) 1 := by decide +kernel
theorem dJ9_abs_0f7a4_0 : DC mJ9_abs_0f7a4 0 (.iload_n 0) 1 := by decide +kernel
theorem dJ9_abs_0f7a4_1 : DC mJ9_abs_0f7a4 1 (.ifCond .ge 8) 3 := by decide +kernel
theorem dJ9_abs_0f7a4_4 : DC mJ9_abs_0f7a4 4 (.iload_n 0) 1 := by decide +kernel
theorem dJ9_abs_0f7a4_5 : DC mJ9_abs_0f7a4 5 (.ineg) 1 := by decide +kernel
theorem dJ9_abs_0f7a4_6 : DC mJ9_abs_0f7a4 6 (.goto 4) 3 := by decide +kernel
theorem dJ9_abs_0f7a4_9 : DC mJ9_abs_0f7a4 9 (.iload_n 0) 1 := by decide +kernel
theorem dJ9_abs_0f7a4_10 : DC mJ9_abs_0f7a4 10 (.ireturn) 1 := by decide +kernel
theorem dJ9_max_7cf53_0 : DC mJ9_max_7cf53 0 (.iload_n 0) 1 := by decide +kernel
theorem dJ9_max_7cf53_1 : DC mJ9_max_7cf53 1 (.iload_n 1) 1 := by decide +kernel
theorem dJ9_max_7cf53_2 : DC mJ9_max_7cf53 2 (.if_icmp .lt 7) 3 := by decide +kernel
theorem dJ9_max_7cf53_5 : DC mJ9_max_7cf53 5 (.iload_n 0) 1 := by decide +kernel
theorem dJ9_max_7cf53_6 : DC mJ9_max_7cf53 6 (.goto 4) 3 := by decide +kernel
theorem dJ9_max_7cf53_9 : DC mJ9_max_7cf53 9 (.iload_n 1) 1 := by decide +kernel
theorem dJ9_max_7cf53_10 : DC mJ9_max_7cf53 10 (.ireturn) 1 := by decide +kernel
theorem dJ9_min_7cf53_0 : DC mJ9_min_7cf53 0 (.iload_n 0) 1 := by decide +kernel
theorem dJ9_min_7cf53_1 : DC mJ9_min_7cf53 1 (.iload_n 1) 1 := by decide +kernel
theorem dJ9_min_7cf53_2 : DC mJ9_min_7cf53 2 (.if_icmp .gt 7) 3 := by decide +kernel
theorem dJ9_min_7cf53_5 : DC mJ9_min_7cf53 5 (.iload_n 0) 1 := by decide +kernel
theorem dJ9_min_7cf53_6 : DC mJ9_min_7cf53 6 (.goto 4) 3 := by decide +kernel
theorem dJ9_min_7cf53_9 : DC mJ9_min_7cf53 9 (.iload_n 1) 1 := by decide +kernel
theorem dJ9_min_7cf53_10 : DC mJ9_min_7cf53 10 (.ireturn) 1 := by decide +kernel
theorem dJ7_fill_53178_0 : DC mJ7_fill_53178 0 (.iconst 0) 1 := by decide +kernel
theorem dJ7_fill_53178_1 : DC mJ7_fill_53178 1 (.istore_n 2) 1 := by decide +kernel
theorem dJ7_fill_53178_2 : DC mJ7_fill_53178 2 (.aload_n 0) 1 := by decide +kernel
theorem dJ7_fill_53178_3 : DC mJ7_fill_53178 3 (.arraylength) 1 := by decide +kernel
theorem dJ7_fill_53178_4 : DC mJ7_fill_53178 4 (.istore_n 3) 1 := by decide +kernel
theorem dJ7_fill_53178_5 : DC mJ7_fill_53178 5 (.iload_n 2) 1 := by decide +kernel
theorem dJ7_fill_53178_6 : DC mJ7_fill_53178 6 (.iload_n 3) 1 := by decide +kernel
theorem dJ7_fill_53178_7 : DC mJ7_fill_53178 7 (.if_icmp .ge 13) 3 := by decide +kernel
theorem dJ7_fill_53178_10 : DC mJ7_fill_53178 10 (.aload_n 0) 1 := by decide +kernel
theorem dJ7_fill_53178_11 : DC mJ7_fill_53178 11 (.iload_n 2) 1 := by decide +kernel
theorem dJ7_fill_53178_12 : DC mJ7_fill_53178 12 (.iload_n 1) 1 := by decide +kernel
theorem dJ7_fill_53178_13 : DC mJ7_fill_53178 13 (.iastore) 1 := by decide +kernel
theorem dJ7_fill_53178_14 : DC mJ7_fill_53178 14 (.iinc 2 1) 3 := by decide +kernel
theorem dJ7_fill_53178_17 : DC mJ7_fill_53178 17 (.goto (-12)) 3 := by decide +kernel
theorem dJ7_fill_53178_20 : DC mJ7_fill_53178 20 (.return_) 1 := by decide +kernel
theorem dL_law_0 : DC mL_law 0 (.new 7) 3 := by decide +kernel
theorem dL_law_3 : DC mL_law 3 (.dup) 1 := by decide +kernel
theorem dL_law_4 : DC mL_law 4 (.invokespecial 9) 3 := by decide +kernel
theorem dL_law_7 : DC mL_law 7 (.astore_n 1) 1 := by decide +kernel
theorem dL_law_8 : DC mL_law 8 (.new 10) 3 := by decide +kernel
theorem dL_law_11 : DC mL_law 11 (.dup) 1 := by decide +kernel
theorem dL_law_12 : DC mL_law 12 (.invokespecial 12) 3 := by decide +kernel
theorem dL_law_15 : DC mL_law 15 (.astore_n 2) 1 := by decide +kernel
theorem dL_law_16 : DC mL_law 16 (.iconst 0) 1 := by decide +kernel
theorem dL_law_17 : DC mL_law 17 (.istore_n 3) 1 := by decide +kernel
theorem dL_law_18 : DC mL_law 18 (.iload_n 3) 1 := by decide +kernel
theorem dL_law_19 : DC mL_law 19 (.aload_n 0) 1 := by decide +kernel
theorem dL_law_20 : DC mL_law 20 (.arraylength) 1 := by decide +kernel
theorem dL_law_21 : DC mL_law 21 (.bipush 6) 2 := by decide +kernel
theorem dL_law_23 : DC mL_law 23 (.isub) 1 := by decide +kernel
theorem dL_law_24 : DC mL_law 24 (.if_icmp .gt 800) 3 := by decide +kernel
theorem dL_law_27 : DC mL_law 27 (.aload_n 0) 1 := by decide +kernel
theorem dL_law_28 : DC mL_law 28 (.iload_n 3) 1 := by decide +kernel
theorem dL_law_29 : DC mL_law 29 (.iaload) 1 := by decide +kernel
theorem dL_law_30 : DC mL_law 30 (.bipush 31) 2 := by decide +kernel
theorem dL_law_32 : DC mL_law 32 (.iand) 1 := by decide +kernel
theorem dL_law_33 : DC mL_law 33 (.tableswitch 785 0 18 #[91, 124, 167, 220, 253, 296, 329, 352, 385, 408, 431, 444, 494, 517, 550, 633, 696, 709, 732]) 91 := by decide +kernel
theorem dL_law_124 : DC mL_law 124 (.aload_n 1) 1 := by decide +kernel
theorem dL_law_125 : DC mL_law 125 (.aload_n 0) 1 := by decide +kernel
theorem dL_law_126 : DC mL_law 126 (.iload_n 3) 1 := by decide +kernel
theorem dL_law_127 : DC mL_law 127 (.iconst 1) 1 := by decide +kernel
theorem dL_law_128 : DC mL_law 128 (.iadd) 1 := by decide +kernel
theorem dL_law_129 : DC mL_law 129 (.iaload) 1 := by decide +kernel
theorem dL_law_130 : DC mL_law 130 (.aload_n 0) 1 := by decide +kernel
theorem dL_law_131 : DC mL_law 131 (.iload_n 3) 1 := by decide +kernel
theorem dL_law_132 : DC mL_law 132 (.iconst 2) 1 := by decide +kernel
theorem dL_law_133 : DC mL_law 133 (.iadd) 1 := by decide +kernel
theorem dL_law_134 : DC mL_law 134 (.iaload) 1 := by decide +kernel
theorem dL_law_135 : DC mL_law 135 (.invokevirtual 13) 3 := by decide +kernel
theorem dL_law_138 : DC mL_law 138 (.aload_n 2) 1 := by decide +kernel
theorem dL_law_139 : DC mL_law 139 (.aload_n 0) 1 := by decide +kernel
theorem dL_law_140 : DC mL_law 140 (.iload_n 3) 1 := by decide +kernel
theorem dL_law_141 : DC mL_law 141 (.iconst 1) 1 := by decide +kernel
theorem dL_law_142 : DC mL_law 142 (.iadd) 1 := by decide +kernel
theorem dL_law_143 : DC mL_law 143 (.iaload) 1 := by decide +kernel
theorem dL_law_144 : DC mL_law 144 (.aload_n 0) 1 := by decide +kernel
theorem dL_law_145 : DC mL_law 145 (.iload_n 3) 1 := by decide +kernel
theorem dL_law_146 : DC mL_law 146 (.iconst 2) 1 := by decide +kernel
theorem dL_law_147 : DC mL_law 147 (.iadd) 1 := by decide +kernel
theorem dL_law_148 : DC mL_law 148 (.iaload) 1 := by decide +kernel
theorem dL_law_149 : DC mL_law 149 (.invokevirtual 17) 3 := by decide +kernel
theorem dL_law_152 : DC mL_law 152 (.if_icmp .eq 666) 3 := by decide +kernel
theorem dL_law_155 : DC mL_law 155 (.iconst 0) 1 := by decide +kernel
theorem dL_law_156 : DC mL_law 156 (.ireturn) 1 := by decide +kernel
theorem dL_law_157 : DC mL_law 157 (.aload_n 1) 1 := by decide +kernel
theorem dL_law_158 : DC mL_law 158 (.aload_n 0) 1 := by decide +kernel
theorem dL_law_159 : DC mL_law 159 (.iload_n 3) 1 := by decide +kernel
theorem dL_law_160 : DC mL_law 160 (.iconst 1) 1 := by decide +kernel
theorem dL_law_161 : DC mL_law 161 (.iadd) 1 := by decide +kernel
theorem dL_law_162 : DC mL_law 162 (.iaload) 1 := by decide +kernel
theorem dL_law_163 : DC mL_law 163 (.aload_n 0) 1 := by decide +kernel
theorem dL_law_164 : DC mL_law 164 (.iload_n 3) 1 := by decide +kernel
theorem dL_law_165 : DC mL_law 165 (.iconst 2) 1 := by decide +kernel
theorem dL_law_166 : DC mL_law 166 (.iadd) 1 := by decide +kernel
theorem dL_law_167 : DC mL_law 167 (.iaload) 1 := by decide +kernel
theorem dL_law_168 : DC mL_law 168 (.aload_n 0) 1 := by decide +kernel
theorem dL_law_169 : DC mL_law 169 (.iload_n 3) 1 := by decide +kernel
theorem dL_law_170 : DC mL_law 170 (.iconst 3) 1 := by decide +kernel
theorem dL_law_171 : DC mL_law 171 (.iadd) 1 := by decide +kernel
theorem dL_law_172 : DC mL_law 172 (.iaload) 1 := by decide +kernel
theorem dL_law_173 : DC mL_law 173 (.invokevirtual 18) 3 := by decide +kernel
theorem dL_law_176 : DC mL_law 176 (.aload_n 2) 1 := by decide +kernel
theorem dL_law_177 : DC mL_law 177 (.aload_n 0) 1 := by decide +kernel
theorem dL_law_178 : DC mL_law 178 (.iload_n 3) 1 := by decide +kernel
theorem dL_law_179 : DC mL_law 179 (.iconst 1) 1 := by decide +kernel
theorem dL_law_180 : DC mL_law 180 (.iadd) 1 := by decide +kernel
theorem dL_law_181 : DC mL_law 181 (.iaload) 1 := by decide +kernel
theorem dL_law_182 : DC mL_law 182 (.aload_n 0) 1 := by decide +kernel
theorem dL_law_183 : DC mL_law 183 (.iload_n 3) 1 := by decide +kernel
theorem dL_law_184 : DC mL_law 184 (.iconst 2) 1 := by decide +kernel
theorem dL_law_185 : DC mL_law 185 (.iadd) 1 := by decide +kernel
theorem dL_law_186 : DC mL_law 186 (.iaload) 1 := by decide +kernel
theorem dL_law_187 : DC mL_law 187 (.aload_n 0) 1 := by decide +kernel
theorem dL_law_188 : DC mL_law 188 (.iload_n 3) 1 := by decide +kernel
theorem dL_law_189 : DC mL_law 189 (.iconst 3) 1 := by decide +kernel
theorem dL_law_190 : DC mL_law 190 (.iadd) 1 := by decide +kernel
theorem dL_law_191 : DC mL_law 191 (.iaload) 1 := by decide +kernel
theorem dL_law_192 : DC mL_law 192 (.invokevirtual 22) 3 := by decide +kernel
theorem dL_law_195 : DC mL_law 195 (.if_icmp .eq 623) 3 := by decide +kernel
theorem dL_law_198 : DC mL_law 198 (.iconst 0) 1 := by decide +kernel
theorem dL_law_199 : DC mL_law 199 (.ireturn) 1 := by decide +kernel
theorem dL_law_200 : DC mL_law 200 (.aload_n 1) 1 := by decide +kernel
theorem dL_law_201 : DC mL_law 201 (.aload_n 0) 1 := by decide +kernel
theorem dL_law_202 : DC mL_law 202 (.iload_n 3) 1 := by decide +kernel
theorem dL_law_203 : DC mL_law 203 (.iconst 1) 1 := by decide +kernel
theorem dL_law_204 : DC mL_law 204 (.iadd) 1 := by decide +kernel
theorem dL_law_205 : DC mL_law 205 (.iaload) 1 := by decide +kernel
theorem dL_law_206 : DC mL_law 206 (.aload_n 0) 1 := by decide +kernel
theorem dL_law_207 : DC mL_law 207 (.iload_n 3) 1 := by decide +kernel
theorem dL_law_208 : DC mL_law 208 (.iconst 2) 1 := by decide +kernel
theorem dL_law_209 : DC mL_law 209 (.iadd) 1 := by decide +kernel
theorem dL_law_210 : DC mL_law 210 (.iaload) 1 := by decide +kernel
theorem dL_law_211 : DC mL_law 211 (.aload_n 0) 1 := by decide +kernel
theorem dL_law_212 : DC mL_law 212 (.iload_n 3) 1 := by decide +kernel
theorem dL_law_213 : DC mL_law 213 (.iconst 3) 1 := by decide +kernel
theorem dL_law_214 : DC mL_law 214 (.iadd) 1 := by decide +kernel
theorem dL_law_215 : DC mL_law 215 (.iaload) 1 := by decide +kernel
theorem dL_law_216 : DC mL_law 216 (.aload_n 0) 1 := by decide +kernel
theorem dL_law_217 : DC mL_law 217 (.iload_n 3) 1 := by decide +kernel
theorem dL_law_218 : DC mL_law 218 (.iconst 4) 1 := by decide +kernel
theorem dL_law_219 : DC mL_law 219 (.iadd) 1 := by decide +kernel
theorem dL_law_220 : DC mL_law 220 (.iaload) 1 := by decide +kernel
theorem dL_law_221 : DC mL_law 221 (.invokevirtual 23) 3 := by decide +kernel
theorem dL_law_224 : DC mL_law 224 (.aload_n 2) 1 := by decide +kernel
theorem dL_law_225 : DC mL_law 225 (.aload_n 0) 1 := by decide +kernel
theorem dL_law_226 : DC mL_law 226 (.iload_n 3) 1 := by decide +kernel
theorem dL_law_227 : DC mL_law 227 (.iconst 1) 1 := by decide +kernel
theorem dL_law_228 : DC mL_law 228 (.iadd) 1 := by decide +kernel
theorem dL_law_229 : DC mL_law 229 (.iaload) 1 := by decide +kernel
theorem dL_law_230 : DC mL_law 230 (.aload_n 0) 1 := by decide +kernel
theorem dL_law_231 : DC mL_law 231 (.iload_n 3) 1 := by decide +kernel
theorem dL_law_232 : DC mL_law 232 (.iconst 2) 1 := by decide +kernel
theorem dL_law_233 : DC mL_law 233 (.iadd) 1 := by decide +kernel
theorem dL_law_234 : DC mL_law 234 (.iaload) 1 := by decide +kernel
theorem dL_law_235 : DC mL_law 235 (.aload_n 0) 1 := by decide +kernel
theorem dL_law_236 : DC mL_law 236 (.iload_n 3) 1 := by decide +kernel
theorem dL_law_237 : DC mL_law 237 (.iconst 3) 1 := by decide +kernel
theorem dL_law_238 : DC mL_law 238 (.iadd) 1 := by decide +kernel
theorem dL_law_239 : DC mL_law 239 (.iaload) 1 := by decide +kernel
theorem dL_law_240 : DC mL_law 240 (.aload_n 0) 1 := by decide +kernel
theorem dL_law_241 : DC mL_law 241 (.iload_n 3) 1 := by decide +kernel
theorem dL_law_242 : DC mL_law 242 (.iconst 4) 1 := by decide +kernel
theorem dL_law_243 : DC mL_law 243 (.iadd) 1 := by decide +kernel
theorem dL_law_244 : DC mL_law 244 (.iaload) 1 := by decide +kernel
theorem dL_law_245 : DC mL_law 245 (.invokevirtual 27) 3 := by decide +kernel
theorem dL_law_248 : DC mL_law 248 (.if_icmp .eq 570) 3 := by decide +kernel
theorem dL_law_251 : DC mL_law 251 (.iconst 0) 1 := by decide +kernel
theorem dL_law_252 : DC mL_law 252 (.ireturn) 1 := by decide +kernel
theorem dL_law_253 : DC mL_law 253 (.aload_n 1) 1 := by decide +kernel
theorem dL_law_254 : DC mL_law 254 (.aload_n 0) 1 := by decide +kernel
theorem dL_law_255 : DC mL_law 255 (.iload_n 3) 1 := by decide +kernel
theorem dL_law_256 : DC mL_law 256 (.iconst 1) 1 := by decide +kernel
theorem dL_law_257 : DC mL_law 257 (.iadd) 1 := by decide +kernel
theorem dL_law_258 : DC mL_law 258 (.iaload) 1 := by decide +kernel
theorem dL_law_259 : DC mL_law 259 (.aload_n 0) 1 := by decide +kernel
theorem dL_law_260 : DC mL_law 260 (.iload_n 3) 1 := by decide +kernel
theorem dL_law_261 : DC mL_law 261 (.iconst 2) 1 := by decide +kernel
theorem dL_law_262 : DC mL_law 262 (.iadd) 1 := by decide +kernel
theorem dL_law_263 : DC mL_law 263 (.iaload) 1 := by decide +kernel
theorem dL_law_264 : DC mL_law 264 (.invokevirtual 28) 3 := by decide +kernel
theorem dL_law_267 : DC mL_law 267 (.aload_n 2) 1 := by decide +kernel
theorem dL_law_268 : DC mL_law 268 (.aload_n 0) 1 := by decide +kernel
theorem dL_law_269 : DC mL_law 269 (.iload_n 3) 1 := by decide +kernel
theorem dL_law_270 : DC mL_law 270 (.iconst 1) 1 := by decide +kernel
theorem dL_law_271 : DC mL_law 271 (.iadd) 1 := by decide +kernel
theorem dL_law_272 : DC mL_law 272 (.iaload) 1 := by decide +kernel
theorem dL_law_273 : DC mL_law 273 (.aload_n 0) 1 := by decide +kernel
theorem dL_law_274 : DC mL_law 274 (.iload_n 3) 1 := by decide +kernel
theorem dL_law_275 : DC mL_law 275 (.iconst 2) 1 := by decide +kernel
theorem dL_law_276 : DC mL_law 276 (.iadd) 1 := by decide +kernel
theorem dL_law_277 : DC mL_law 277 (.iaload) 1 := by decide +kernel
theorem dL_law_278 : DC mL_law 278 (.invokevirtual 31) 3 := by decide +kernel
theorem dL_law_281 : DC mL_law 281 (.if_icmp .eq 537) 3 := by decide +kernel
theorem dL_law_284 : DC mL_law 284 (.iconst 0) 1 := by decide +kernel
theorem dL_law_285 : DC mL_law 285 (.ireturn) 1 := by decide +kernel
theorem dL_law_286 : DC mL_law 286 (.aload_n 1) 1 := by decide +kernel
theorem dL_law_287 : DC mL_law 287 (.aload_n 0) 1 := by decide +kernel
theorem dL_law_288 : DC mL_law 288 (.iload_n 3) 1 := by decide +kernel
theorem dL_law_289 : DC mL_law 289 (.iconst 1) 1 := by decide +kernel
theorem dL_law_290 : DC mL_law 290 (.iadd) 1 := by decide +kernel
theorem dL_law_291 : DC mL_law 291 (.iaload) 1 := by decide +kernel
theorem dL_law_292 : DC mL_law 292 (.aload_n 0) 1 := by decide +kernel
theorem dL_law_293 : DC mL_law 293 (.iload_n 3) 1 := by decide +kernel
theorem dL_law_294 : DC mL_law 294 (.iconst 2) 1 := by decide +kernel
theorem dL_law_295 : DC mL_law 295 (.iadd) 1 := by decide +kernel
theorem dL_law_296 : DC mL_law 296 (.iaload) 1 := by decide +kernel
theorem dL_law_297 : DC mL_law 297 (.aload_n 0) 1 := by decide +kernel
theorem dL_law_298 : DC mL_law 298 (.iload_n 3) 1 := by decide +kernel
theorem dL_law_299 : DC mL_law 299 (.iconst 3) 1 := by decide +kernel
theorem dL_law_300 : DC mL_law 300 (.iadd) 1 := by decide +kernel
theorem dL_law_301 : DC mL_law 301 (.iaload) 1 := by decide +kernel
theorem dL_law_302 : DC mL_law 302 (.invokevirtual 32) 3 := by decide +kernel
theorem dL_law_305 : DC mL_law 305 (.aload_n 2) 1 := by decide +kernel
theorem dL_law_306 : DC mL_law 306 (.aload_n 0) 1 := by decide +kernel
theorem dL_law_307 : DC mL_law 307 (.iload_n 3) 1 := by decide +kernel
theorem dL_law_308 : DC mL_law 308 (.iconst 1) 1 := by decide +kernel
theorem dL_law_309 : DC mL_law 309 (.iadd) 1 := by decide +kernel
theorem dL_law_310 : DC mL_law 310 (.iaload) 1 := by decide +kernel
theorem dL_law_311 : DC mL_law 311 (.aload_n 0) 1 := by decide +kernel
theorem dL_law_312 : DC mL_law 312 (.iload_n 3) 1 := by decide +kernel
theorem dL_law_313 : DC mL_law 313 (.iconst 2) 1 := by decide +kernel
theorem dL_law_314 : DC mL_law 314 (.iadd) 1 := by decide +kernel
theorem dL_law_315 : DC mL_law 315 (.iaload) 1 := by decide +kernel
theorem dL_law_316 : DC mL_law 316 (.aload_n 0) 1 := by decide +kernel
theorem dL_law_317 : DC mL_law 317 (.iload_n 3) 1 := by decide +kernel
theorem dL_law_318 : DC mL_law 318 (.iconst 3) 1 := by decide +kernel
theorem dL_law_319 : DC mL_law 319 (.iadd) 1 := by decide +kernel
theorem dL_law_320 : DC mL_law 320 (.iaload) 1 := by decide +kernel
theorem dL_law_321 : DC mL_law 321 (.invokevirtual 35) 3 := by decide +kernel
theorem dL_law_324 : DC mL_law 324 (.if_icmp .eq 494) 3 := by decide +kernel
theorem dL_law_327 : DC mL_law 327 (.iconst 0) 1 := by decide +kernel
theorem dL_law_328 : DC mL_law 328 (.ireturn) 1 := by decide +kernel
theorem dL_law_329 : DC mL_law 329 (.aload_n 1) 1 := by decide +kernel
theorem dL_law_330 : DC mL_law 330 (.aload_n 0) 1 := by decide +kernel
theorem dL_law_331 : DC mL_law 331 (.iload_n 3) 1 := by decide +kernel
theorem dL_law_332 : DC mL_law 332 (.iconst 1) 1 := by decide +kernel
theorem dL_law_333 : DC mL_law 333 (.iadd) 1 := by decide +kernel
theorem dL_law_334 : DC mL_law 334 (.iaload) 1 := by decide +kernel
theorem dL_law_335 : DC mL_law 335 (.aload_n 0) 1 := by decide +kernel
theorem dL_law_336 : DC mL_law 336 (.iload_n 3) 1 := by decide +kernel
theorem dL_law_337 : DC mL_law 337 (.iconst 2) 1 := by decide +kernel
theorem dL_law_338 : DC mL_law 338 (.iadd) 1 := by decide +kernel
theorem dL_law_339 : DC mL_law 339 (.iaload) 1 := by decide +kernel
theorem dL_law_340 : DC mL_law 340 (.invokevirtual 36) 3 := by decide +kernel
theorem dL_law_343 : DC mL_law 343 (.aload_n 2) 1 := by decide +kernel
theorem dL_law_344 : DC mL_law 344 (.aload_n 0) 1 := by decide +kernel
theorem dL_law_345 : DC mL_law 345 (.iload_n 3) 1 := by decide +kernel
theorem dL_law_346 : DC mL_law 346 (.iconst 1) 1 := by decide +kernel
theorem dL_law_347 : DC mL_law 347 (.iadd) 1 := by decide +kernel
theorem dL_law_348 : DC mL_law 348 (.iaload) 1 := by decide +kernel
theorem dL_law_349 : DC mL_law 349 (.aload_n 0) 1 := by decide +kernel
theorem dL_law_350 : DC mL_law 350 (.iload_n 3) 1 := by decide +kernel
theorem dL_law_351 : DC mL_law 351 (.iconst 2) 1 := by decide +kernel
theorem dL_law_352 : DC mL_law 352 (.iadd) 1 := by decide +kernel
theorem dL_law_353 : DC mL_law 353 (.iaload) 1 := by decide +kernel
theorem dL_law_354 : DC mL_law 354 (.invokevirtual 39) 3 := by decide +kernel
theorem dL_law_357 : DC mL_law 357 (.if_icmp .eq 461) 3 := by decide +kernel
theorem dL_law_360 : DC mL_law 360 (.iconst 0) 1 := by decide +kernel
theorem dL_law_361 : DC mL_law 361 (.ireturn) 1 := by decide +kernel
theorem dL_law_362 : DC mL_law 362 (.aload_n 1) 1 := by decide +kernel
theorem dL_law_363 : DC mL_law 363 (.aload_n 0) 1 := by decide +kernel
theorem dL_law_364 : DC mL_law 364 (.iload_n 3) 1 := by decide +kernel
theorem dL_law_365 : DC mL_law 365 (.iconst 1) 1 := by decide +kernel
theorem dL_law_366 : DC mL_law 366 (.iadd) 1 := by decide +kernel
theorem dL_law_367 : DC mL_law 367 (.iaload) 1 := by decide +kernel
theorem dL_law_368 : DC mL_law 368 (.invokevirtual 40) 3 := by decide +kernel
theorem dL_law_371 : DC mL_law 371 (.aload_n 2) 1 := by decide +kernel
theorem dL_law_372 : DC mL_law 372 (.aload_n 0) 1 := by decide +kernel
theorem dL_law_373 : DC mL_law 373 (.iload_n 3) 1 := by decide +kernel
theorem dL_law_374 : DC mL_law 374 (.iconst 1) 1 := by decide +kernel
theorem dL_law_375 : DC mL_law 375 (.iadd) 1 := by decide +kernel
theorem dL_law_376 : DC mL_law 376 (.iaload) 1 := by decide +kernel
theorem dL_law_377 : DC mL_law 377 (.invokevirtual 44) 3 := by decide +kernel
theorem dL_law_380 : DC mL_law 380 (.if_icmp .eq 438) 3 := by decide +kernel
theorem dL_law_383 : DC mL_law 383 (.iconst 0) 1 := by decide +kernel
theorem dL_law_384 : DC mL_law 384 (.ireturn) 1 := by decide +kernel
theorem dL_law_385 : DC mL_law 385 (.aload_n 1) 1 := by decide +kernel
theorem dL_law_386 : DC mL_law 386 (.aload_n 0) 1 := by decide +kernel
theorem dL_law_387 : DC mL_law 387 (.iload_n 3) 1 := by decide +kernel
theorem dL_law_388 : DC mL_law 388 (.iconst 1) 1 := by decide +kernel
theorem dL_law_389 : DC mL_law 389 (.iadd) 1 := by decide +kernel
theorem dL_law_390 : DC mL_law 390 (.iaload) 1 := by decide +kernel
theorem dL_law_391 : DC mL_law 391 (.aload_n 0) 1 := by decide +kernel
theorem dL_law_392 : DC mL_law 392 (.iload_n 3) 1 := by decide +kernel
theorem dL_law_393 : DC mL_law 393 (.iconst 2) 1 := by decide +kernel
theorem dL_law_394 : DC mL_law 394 (.iadd) 1 := by decide +kernel
theorem dL_law_395 : DC mL_law 395 (.iaload) 1 := by decide +kernel
theorem dL_law_396 : DC mL_law 396 (.invokevirtual 45) 3 := by decide +kernel
theorem dL_law_399 : DC mL_law 399 (.aload_n 2) 1 := by decide +kernel
theorem dL_law_400 : DC mL_law 400 (.aload_n 0) 1 := by decide +kernel
theorem dL_law_401 : DC mL_law 401 (.iload_n 3) 1 := by decide +kernel
theorem dL_law_402 : DC mL_law 402 (.iconst 1) 1 := by decide +kernel
theorem dL_law_403 : DC mL_law 403 (.iadd) 1 := by decide +kernel
theorem dL_law_404 : DC mL_law 404 (.iaload) 1 := by decide +kernel
theorem dL_law_405 : DC mL_law 405 (.aload_n 0) 1 := by decide +kernel
theorem dL_law_406 : DC mL_law 406 (.iload_n 3) 1 := by decide +kernel
theorem dL_law_407 : DC mL_law 407 (.iconst 2) 1 := by decide +kernel
theorem dL_law_408 : DC mL_law 408 (.iadd) 1 := by decide +kernel
theorem dL_law_409 : DC mL_law 409 (.iaload) 1 := by decide +kernel
theorem dL_law_410 : DC mL_law 410 (.invokevirtual 48) 3 := by decide +kernel
theorem dL_law_413 : DC mL_law 413 (.if_icmp .eq 405) 3 := by decide +kernel
theorem dL_law_416 : DC mL_law 416 (.iconst 0) 1 := by decide +kernel
theorem dL_law_417 : DC mL_law 417 (.ireturn) 1 := by decide +kernel
theorem dL_law_418 : DC mL_law 418 (.aload_n 1) 1 := by decide +kernel
theorem dL_law_419 : DC mL_law 419 (.aload_n 0) 1 := by decide +kernel
theorem dL_law_420 : DC mL_law 420 (.iload_n 3) 1 := by decide +kernel
theorem dL_law_421 : DC mL_law 421 (.iconst 1) 1 := by decide +kernel
theorem dL_law_422 : DC mL_law 422 (.iadd) 1 := by decide +kernel
theorem dL_law_423 : DC mL_law 423 (.iaload) 1 := by decide +kernel
theorem dL_law_424 : DC mL_law 424 (.invokevirtual 49) 3 := by decide +kernel
theorem dL_law_427 : DC mL_law 427 (.aload_n 2) 1 := by decide +kernel
theorem dL_law_428 : DC mL_law 428 (.aload_n 0) 1 := by decide +kernel
theorem dL_law_429 : DC mL_law 429 (.iload_n 3) 1 := by decide +kernel
theorem dL_law_430 : DC mL_law 430 (.iconst 1) 1 := by decide +kernel
theorem dL_law_431 : DC mL_law 431 (.iadd) 1 := by decide +kernel
theorem dL_law_432 : DC mL_law 432 (.iaload) 1 := by decide +kernel
theorem dL_law_433 : DC mL_law 433 (.invokevirtual 52) 3 := by decide +kernel
theorem dL_law_436 : DC mL_law 436 (.if_icmp .eq 382) 3 := by decide +kernel
theorem dL_law_439 : DC mL_law 439 (.iconst 0) 1 := by decide +kernel
theorem dL_law_440 : DC mL_law 440 (.ireturn) 1 := by decide +kernel
theorem dL_law_441 : DC mL_law 441 (.aload_n 1) 1 := by decide +kernel
theorem dL_law_442 : DC mL_law 442 (.aload_n 0) 1 := by decide +kernel
theorem dL_law_443 : DC mL_law 443 (.iload_n 3) 1 := by decide +kernel
theorem dL_law_444 : DC mL_law 444 (.iconst 1) 1 := by decide +kernel
theorem dL_law_445 : DC mL_law 445 (.iadd) 1 := by decide +kernel
theorem dL_law_446 : DC mL_law 446 (.iaload) 1 := by decide +kernel
theorem dL_law_447 : DC mL_law 447 (.invokevirtual 53) 3 := by decide +kernel
theorem dL_law_450 : DC mL_law 450 (.aload_n 2) 1 := by decide +kernel
theorem dL_law_451 : DC mL_law 451 (.aload_n 0) 1 := by decide +kernel
theorem dL_law_452 : DC mL_law 452 (.iload_n 3) 1 := by decide +kernel
theorem dL_law_453 : DC mL_law 453 (.iconst 1) 1 := by decide +kernel
theorem dL_law_454 : DC mL_law 454 (.iadd) 1 := by decide +kernel
theorem dL_law_455 : DC mL_law 455 (.iaload) 1 := by decide +kernel
theorem dL_law_456 : DC mL_law 456 (.invokevirtual 56) 3 := by decide +kernel
theorem dL_law_459 : DC mL_law 459 (.if_icmp .eq 359) 3 := by decide +kernel
theorem dL_law_462 : DC mL_law 462 (.iconst 0) 1 := by decide +kernel
theorem dL_law_463 : DC mL_law 463 (.ireturn) 1 := by decide +kernel
theorem dL_law_464 : DC mL_law 464 (.aload_n 1) 1 := by decide +kernel
theorem dL_law_465 : DC mL_law 465 (.invokevirtual 57) 3 := by decide +kernel
theorem dL_law_468 : DC mL_law 468 (.aload_n 2) 1 := by decide +kernel
theorem dL_law_469 : DC mL_law 469 (.invokevirtual 61) 3 := by decide +kernel
theorem dL_law_472 : DC mL_law 472 (.if_icmp .eq 346) 3 := by decide +kernel
theorem dL_law_475 : DC mL_law 475 (.iconst 0) 1 := by decide +kernel
theorem dL_law_476 : DC mL_law 476 (.ireturn) 1 := by decide +kernel
theorem dL_law_477 : DC mL_law 477 (.aload_n 1) 1 := by decide +kernel
theorem dL_law_478 : DC mL_law 478 (.aload_n 0) 1 := by decide +kernel
theorem dL_law_479 : DC mL_law 479 (.iload_n 3) 1 := by decide +kernel
theorem dL_law_480 : DC mL_law 480 (.iconst 1) 1 := by decide +kernel
theorem dL_law_481 : DC mL_law 481 (.iadd) 1 := by decide +kernel
theorem dL_law_482 : DC mL_law 482 (.iaload) 1 := by decide +kernel
theorem dL_law_483 : DC mL_law 483 (.aload_n 0) 1 := by decide +kernel
theorem dL_law_484 : DC mL_law 484 (.iload_n 3) 1 := by decide +kernel
theorem dL_law_485 : DC mL_law 485 (.iconst 2) 1 := by decide +kernel
theorem dL_law_486 : DC mL_law 486 (.iadd) 1 := by decide +kernel
theorem dL_law_487 : DC mL_law 487 (.iaload) 1 := by decide +kernel
theorem dL_law_488 : DC mL_law 488 (.ifCond .eq 7) 3 := by decide +kernel
theorem dL_law_491 : DC mL_law 491 (.iconst 1) 1 := by decide +kernel
theorem dL_law_492 : DC mL_law 492 (.goto 4) 3 := by decide +kernel
theorem dL_law_495 : DC mL_law 495 (.iconst 0) 1 := by decide +kernel
theorem dL_law_496 : DC mL_law 496 (.invokevirtual 62) 3 := by decide +kernel
theorem dL_law_499 : DC mL_law 499 (.aload_n 2) 1 := by decide +kernel
theorem dL_law_500 : DC mL_law 500 (.aload_n 0) 1 := by decide +kernel
theorem dL_law_501 : DC mL_law 501 (.iload_n 3) 1 := by decide +kernel
theorem dL_law_502 : DC mL_law 502 (.iconst 1) 1 := by decide +kernel
theorem dL_law_503 : DC mL_law 503 (.iadd) 1 := by decide +kernel
theorem dL_law_504 : DC mL_law 504 (.iaload) 1 := by decide +kernel
theorem dL_law_505 : DC mL_law 505 (.aload_n 0) 1 := by decide +kernel
theorem dL_law_506 : DC mL_law 506 (.iload_n 3) 1 := by decide +kernel
theorem dL_law_507 : DC mL_law 507 (.iconst 2) 1 := by decide +kernel
theorem dL_law_508 : DC mL_law 508 (.iadd) 1 := by decide +kernel
theorem dL_law_509 : DC mL_law 509 (.iaload) 1 := by decide +kernel
theorem dL_law_510 : DC mL_law 510 (.ifCond .eq 7) 3 := by decide +kernel
theorem dL_law_513 : DC mL_law 513 (.iconst 1) 1 := by decide +kernel
theorem dL_law_514 : DC mL_law 514 (.goto 4) 3 := by decide +kernel
theorem dL_law_517 : DC mL_law 517 (.iconst 0) 1 := by decide +kernel
theorem dL_law_518 : DC mL_law 518 (.invokevirtual 66) 3 := by decide +kernel
theorem dL_law_521 : DC mL_law 521 (.lcmp) 1 := by decide +kernel
theorem dL_law_522 : DC mL_law 522 (.ifCond .eq 296) 3 := by decide +kernel
theorem dL_law_525 : DC mL_law 525 (.iconst 0) 1 := by decide +kernel
theorem dL_law_526 : DC mL_law 526 (.ireturn) 1 := by decide +kernel
theorem dL_law_527 : DC mL_law 527 (.aload_n 1) 1 := by decide +kernel
theorem dL_law_528 : DC mL_law 528 (.aload_n 0) 1 := by decide +kernel
theorem dL_law_529 : DC mL_law 529 (.iload_n 3) 1 := by decide +kernel
theorem dL_law_530 : DC mL_law 530 (.iconst 1) 1 := by decide +kernel
theorem dL_law_531 : DC mL_law 531 (.iadd) 1 := by decide +kernel
theorem dL_law_532 : DC mL_law 532 (.iaload) 1 := by decide +kernel
theorem dL_law_533 : DC mL_law 533 (.invokevirtual 67) 3 := by decide +kernel
theorem dL_law_536 : DC mL_law 536 (.aload_n 2) 1 := by decide +kernel
theorem dL_law_537 : DC mL_law 537 (.aload_n 0) 1 := by decide +kernel
theorem dL_law_538 : DC mL_law 538 (.iload_n 3) 1 := by decide +kernel
theorem dL_law_539 : DC mL_law 539 (.iconst 1) 1 := by decide +kernel
theorem dL_law_540 : DC mL_law 540 (.iadd) 1 := by decide +kernel
theorem dL_law_541 : DC mL_law 541 (.iaload) 1 := by decide +kernel
theorem dL_law_542 : DC mL_law 542 (.invokevirtual 70) 3 := by decide +kernel
theorem dL_law_545 : DC mL_law 545 (.if_icmp .eq 273) 3 := by decide +kernel
theorem dL_law_548 : DC mL_law 548 (.iconst 0) 1 := by decide +kernel
theorem dL_law_549 : DC mL_law 549 (.ireturn) 1 := by decide +kernel
theorem dL_law_550 : DC mL_law 550 (.aload_n 1) 1 := by decide +kernel
theorem dL_law_551 : DC mL_law 551 (.aload_n 0) 1 := by decide +kernel
theorem dL_law_552 : DC mL_law 552 (.iload_n 3) 1 := by decide +kernel
theorem dL_law_553 : DC mL_law 553 (.iconst 1) 1 := by decide +kernel
theorem dL_law_554 : DC mL_law 554 (.iadd) 1 := by decide +kernel
theorem dL_law_555 : DC mL_law 555 (.iaload) 1 := by decide +kernel
theorem dL_law_556 : DC mL_law 556 (.aload_n 0) 1 := by decide +kernel
theorem dL_law_557 : DC mL_law 557 (.iload_n 3) 1 := by decide +kernel
theorem dL_law_558 : DC mL_law 558 (.iconst 2) 1 := by decide +kernel
theorem dL_law_559 : DC mL_law 559 (.iadd) 1 := by decide +kernel
theorem dL_law_560 : DC mL_law 560 (.iaload) 1 := by decide +kernel
theorem dL_law_561 : DC mL_law 561 (.invokevirtual 71) 3 := by decide +kernel
theorem dL_law_564 : DC mL_law 564 (.aload_n 2) 1 := by decide +kernel
theorem dL_law_565 : DC mL_law 565 (.aload_n 0) 1 := by decide +kernel
theorem dL_law_566 : DC mL_law 566 (.iload_n 3) 1 := by decide +kernel
theorem dL_law_567 : DC mL_law 567 (.iconst 1) 1 := by decide +kernel
theorem dL_law_568 : DC mL_law 568 (.iadd) 1 := by decide +kernel
theorem dL_law_569 : DC mL_law 569 (.iaload) 1 := by decide +kernel
theorem dL_law_570 : DC mL_law 570 (.aload_n 0) 1 := by decide +kernel
theorem dL_law_571 : DC mL_law 571 (.iload_n 3) 1 := by decide +kernel
theorem dL_law_572 : DC mL_law 572 (.iconst 2) 1 := by decide +kernel
theorem dL_law_573 : DC mL_law 573 (.iadd) 1 := by decide +kernel
theorem dL_law_574 : DC mL_law 574 (.iaload) 1 := by decide +kernel
theorem dL_law_575 : DC mL_law 575 (.invokevirtual 74) 3 := by decide +kernel
theorem dL_law_578 : DC mL_law 578 (.if_icmp .eq 240) 3 := by decide +kernel
theorem dL_law_581 : DC mL_law 581 (.iconst 0) 1 := by decide +kernel
theorem dL_law_582 : DC mL_law 582 (.ireturn) 1 := by decide +kernel
theorem dL_law_583 : DC mL_law 583 (.aload_n 1) 1 := by decide +kernel
theorem dL_law_584 : DC mL_law 584 (.aload_n 0) 1 := by decide +kernel
theorem dL_law_585 : DC mL_law 585 (.iload_n 3) 1 := by decide +kernel
theorem dL_law_586 : DC mL_law 586 (.iconst 1) 1 := by decide +kernel
theorem dL_law_587 : DC mL_law 587 (.iadd) 1 := by decide +kernel
theorem dL_law_588 : DC mL_law 588 (.iaload) 1 := by decide +kernel
theorem dL_law_589 : DC mL_law 589 (.i2l) 1 := by decide +kernel
theorem dL_law_590 : DC mL_law 590 (.bipush 32) 2 := by decide +kernel
theorem dL_law_592 : DC mL_law 592 (.lshl) 1 := by decide +kernel
theorem dL_law_593 : DC mL_law 593 (.aload_n 0) 1 := by decide +kernel
theorem dL_law_594 : DC mL_law 594 (.iload_n 3) 1 := by decide +kernel
theorem dL_law_595 : DC mL_law 595 (.iconst 2) 1 := by decide +kernel
theorem dL_law_596 : DC mL_law 596 (.iadd) 1 := by decide +kernel
theorem dL_law_597 : DC mL_law 597 (.iaload) 1 := by decide +kernel
theorem dL_law_598 : DC mL_law 598 (.i2l) 1 := by decide +kernel
theorem dL_law_599 : DC mL_law 599 (.ldc2_w 75) 3 := by decide +kernel
theorem dL_law_602 : DC mL_law 602 (.land) 1 := by decide +kernel
theorem dL_law_603 : DC mL_law 603 (.lor) 1 := by decide +kernel
theorem dL_law_604 : DC mL_law 604 (.aload_n 0) 1 := by decide +kernel
theorem dL_law_605 : DC mL_law 605 (.iload_n 3) 1 := by decide +kernel
theorem dL_law_606 : DC mL_law 606 (.iconst 3) 1 := by decide +kernel
theorem dL_law_607 : DC mL_law 607 (.iadd) 1 := by decide +kernel
theorem dL_law_608 : DC mL_law 608 (.iaload) 1 := by decide +kernel
theorem dL_law_609 : DC mL_law 609 (.aload_n 0) 1 := by decide +kernel
theorem dL_law_610 : DC mL_law 610 (.iload_n 3) 1 := by decide +kernel
theorem dL_law_611 : DC mL_law 611 (.iconst 4) 1 := by decide +kernel
theorem dL_law_612 : DC mL_law 612 (.iadd) 1 := by decide +kernel
theorem dL_law_613 : DC mL_law 613 (.iaload) 1 := by decide +kernel
theorem dL_law_614 : DC mL_law 614 (.aload_n 0) 1 := by decide +kernel
theorem dL_law_615 : DC mL_law 615 (.iload_n 3) 1 := by decide +kernel
theorem dL_law_616 : DC mL_law 616 (.iconst 5) 1 := by decide +kernel
theorem dL_law_617 : DC mL_law 617 (.iadd) 1 := by decide +kernel
theorem dL_law_618 : DC mL_law 618 (.iaload) 1 := by decide +kernel
theorem dL_law_619 : DC mL_law 619 (.invokevirtual 77) 3 := by decide +kernel
theorem dL_law_622 : DC mL_law 622 (.aload_n 2) 1 := by decide +kernel
theorem dL_law_623 : DC mL_law 623 (.aload_n 0) 1 := by decide +kernel
theorem dL_law_624 : DC mL_law 624 (.iload_n 3) 1 := by decide +kernel
theorem dL_law_625 : DC mL_law 625 (.iconst 1) 1 := by decide +kernel
theorem dL_law_626 : DC mL_law 626 (.iadd) 1 := by decide +kernel
theorem dL_law_627 : DC mL_law 627 (.iaload) 1 := by decide +kernel
theorem dL_law_628 : DC mL_law 628 (.i2l) 1 := by decide +kernel
theorem dL_law_629 : DC mL_law 629 (.bipush 32) 2 := by decide +kernel
theorem dL_law_631 : DC mL_law 631 (.lshl) 1 := by decide +kernel
theorem dL_law_632 : DC mL_law 632 (.aload_n 0) 1 := by decide +kernel
theorem dL_law_633 : DC mL_law 633 (.iload_n 3) 1 := by decide +kernel
theorem dL_law_634 : DC mL_law 634 (.iconst 2) 1 := by decide +kernel
theorem dL_law_635 : DC mL_law 635 (.iadd) 1 := by decide +kernel
theorem dL_law_636 : DC mL_law 636 (.iaload) 1 := by decide +kernel
theorem dL_law_637 : DC mL_law 637 (.i2l) 1 := by decide +kernel
theorem dL_law_638 : DC mL_law 638 (.ldc2_w 75) 3 := by decide +kernel
theorem dL_law_641 : DC mL_law 641 (.land) 1 := by decide +kernel
theorem dL_law_642 : DC mL_law 642 (.lor) 1 := by decide +kernel
theorem dL_law_643 : DC mL_law 643 (.aload_n 0) 1 := by decide +kernel
theorem dL_law_644 : DC mL_law 644 (.iload_n 3) 1 := by decide +kernel
theorem dL_law_645 : DC mL_law 645 (.iconst 3) 1 := by decide +kernel
theorem dL_law_646 : DC mL_law 646 (.iadd) 1 := by decide +kernel
theorem dL_law_647 : DC mL_law 647 (.iaload) 1 := by decide +kernel
theorem dL_law_648 : DC mL_law 648 (.aload_n 0) 1 := by decide +kernel
theorem dL_law_649 : DC mL_law 649 (.iload_n 3) 1 := by decide +kernel
theorem dL_law_650 : DC mL_law 650 (.iconst 4) 1 := by decide +kernel
theorem dL_law_651 : DC mL_law 651 (.iadd) 1 := by decide +kernel
theorem dL_law_652 : DC mL_law 652 (.iaload) 1 := by decide +kernel
theorem dL_law_653 : DC mL_law 653 (.aload_n 0) 1 := by decide +kernel
theorem dL_law_654 : DC mL_law 654 (.iload_n 3) 1 := by decide +kernel
theorem dL_law_655 : DC mL_law 655 (.iconst 5) 1 := by decide +kernel
theorem dL_law_656 : DC mL_law 656 (.iadd) 1 := by decide +kernel
theorem dL_law_657 : DC mL_law 657 (.iaload) 1 := by decide +kernel
theorem dL_law_658 : DC mL_law 658 (.invokevirtual 81) 3 := by decide +kernel
theorem dL_law_661 : DC mL_law 661 (.if_icmp .eq 157) 3 := by decide +kernel
theorem dL_law_664 : DC mL_law 664 (.iconst 0) 1 := by decide +kernel
theorem dL_law_665 : DC mL_law 665 (.ireturn) 1 := by decide +kernel
theorem dL_law_666 : DC mL_law 666 (.aload_n 1) 1 := by decide +kernel
theorem dL_law_667 : DC mL_law 667 (.aload_n 0) 1 := by decide +kernel
theorem dL_law_668 : DC mL_law 668 (.iload_n 3) 1 := by decide +kernel
theorem dL_law_669 : DC mL_law 669 (.iconst 1) 1 := by decide +kernel
theorem dL_law_670 : DC mL_law 670 (.iadd) 1 := by decide +kernel
theorem dL_law_671 : DC mL_law 671 (.iaload) 1 := by decide +kernel
theorem dL_law_672 : DC mL_law 672 (.aload_n 0) 1 := by decide +kernel
theorem dL_law_673 : DC mL_law 673 (.iload_n 3) 1 := by decide +kernel
theorem dL_law_674 : DC mL_law 674 (.iconst 2) 1 := by decide +kernel
theorem dL_law_675 : DC mL_law 675 (.iadd) 1 := by decide +kernel
theorem dL_law_676 : DC mL_law 676 (.iaload) 1 := by decide +kernel
theorem dL_law_677 : DC mL_law 677 (.i2l) 1 := by decide +kernel
theorem dL_law_678 : DC mL_law 678 (.bipush 32) 2 := by decide +kernel
theorem dL_law_680 : DC mL_law 680 (.lshl) 1 := by decide +kernel
theorem dL_law_681 : DC mL_law 681 (.aload_n 0) 1 := by decide +kernel
theorem dL_law_682 : DC mL_law 682 (.iload_n 3) 1 := by decide +kernel
theorem dL_law_683 : DC mL_law 683 (.iconst 3) 1 := by decide +kernel
theorem dL_law_684 : DC mL_law 684 (.iadd) 1 := by decide +kernel
theorem dL_law_685 : DC mL_law 685 (.iaload) 1 := by decide +kernel
theorem dL_law_686 : DC mL_law 686 (.i2l) 1 := by decide +kernel
theorem dL_law_687 : DC mL_law 687 (.ldc2_w 75) 3 := by decide +kernel
theorem dL_law_690 : DC mL_law 690 (.land) 1 := by decide +kernel
theorem dL_law_691 : DC mL_law 691 (.lor) 1 := by decide +kernel
theorem dL_law_692 : DC mL_law 692 (.invokevirtual 82) 3 := by decide +kernel
theorem dL_law_695 : DC mL_law 695 (.aload_n 2) 1 := by decide +kernel
theorem dL_law_696 : DC mL_law 696 (.aload_n 0) 1 := by decide +kernel
theorem dL_law_697 : DC mL_law 697 (.iload_n 3) 1 := by decide +kernel
theorem dL_law_698 : DC mL_law 698 (.iconst 1) 1 := by decide +kernel
theorem dL_law_699 : DC mL_law 699 (.iadd) 1 := by decide +kernel
theorem dL_law_700 : DC mL_law 700 (.iaload) 1 := by decide +kernel
theorem dL_law_701 : DC mL_law 701 (.aload_n 0) 1 := by decide +kernel
theorem dL_law_702 : DC mL_law 702 (.iload_n 3) 1 := by decide +kernel
theorem dL_law_703 : DC mL_law 703 (.iconst 2) 1 := by decide +kernel
theorem dL_law_704 : DC mL_law 704 (.iadd) 1 := by decide +kernel
theorem dL_law_705 : DC mL_law 705 (.iaload) 1 := by decide +kernel
theorem dL_law_706 : DC mL_law 706 (.i2l) 1 := by decide +kernel
theorem dL_law_707 : DC mL_law 707 (.bipush 32) 2 := by decide +kernel
theorem dL_law_709 : DC mL_law 709 (.lshl) 1 := by decide +kernel
theorem dL_law_710 : DC mL_law 710 (.aload_n 0) 1 := by decide +kernel
theorem dL_law_711 : DC mL_law 711 (.iload_n 3) 1 := by decide +kernel
theorem dL_law_712 : DC mL_law 712 (.iconst 3) 1 := by decide +kernel
theorem dL_law_713 : DC mL_law 713 (.iadd) 1 := by decide +kernel
theorem dL_law_714 : DC mL_law 714 (.iaload) 1 := by decide +kernel
theorem dL_law_715 : DC mL_law 715 (.i2l) 1 := by decide +kernel
theorem dL_law_716 : DC mL_law 716 (.ldc2_w 75) 3 := by decide +kernel
theorem dL_law_719 : DC mL_law 719 (.land) 1 := by decide +kernel
theorem dL_law_720 : DC mL_law 720 (.lor) 1 := by decide +kernel
theorem dL_law_721 : DC mL_law 721 (.invokevirtual 86) 3 := by decide +kernel
theorem dL_law_724 : DC mL_law 724 (.if_icmp .eq 94) 3 := by decide +kernel
theorem dL_law_727 : DC mL_law 727 (.iconst 0) 1 := by decide +kernel
theorem dL_law_728 : DC mL_law 728 (.ireturn) 1 := by decide +kernel
theorem dL_law_729 : DC mL_law 729 (.aload_n 1) 1 := by decide +kernel
theorem dL_law_730 : DC mL_law 730 (.invokevirtual 87) 3 := by decide +kernel
theorem dL_law_733 : DC mL_law 733 (.aload_n 2) 1 := by decide +kernel
theorem dL_law_734 : DC mL_law 734 (.invokevirtual 90) 3 := by decide +kernel
theorem dL_law_737 : DC mL_law 737 (.if_icmp .eq 81) 3 := by decide +kernel
theorem dL_law_740 : DC mL_law 740 (.iconst 0) 1 := by decide +kernel
theorem dL_law_741 : DC mL_law 741 (.ireturn) 1 := by decide +kernel
theorem dL_law_742 : DC mL_law 742 (.aload_n 1) 1 := by decide +kernel
theorem dL_law_743 : DC mL_law 743 (.aload_n 0) 1 := by decide +kernel
theorem dL_law_744 : DC mL_law 744 (.iload_n 3) 1 := by decide +kernel
theorem dL_law_745 : DC mL_law 745 (.iconst 1) 1 := by decide +kernel
theorem dL_law_746 : DC mL_law 746 (.iadd) 1 := by decide +kernel
theorem dL_law_747 : DC mL_law 747 (.iaload) 1 := by decide +kernel
theorem dL_law_748 : DC mL_law 748 (.invokevirtual 91) 3 := by decide +kernel
theorem dL_law_751 : DC mL_law 751 (.aload_n 2) 1 := by decide +kernel
theorem dL_law_752 : DC mL_law 752 (.aload_n 0) 1 := by decide +kernel
theorem dL_law_753 : DC mL_law 753 (.iload_n 3) 1 := by decide +kernel
theorem dL_law_754 : DC mL_law 754 (.iconst 1) 1 := by decide +kernel
theorem dL_law_755 : DC mL_law 755 (.iadd) 1 := by decide +kernel
theorem dL_law_756 : DC mL_law 756 (.iaload) 1 := by decide +kernel
theorem dL_law_757 : DC mL_law 757 (.invokevirtual 94) 3 := by decide +kernel
theorem dL_law_760 : DC mL_law 760 (.if_icmp .eq 58) 3 := by decide +kernel
theorem dL_law_763 : DC mL_law 763 (.iconst 0) 1 := by decide +kernel
theorem dL_law_764 : DC mL_law 764 (.ireturn) 1 := by decide +kernel
theorem dL_law_765 : DC mL_law 765 (.aload_n 1) 1 := by decide +kernel
theorem dL_law_766 : DC mL_law 766 (.aload_n 0) 1 := by decide +kernel
theorem dL_law_767 : DC mL_law 767 (.iload_n 3) 1 := by decide +kernel
theorem dL_law_768 : DC mL_law 768 (.iconst 1) 1 := by decide +kernel
theorem dL_law_769 : DC mL_law 769 (.iadd) 1 := by decide +kernel
theorem dL_law_770 : DC mL_law 770 (.iaload) 1 := by decide +kernel
theorem dL_law_771 : DC mL_law 771 (.aload_n 0) 1 := by decide +kernel
theorem dL_law_772 : DC mL_law 772 (.iload_n 3) 1 := by decide +kernel
theorem dL_law_773 : DC mL_law 773 (.iconst 2) 1 := by decide +kernel
theorem dL_law_774 : DC mL_law 774 (.iadd) 1 := by decide +kernel
theorem dL_law_775 : DC mL_law 775 (.iaload) 1 := by decide +kernel
theorem dL_law_776 : DC mL_law 776 (.aload_n 0) 1 := by decide +kernel
theorem dL_law_777 : DC mL_law 777 (.iload_n 3) 1 := by decide +kernel
theorem dL_law_778 : DC mL_law 778 (.iconst 3) 1 := by decide +kernel
theorem dL_law_779 : DC mL_law 779 (.iadd) 1 := by decide +kernel
theorem dL_law_780 : DC mL_law 780 (.iaload) 1 := by decide +kernel
theorem dL_law_781 : DC mL_law 781 (.aload_n 0) 1 := by decide +kernel
theorem dL_law_782 : DC mL_law 782 (.iload_n 3) 1 := by decide +kernel
theorem dL_law_783 : DC mL_law 783 (.iconst 4) 1 := by decide +kernel
theorem dL_law_784 : DC mL_law 784 (.iadd) 1 := by decide +kernel
theorem dL_law_785 : DC mL_law 785 (.iaload) 1 := by decide +kernel
theorem dL_law_786 : DC mL_law 786 (.invokevirtual 95) 3 := by decide +kernel
theorem dL_law_789 : DC mL_law 789 (.aload_n 2) 1 := by decide +kernel
theorem dL_law_790 : DC mL_law 790 (.aload_n 0) 1 := by decide +kernel
theorem dL_law_791 : DC mL_law 791 (.iload_n 3) 1 := by decide +kernel
theorem dL_law_792 : DC mL_law 792 (.iconst 1) 1 := by decide +kernel
theorem dL_law_793 : DC mL_law 793 (.iadd) 1 := by decide +kernel
theorem dL_law_794 : DC mL_law 794 (.iaload) 1 := by decide +kernel
theorem dL_law_795 : DC mL_law 795 (.aload_n 0) 1 := by decide +kernel
theorem dL_law_796 : DC mL_law 796 (.iload_n 3) 1 := by decide +kernel
theorem dL_law_797 : DC mL_law 797 (.iconst 2) 1 := by decide +kernel
theorem dL_law_798 : DC mL_law 798 (.iadd) 1 := by decide +kernel
theorem dL_law_799 : DC mL_law 799 (.iaload) 1 := by decide +kernel
theorem dL_law_800 : DC mL_law 800 (.aload_n 0) 1 := by decide +kernel
theorem dL_law_801 : DC mL_law 801 (.iload_n 3) 1 := by decide +kernel
theorem dL_law_802 : DC mL_law 802 (.iconst 3) 1 := by decide +kernel
theorem dL_law_803 : DC mL_law 803 (.iadd) 1 := by decide +kernel
theorem dL_law_804 : DC mL_law 804 (.iaload) 1 := by decide +kernel
theorem dL_law_805 : DC mL_law 805 (.aload_n 0) 1 := by decide +kernel
theorem dL_law_806 : DC mL_law 806 (.iload_n 3) 1 := by decide +kernel
theorem dL_law_807 : DC mL_law 807 (.iconst 4) 1 := by decide +kernel
theorem dL_law_808 : DC mL_law 808 (.iadd) 1 := by decide +kernel
theorem dL_law_809 : DC mL_law 809 (.iaload) 1 := by decide +kernel
theorem dL_law_810 : DC mL_law 810 (.invokevirtual 98) 3 := by decide +kernel
theorem dL_law_813 : DC mL_law 813 (.if_icmp .eq 5) 3 := by decide +kernel
theorem dL_law_816 : DC mL_law 816 (.iconst 0) 1 := by decide +kernel
theorem dL_law_817 : DC mL_law 817 (.ireturn) 1 := by decide +kernel
theorem dL_law_818 : DC mL_law 818 (.iinc 3 6) 3 := by decide +kernel
theorem dL_law_821 : DC mL_law 821 (.goto (-803)) 3 := by decide +kernel
theorem dL_law_824 : DC mL_law 824 (.iconst 1) 1 := by decide +kernel
theorem dL_law_825 : DC mL_law 825 (.ireturn) 1 := by decide +kernel
end
section
/-! ===== THE LAYER: the class and the reference live on a net of objects that never changes; its numbers are a memory; one rule an instruction ===== -/
abbrev MI : Type := Nat → Nat → Int32
abbrev ML : Type := Nat → Nat → Int64
/-- a cell's kind: 0 an object (its class's number, its fields: a number, or the cell that it leads to), 1 int[], 2 boolean[], 3 long[] (length), 4 rows (their cells) -/
abbrev Kd : Type := Nat × Nat × List (Option Nat)
def NO : Nat := 100
def layL : List Kd := 
  [(0, 9, [some 1, some 33, some 24, some 47, some 61, some 29, some 32]),
   (0, 5, [some 2, some 7, some 12, some 16, none]),
   (0, 1, [none, some 3, some 4, some 5, some 6]),
   (1, 8, []),
   (1, 8, []),
   (1, 8, []),
   (1, 8, []),
   (0, 7, [none, some 8, some 9, some 10, some 11]),
   (1, 4, []),
   (1, 4, []),
   (1, 4, []),
   (1, 4, []),
   (0, 3, [none, some 13, some 14, some 15]),
   (1, 10, []),
   (1, 10, []),
   (1, 10, []),
   (0, 6, [none, some 17, some 18]),
   (1, 10, []),
   (1, 10, []),
   (0, 8, [none, some 20, some 21, some 22, some 23]),
   (1, 4, []),
   (2, 4, []),
   (2, 8, []),
   (2, 8, []),
   (0, 8, [none, some 25, some 26, some 27, some 28]),
   (1, 4, []),
   (2, 4, []),
   (2, 8, []),
   (2, 8, []),
   (0, 4, [none, some 30, some 31]),
   (2, 8, []),
   (3, 8, []),
   (0, 0, [none, none, none]),
   (0, 2, [some 1, some 19, none, none, none, none, some 34, some 35, some 36, some 37, some 38]),
   (1, 8, []),
   (1, 8, []),
   (1, 8, []),
   (1, 8, []),
   (4, 8, [some 39, some 40, some 41, some 42, some 43, some 44, some 45, some 46]),
   (1, 20, []),
   (1, 20, []),
   (1, 20, []),
   (1, 20, []),
   (1, 20, []),
   (1, 20, []),
   (1, 20, []),
   (1, 20, []),
   (0, 2, [some 1, some 24, none, none, none, none, some 48, some 49, some 50, some 51, some 52]),
   (1, 8, []),
   (1, 8, []),
   (1, 8, []),
   (1, 8, []),
   (4, 8, [some 53, some 54, some 55, some 56, some 57, some 58, some 59, some 60]),
   (1, 20, []),
   (1, 20, []),
   (1, 20, []),
   (1, 20, []),
   (1, 20, []),
   (1, 20, []),
   (1, 20, []),
   (1, 20, []),
   (0, 2, [some 1, some 24, none, none, none, none, some 62, some 63, some 64, some 65, some 66]),
   (1, 8, []),
   (1, 8, []),
   (1, 8, []),
   (1, 8, []),
   (4, 8, [some 67, some 68, some 69, some 70, some 71, some 72, some 73, some 74]),
   (1, 20, []),
   (1, 20, []),
   (1, 20, []),
   (1, 20, []),
   (1, 20, []),
   (1, 20, []),
   (1, 20, []),
   (1, 20, []),
   (0, 10, [none, some 76, some 77, some 78, some 79, none, some 80, some 81, some 82, some 83, none, some 84, some 85, some 86, none, some 87, some 88, none, some 89, some 90, some 91, none, none, none, none, none, some 92, some 93, none, none, some 94, some 95, some 96, some 97, some 98, some 99]),
   (1, 8, []),
   (1, 8, []),
   (1, 8, []),
   (1, 8, []),
   (1, 4, []),
   (1, 4, []),
   (1, 4, []),
   (1, 4, []),
   (1, 10, []),
   (1, 10, []),
   (1, 10, []),
   (1, 10, []),
   (1, 10, []),
   (1, 16, []),
   (1, 16, []),
   (1, 336, []),
   (1, 8, []),
   (1, 8, []),
   (1, 4, []),
   (3, 8, []),
   (1, 352176, []),
   (2, 8, []),
   (3, 8, []),
   (1, 4, [])]
def lay (k : Nat) : Kd := layL.getD k (9, 0, [])
theorem lay_lt {k : Nat} (h : (lay k).1 ≠ 9) : k < NO := by
  rcases Nat.lt_or_ge k NO with q | q
  · exact q
  · exact absurd (by unfold lay; rw [List.getD_eq_getElem?_getD, List.getElem?_eq_none (show layL.length ≤ k from q)]; rfl) h
def up2 {α : Type} (f : Nat → Nat → α) (k j : Nat) (v : α) : Nat → Nat → α := fun a b => if a = k ∧ b = j then v else f a b
theorem up2_s {α : Type} (f : Nat → Nat → α) (k j : Nat) (v : α) : up2 f k j v k j = v := by simp [up2]
theorem up2_ne {α : Type} (f : Nat → Nat → α) {k j a b : Nat} (v : α) (h : ¬ (a = k ∧ b = j)) : up2 f k j v a b = f a b := by simp [up2, h]
theorem up2_a {α : Type} (f : Nat → Nat → α) {k j a b : Nat} (v : α) (h : a ≠ k) : up2 f k j v a b = f a b := by simp [up2, h]
theorem up2_b {α : Type} (f : Nat → Nat → α) {k j a b : Nat} (v : α) (h : b ≠ j) : up2 f k j v a b = f a b := by simp [up2, h]
def fv1 (ad : Nat → Nat) (o : Option Nat) (x : Int32) : Value := match o with
  | none => .int x
  | some q => .ref (ad q)
def ceK (κ : Kd) (ad : Nat → Nat) (ca : Nat → ClassId) (f : Nat → Int32) (g : Nat → Int64) : va_E :=
  if κ.1 = 0 then .inr (κ.2.1, κ.2.2.mapIdx (fun j o => fv1 ad o (f j)))
  else if κ.1 = 1 then .inl (ca 0, κ.2.1, .inl f)
  else if κ.1 = 2 then .inl (ca 1, κ.2.1, .inl f)
  else if κ.1 = 3 then .inl (ca 2, κ.2.1, .inr (.inl g))
  else .inl (ca 3, κ.2.1, .inr (.inr (.inr (.inr (fun j => (κ.2.2.getD j none).map ad)))))
def wl (ad : Nat → Nat) (ca : Nat → ClassId) (μ : MI) (ν : ML) : va_W := (List.range NO).map (fun k => (ad k, ceK (lay k) ad ca (μ k) (ν k)))
theorem wl_get {ad : Nat → Nat} {ca : Nat → ClassId} {μ : MI} {ν : ML} {k : Nat} (h : k < NO) : (wl ad ca μ ν)[k]? = some (ad k, ceK (lay k) ad ca (μ k) (ν k)) := by
  simp [wl, List.getElem?_range h]
theorem wl_out {ad : Nat → Nat} {ca : Nat → ClassId} {μ : MI} {ν : ML} {k : Nat} {q : Nat × va_E} (h : (wl ad ca μ ν)[k]? = some q) : k < NO ∧ q.1 = ad k := by
  have hl : k < NO := by
    have := (List.getElem?_eq_some_iff.mp h).1
    simpa [wl] using this
  rw [wl_get hl] at h
  cases h
  exact ⟨hl, rfl⟩
theorem wl_set {ad : Nat → Nat} {ca : Nat → ClassId} {μ μ' : MI} {ν ν' : ML} {k : Nat} {e : va_E} (hk : k < NO) (he : ceK (lay k) ad ca (μ' k) (ν' k) = e) (ho : ∀ a : Nat, a ≠ k → μ' a = μ a ∧ ν' a = ν a) : (wl ad ca μ ν).set k (ad k, e) = wl ad ca μ' ν' := by
  apply List.ext_getElem?
  intro i
  have hlen : (wl ad ca μ ν).length = NO := by simp [wl]
  by_cases hi : i = k
  · subst hi
    rw [List.getElem?_set_self (by rw [hlen]; exact hk), wl_get hk, he]
  · rw [List.getElem?_set_ne (fun h => hi h.symm)]
    by_cases hn : i < NO
    · rw [wl_get hn, wl_get hn, (ho i hi).1, (ho i hi).2]
    · have hlen' : (wl ad ca μ' ν').length = NO := by simp [wl]
      rw [List.getElem?_eq_none (by rw [hlen]; omega), List.getElem?_eq_none (by rw [hlen']; omega)]
theorem up2_row {α : Type} (f : Nat → Nat → α) (k j : Nat) (v : α) (a : Nat) (h : a ≠ k) : up2 f k j v a = f a := by
  funext b
  simp [up2, h]
theorem wl_D {A : Nat → Prop} {ad : Nat → Nat} {ca : Nat → ClassId} {μ μ' : MI} {ν ν' : ML} (h : va_D A (wl ad ca μ ν)) : va_D A (wl ad ca μ' ν') := by
  refine ⟨fun i j p q hi hj hpq => ?_, fun k q hk => ?_⟩
  · obtain ⟨a1, a2⟩ := wl_out hi
    obtain ⟨b1, b2⟩ := wl_out hj
    exact h.1 i j _ _ (wl_get a1) (wl_get b1) (by show ad i = ad j; rw [← a2, ← b2]; exact hpq)
  · obtain ⟨a1, a2⟩ := wl_out hk
    rw [a2]
    exact h.2 k _ (wl_get a1)
/-- the cells that may change: the net's, and new ones -/
def Ad (ad : Nat → Nat) (sz : Nat) : Nat → Prop := fun q => (∃ k : Nat, k < NO ∧ q = ad k) ∨ sz ≤ q
def tysOf (ca : Nat → ClassId) : List (ClassId × FieldType) := [(ca 0, .int), (ca 1, .boolean), (ca 2, .long), (ca 3, .array .int)]
def cv (ad : Nat → Nat) (v : Value) : Value := match v with
  | .ref a => .ref (ad a)
  | w => w
theorem cv_cat (ad : Nat → Nat) (v : Value) : (cv ad v).category = v.category := by cases v <;> rfl
theorem cv_sum (ad : Nat → Nat) (st : List Value) : ((st.map (cv ad)).map fun v => v.category).sum = (st.map fun v => v.category).sum := by
  rw [List.map_map]
  congr 1
  apply List.map_congr_left
  intro v _
  exact cv_cat ad v
def Wd (ad : Nat → Nat) (dC : Nat → ClassId) (dI : Nat → Nat → Nat) (ca : Nat → ClassId) (A : Nat → Prop) (s : State) (μ : MI) (ν : ML) (H : Heap) (locs : List Loc) : Prop :=
  va_P (dC, dI) vwCl (wl ad ca μ ν) H ∧ va_D A (wl ad ca μ ν) ∧ va_S A s.heap H locs
def Ls (ad : Nat → Nat) (nL : Nat) (ls : List (Option Value)) (lsC : Array Slot) : Prop := lsC.size = nL ∧ lv_wf lsC ∧ ∀ (i : Nat) (v : Value), ls[i]? = some (some v) → lsC[i]? = some (.val (cv ad v))
abbrev Po : Type := Option Value → MI → ML → Prop
abbrev Lv : Type := Nat × Option (Nat × (Nat → Int32))
/-- a return at pc with the answer v -/
def RetAt (M : MInfo) (pc : Nat) (v : Option Value) : Prop :=
  (DC M pc .ireturn 1 ∧ ∃ (x : Int32) (rt : FieldType), v = some (.int x) ∧ mRet M = some rt ∧ narrow rt (.int x) = .int x) ∨ (DC M pc .lreturn 1 ∧ ∃ x : Int64, v = some (.long x) ∧ mRet M = some .long) ∨ (DC M pc .return_ 1 ∧ v = none ∧ mRet M = none)
def Cx (M : MInfo) (d : Lv) (P : Po) (p : Program) (l : Launch) (e : Env) (R : Room) (s : State) (m : MethodId) (args : Array Value) (below : List Frame) (meth : Method) (c : Code) (cells slots : Nat) (Q : State → Prop) (ad : Nat → Nat) (dC : Nat → ClassId) (dI : Nat → Nat → Nat) (ca : Nat → ClassId) (A : Nat → Prop) : Prop :=
  (p.tables.exec = Jvm.exec ∧ c.code = mCode M ∧ c.maxLocals = mLoc M ∧ s.vm.findClass (mOwn M) = some m.cls ∧ ∀ w ∈ lw_g, w.before args s = true) ∧ va_K (dC, dI) vwCl (tysOf ca) s ∧ (∀ q : Nat, s.heap.size ≤ q → A q) ∧
  (d.1 ≤ R.frames ∧ 40 * d.1 ≤ R.locals ∧ cells ≤ R.cells ∧ slots ≤ R.slots) ∧
  (∀ (pc : Nat) (lsC : Array Slot) (v : Option Value) (μ : MI) (ν : ML) (H : Heap) (locs : List Loc), RetAt M pc v → P v μ ν → Wd ad dC dI ca A s μ ν H locs → W p l e R s m args below meth c H locs cells slots Q (F0 m pc lsC (v.toList.map (cv ad)))) ∧
  (∀ (L : Nat) (xs : Nat → Int32), d.2 = some (L, xs) → va_X (ad NO) L xs s s.heap ∧ ad NO < s.heap.size ∧ ¬ A (ad NO)) ∧ NW s
/-- the run from here, with these locals, this stack, this memory, comes to an end as P says -/
def AW (M : MInfo) (d : Lv) (P : Po) (pc : Nat) (ls : List (Option Value)) (st : List Value) (μ : MI) (ν : ML) : Prop :=
  ∀ (_ : True) {p : Program} {l : Launch} {e : Env} {R : Room} {s : State} {m : MethodId} {args : Array Value} {below : List Frame} {meth : Method} {c : Code} {cells slots : Nat} {Q : State → Prop} {ad : Nat → Nat} {dC : Nat → ClassId} {dI : Nat → Nat → Nat} {ca : Nat → ClassId} {A : Nat → Prop},
    Cx M d P p l e R s m args below meth c cells slots Q ad dC dI ca A → ∀ {H : Heap} {locs : List Loc} {lsC : Array Slot}, Wd ad dC dI ca A s μ ν H locs → Ls ad (mLoc M) ls lsC → W p l e R s m args below meth c H locs cells slots Q (F0 m pc lsC (st.map (cv ad)))
/-- behind a call: its answer on the stack -/
def Kn (M : MInfo) (d : Lv) (P : Po) (pc : Nat) (ls : List (Option Value)) (st : List Value) : Po := fun r μ ν => AW M d P pc ls (r.toList ++ st) μ ν
theorem Kn.v {M : MInfo} {d : Lv} {P : Po} {pc : Nat} {ls : List (Option Value)} {st : List Value} {μ : MI} {ν : ML} (h : AW M d P pc ls st μ ν) : Kn M d P pc ls st none μ ν := h
theorem Kn.s {M : MInfo} {d : Lv} {P : Po} {pc : Nat} {ls : List (Option Value)} {st : List Value} {μ : MI} {ν : ML} {v : Value} (h : AW M d P pc ls (v :: st) μ ν) : Kn M d P pc ls st (some v) μ ν := h
def rmD (d : Nat) : Room := { frames := d, cells := 0, slots := 0, locals := 40 * d }
def QG (ad : Nat → Nat) (dC : Nat → ClassId) (dI : Nat → Nat → Nat) (ca : Nat → ClassId) (P : Po) (A : Nat → Prop) : Array Value → State → Outcome → State → Prop := fun _ st oc t => (∃ (r : Option Value) (μ : MI) (ν : ML), oc = .returned (r.map (cv ad)) ∧ P r μ ν ∧ va_P (dC, dI) vwCl (wl ad ca μ ν) t.heap) ∧ va_F A st t
def mWs (M : MInfo) : List Cond := .code (mName M) (mCode M) (mLoc M) (mRet M) :: lw_g
/-- a method's contract: from this memory, with these arguments, it returns as P says -/
def Ct (M : MInfo) (d : Nat) (as : List Value) (μ : MI) (ν : ML) (P : Po) : Prop :=
  ∀ (l : Launch) (ad : Nat → Nat) (dC : Nat → ClassId) (dI : Nat → Nat → Nat) (ca : Nat → ClassId) (sz : Nat), Met l (mName M) (mWs M) (rmD d) (va_Pc (as.map (cv ad)) (fun U => U.heap.size = sz ∧ va_P (dC, dI) vwCl (wl ad ca μ ν) U.heap ∧ va_K (dC, dI) vwCl (tysOf ca) U ∧ va_D (fun _ => True) (wl ad ca μ ν) ∧ NW U)) (QG ad dC dI ca P (Ad ad sz)) 0 0 (Ad ad sz)
theorem mWs_good {M : MInfo} {n : Nat} (h : MW M n) : GoodIn lw_g (mWs M) := by
  have hg := lw_good
  intro w hw
  rcases List.mem_cons.mp hw with e | e
  · rw [e]
    exact ⟨h.2.1, hg _ h.2.1⟩
  · exact ⟨e, hg w e⟩
/-! the locals -/
def prs (ad : Nat → Nat) (ls : List (Option Value)) : List (Nat × Value) := (List.range ls.length).filterMap (fun i => (ls.getD i none).map (fun v => (i, cv ad v)))
theorem prs_mem {ad : Nat → Nat} {ls : List (Option Value)} {i : Nat} {v : Value} (h : ls[i]? = some (some v)) : (i, cv ad v) ∈ prs ad ls := by
  refine List.mem_filterMap.mpr ⟨i, List.mem_range.mpr (List.getElem?_eq_some_iff.mp h).1, ?_⟩
  rw [List.getD_eq_getElem?_getD, h]
  rfl
theorem Ls.has {ad : Nat → Nat} {nL : Nat} {ls : List (Option Value)} {lsC : Array Slot} (h : Ls ad nL ls lsC) : lv_has lsC nL (prs ad ls) := by
  refine ⟨h.1, h.2.1, fun q hq => ?_⟩
  obtain ⟨i, hi, he⟩ := List.mem_filterMap.mp hq
  have hl := List.mem_range.mp hi
  rw [List.getD_eq_getElem?_getD, List.getElem?_eq_getElem hl] at he
  cases hv : ls[i] with
  | none => rw [hv] at he; cases he
  | some v =>
    rw [hv] at he
    cases he
    exact h.2.2 i v (by rw [List.getElem?_eq_getElem hl, hv])
def okS (ls : List (Option Value)) (i : Nat) : Bool := match i with
  | 0 => true
  | j + 1 => match ls.getD j none with
    | none => true
    | some v => v.category != 2
theorem okS_ne {ls : List (Option Value)} {i j : Nat} {v : Value} (h : okS ls i = true) (hv : ls[j]? = some (some v)) (hj : j + 1 = i) : ¬ v.category = 2 := by
  subst hj
  have h1 : (match ls.getD j none with
    | none => true
    | some v => v.category != 2) = true := h
  rw [List.getD_eq_getElem?_getD, hv] at h1
  simpa using h1
theorem Ls.set1 {ad : Nat → Nat} {nL i : Nat} {ls : List (Option Value)} {lsC' : Array Slot} {v : Value} (h : lv_has lsC' nL ((i, cv ad v) :: (prs ad ls).filter (fun q => !(q.1 == i) && !(q.1 + 1 == i && q.2.category == 2)))) (hok : okS ls i = true) : Ls ad nL (ls.set i (some v)) lsC' := by
  refine ⟨h.1, h.2.1, fun j w hw => ?_⟩
  by_cases hj : j = i
  · subst hj
    have hl : j < ls.length := by
      have := (List.getElem?_eq_some_iff.mp hw).1
      simpa using this
    rw [List.getElem?_set_self hl] at hw
    cases hw
    exact h.2.2 _ List.mem_cons_self
  · rw [List.getElem?_set_ne (fun q => hj q.symm)] at hw
    refine h.2.2 (j, cv ad w) (List.mem_cons_of_mem _ (List.mem_filter.mpr ⟨prs_mem hw, ?_⟩))
    have h2 := fun e : j + 1 = i => okS_ne hok hw e
    by_cases h3 : j + 1 = i
    · have h4 : ¬ (cv ad w).category = 2 := by rw [cv_cat]; exact h2 h3
      simp [hj, h4]
    · simp [hj, h3]
theorem Ls.set2 {ad : Nat → Nat} {nL i : Nat} {ls : List (Option Value)} {lsC' : Array Slot} {v : Value} (h : lv_has lsC' nL ((i, cv ad v) :: (prs ad ls).filter (fun q => !(q.1 == i) && (!(q.1 == i + 1) && !(q.1 + 1 == i && q.2.category == 2))))) (hok : okS ls i = true) : Ls ad nL ((ls.set i (some v)).set (i + 1) none) lsC' := by
  refine ⟨h.1, h.2.1, fun j w hw => ?_⟩
  by_cases hj1 : j = i + 1
  · subst hj1
    by_cases hl : i + 1 < (ls.set i (some v)).length
    · rw [List.getElem?_set_self hl] at hw
      cases hw
    · rw [List.getElem?_eq_none (by rw [List.length_set]; omega)] at hw
      cases hw
  · rw [List.getElem?_set_ne (fun q => hj1 q.symm)] at hw
    by_cases hj : j = i
    · subst hj
      have hl : j < ls.length := by
        have := (List.getElem?_eq_some_iff.mp hw).1
        simpa using this
      rw [List.getElem?_set_self hl] at hw
      cases hw
      exact h.2.2 _ List.mem_cons_self
    · rw [List.getElem?_set_ne (fun q => hj q.symm)] at hw
      refine h.2.2 (j, cv ad w) (List.mem_cons_of_mem _ (List.mem_filter.mpr ⟨prs_mem hw, ?_⟩))
      by_cases h3 : j + 1 = i
      · have h4 : ¬ (cv ad w).category = 2 := by rw [cv_cat]; exact okS_ne hok hw h3
        simp [hj, hj1, h4]
      · simp [hj, hj1, h3]
/-- fewer known locals -/
def fewer (ls0 ls : List (Option Value)) : Prop := match ls0 with
  | [] => True
  | none :: r => fewer r ls.tail
  | some v :: r => ls.head? = some (some v) ∧ fewer r ls.tail
theorem fewer_get : ∀ {ls0 ls : List (Option Value)}, fewer ls0 ls → ∀ (i : Nat) (v : Value), ls0[i]? = some (some v) → ls[i]? = some (some v)
  | [], _, _, i, v, h => by simp at h
  | none :: r, ls, h, i, v, hv => by
    cases i with
    | zero => simp at hv
    | succ i =>
      rw [List.getElem?_cons_succ] at hv
      have h1 := fewer_get (ls0 := r) h i v hv
      rwa [List.getElem?_tail] at h1
  | some w :: r, ls, h, i, v, hv => by
    obtain ⟨h1, h2⟩ := h
    cases i with
    | zero =>
      rw [List.getElem?_cons_zero] at hv
      cases hv
      rwa [List.head?_eq_getElem?] at h1
    | succ i =>
      rw [List.getElem?_cons_succ] at hv
      have h3 := fewer_get (ls0 := r) h2 i v hv
      rwa [List.getElem?_tail] at h3
/-! one rule an instruction -/
theorem A_iconst {M : MInfo} {d : Lv} {P : Po} {pc : Nat} {ls : List (Option Value)} {st : List Value} {μ : MI} {ν : ML} {n : Int} {v : Int32} (hd : DC M pc (.iconst n) 1) (hv : Int32.ofInt n = v) (kk : AW M d P (pc + 1) ls (.int v :: st) μ ν) : AW M d P pc ls st μ ν := by
  intro _ p l e R s m args below meth c cells slots Q ad dC dI ca A C H locs lsC hW hl
  obtain ⟨⟨hx, hb, hml, hown, hts⟩, hK, hA, hR, hend, hscr, hNW⟩ := id C
  exact lv_iconst hx hb hd hv (kk trivial C hW hl)
theorem A_bipush {M : MInfo} {d : Lv} {P : Po} {pc : Nat} {ls : List (Option Value)} {st : List Value} {μ : MI} {ν : ML} {n : Int} {v : Int32} (hd : DC M pc (.bipush n) 2) (hv : (Int8.ofInt n).toInt32 = v) (kk : AW M d P (pc + 2) ls (.int v :: st) μ ν) : AW M d P pc ls st μ ν := by
  intro _ p l e R s m args below meth c cells slots Q ad dC dI ca A C H locs lsC hW hl
  obtain ⟨⟨hx, hb, hml, hown, hts⟩, hK, hA, hR, hend, hscr, hNW⟩ := id C
  exact lv_bipush hx hb hd hv (kk trivial C hW hl)
theorem A_sipush {M : MInfo} {d : Lv} {P : Po} {pc : Nat} {ls : List (Option Value)} {st : List Value} {μ : MI} {ν : ML} {n : Int} {v : Int32} (hd : DC M pc (.sipush n) 3) (hv : (Int16.ofInt n).toInt32 = v) (kk : AW M d P (pc + 3) ls (.int v :: st) μ ν) : AW M d P pc ls st μ ν := by
  intro _ p l e R s m args below meth c cells slots Q ad dC dI ca A C H locs lsC hW hl
  obtain ⟨⟨hx, hb, hml, hown, hts⟩, hK, hA, hR, hend, hscr, hNW⟩ := id C
  exact lv_sipush hx hb hd hv (kk trivial C hW hl)
theorem A_lconst {M : MInfo} {d : Lv} {P : Po} {pc : Nat} {ls : List (Option Value)} {st : List Value} {μ : MI} {ν : ML} {n : Fin 2} {v : Int64} (hd : DC M pc (.lconst n) 1) (hv : Int64.ofNat (n : Nat) = v) (kk : AW M d P (pc + 1) ls (.long v :: st) μ ν) : AW M d P pc ls st μ ν := by
  intro _ p l e R s m args below meth c cells slots Q ad dC dI ca A C H locs lsC hW hl
  obtain ⟨⟨hx, hb, hml, hown, hts⟩, hK, hA, hR, hend, hscr, hNW⟩ := id C
  exact lv_lconst hx hb hd hv (kk trivial C hW hl)
theorem A_iload_n {M : MInfo} {d : Lv} {P : Po} {pc : Nat} {ls : List (Option Value)} {st : List Value} {μ : MI} {ν : ML} {k : Fin 4} {x : Int32} (hd : DC M pc (.iload_n k) 1) (hv : ls[(k : Nat)]? = some (some (.int x))) (kk : AW M d P (pc + 1) ls (.int x :: st) μ ν) : AW M d P pc ls st μ ν := by
  intro _ p l e R s m args below meth c cells slots Q ad dC dI ca A C H locs lsC hW hl
  obtain ⟨⟨hx, hb, hml, hown, hts⟩, hK, hA, hR, hend, hscr, hNW⟩ := id C
  exact lv_iload_n hx hb hd rfl (hl.2.2 _ _ hv) (kk trivial C hW hl)
theorem A_iload {M : MInfo} {d : Lv} {P : Po} {pc : Nat} {ls : List (Option Value)} {st : List Value} {μ : MI} {ν : ML} {k : Nat} {x : Int32} (hd : DC M pc (.iload k) 2) (hv : ls[k]? = some (some (.int x))) (kk : AW M d P (pc + 2) ls (.int x :: st) μ ν) : AW M d P pc ls st μ ν := by
  intro _ p l e R s m args below meth c cells slots Q ad dC dI ca A C H locs lsC hW hl
  obtain ⟨⟨hx, hb, hml, hown, hts⟩, hK, hA, hR, hend, hscr, hNW⟩ := id C
  exact lv_iload hx hb hd (hl.2.2 _ _ hv) (kk trivial C hW hl)
theorem A_lload_n {M : MInfo} {d : Lv} {P : Po} {pc : Nat} {ls : List (Option Value)} {st : List Value} {μ : MI} {ν : ML} {k : Fin 4} {x : Int64} (hd : DC M pc (.lload_n k) 1) (hv : ls[(k : Nat)]? = some (some (.long x))) (kk : AW M d P (pc + 1) ls (.long x :: st) μ ν) : AW M d P pc ls st μ ν := by
  intro _ p l e R s m args below meth c cells slots Q ad dC dI ca A C H locs lsC hW hl
  obtain ⟨⟨hx, hb, hml, hown, hts⟩, hK, hA, hR, hend, hscr, hNW⟩ := id C
  exact lv_lload_n hx hb hd rfl (hl.2.2 _ _ hv) (kk trivial C hW hl)
theorem A_lload {M : MInfo} {d : Lv} {P : Po} {pc : Nat} {ls : List (Option Value)} {st : List Value} {μ : MI} {ν : ML} {k : Nat} {x : Int64} (hd : DC M pc (.lload k) 2) (hv : ls[k]? = some (some (.long x))) (kk : AW M d P (pc + 2) ls (.long x :: st) μ ν) : AW M d P pc ls st μ ν := by
  intro _ p l e R s m args below meth c cells slots Q ad dC dI ca A C H locs lsC hW hl
  obtain ⟨⟨hx, hb, hml, hown, hts⟩, hK, hA, hR, hend, hscr, hNW⟩ := id C
  exact lv_lload hx hb hd (hl.2.2 _ _ hv) (kk trivial C hW hl)
theorem A_aload_n {M : MInfo} {d : Lv} {P : Po} {pc : Nat} {ls : List (Option Value)} {st : List Value} {μ : MI} {ν : ML} {k : Fin 4} {x : Nat} (hd : DC M pc (.aload_n k) 1) (hv : ls[(k : Nat)]? = some (some (.ref x))) (kk : AW M d P (pc + 1) ls (.ref x :: st) μ ν) : AW M d P pc ls st μ ν := by
  intro _ p l e R s m args below meth c cells slots Q ad dC dI ca A C H locs lsC hW hl
  obtain ⟨⟨hx, hb, hml, hown, hts⟩, hK, hA, hR, hend, hscr, hNW⟩ := id C
  exact lv_aload_n hx hb hd rfl (hl.2.2 _ _ hv) (kk trivial C hW hl)
theorem A_aload {M : MInfo} {d : Lv} {P : Po} {pc : Nat} {ls : List (Option Value)} {st : List Value} {μ : MI} {ν : ML} {k : Nat} {x : Nat} (hd : DC M pc (.aload k) 2) (hv : ls[k]? = some (some (.ref x))) (kk : AW M d P (pc + 2) ls (.ref x :: st) μ ν) : AW M d P pc ls st μ ν := by
  intro _ p l e R s m args below meth c cells slots Q ad dC dI ca A C H locs lsC hW hl
  obtain ⟨⟨hx, hb, hml, hown, hts⟩, hK, hA, hR, hend, hscr, hNW⟩ := id C
  exact lv_aload hx hb hd (hl.2.2 _ _ hv) (kk trivial C hW hl)
theorem A_iadd {M : MInfo} {d : Lv} {P : Po} {pc : Nat} {ls : List (Option Value)} {st : List Value} {μ : MI} {ν : ML} {x y : Int32} (hd : DC M pc .iadd 1) (kk : AW M d P (pc + 1) ls (.int (x + y) :: st) μ ν) : AW M d P pc ls (.int y :: .int x :: st) μ ν := by
  intro _ p l e R s m args below meth c cells slots Q ad dC dI ca A C H locs lsC hW hl
  obtain ⟨⟨hx, hb, hml, hown, hts⟩, hK, hA, hR, hend, hscr, hNW⟩ := id C
  exact lv_iadd hx hb hd (kk trivial C hW hl)
theorem A_isub {M : MInfo} {d : Lv} {P : Po} {pc : Nat} {ls : List (Option Value)} {st : List Value} {μ : MI} {ν : ML} {x y : Int32} (hd : DC M pc .isub 1) (kk : AW M d P (pc + 1) ls (.int (x - y) :: st) μ ν) : AW M d P pc ls (.int y :: .int x :: st) μ ν := by
  intro _ p l e R s m args below meth c cells slots Q ad dC dI ca A C H locs lsC hW hl
  obtain ⟨⟨hx, hb, hml, hown, hts⟩, hK, hA, hR, hend, hscr, hNW⟩ := id C
  exact lv_isub hx hb hd (kk trivial C hW hl)
theorem A_imul {M : MInfo} {d : Lv} {P : Po} {pc : Nat} {ls : List (Option Value)} {st : List Value} {μ : MI} {ν : ML} {x y : Int32} (hd : DC M pc .imul 1) (kk : AW M d P (pc + 1) ls (.int (x * y) :: st) μ ν) : AW M d P pc ls (.int y :: .int x :: st) μ ν := by
  intro _ p l e R s m args below meth c cells slots Q ad dC dI ca A C H locs lsC hW hl
  obtain ⟨⟨hx, hb, hml, hown, hts⟩, hK, hA, hR, hend, hscr, hNW⟩ := id C
  exact lv_imul hx hb hd (kk trivial C hW hl)
theorem A_iand {M : MInfo} {d : Lv} {P : Po} {pc : Nat} {ls : List (Option Value)} {st : List Value} {μ : MI} {ν : ML} {x y : Int32} (hd : DC M pc .iand 1) (kk : AW M d P (pc + 1) ls (.int (x &&& y) :: st) μ ν) : AW M d P pc ls (.int y :: .int x :: st) μ ν := by
  intro _ p l e R s m args below meth c cells slots Q ad dC dI ca A C H locs lsC hW hl
  obtain ⟨⟨hx, hb, hml, hown, hts⟩, hK, hA, hR, hend, hscr, hNW⟩ := id C
  exact lv_iand hx hb hd (kk trivial C hW hl)
theorem A_ior {M : MInfo} {d : Lv} {P : Po} {pc : Nat} {ls : List (Option Value)} {st : List Value} {μ : MI} {ν : ML} {x y : Int32} (hd : DC M pc .ior 1) (kk : AW M d P (pc + 1) ls (.int (x ||| y) :: st) μ ν) : AW M d P pc ls (.int y :: .int x :: st) μ ν := by
  intro _ p l e R s m args below meth c cells slots Q ad dC dI ca A C H locs lsC hW hl
  obtain ⟨⟨hx, hb, hml, hown, hts⟩, hK, hA, hR, hend, hscr, hNW⟩ := id C
  exact lv_ior hx hb hd (kk trivial C hW hl)
theorem A_ixor {M : MInfo} {d : Lv} {P : Po} {pc : Nat} {ls : List (Option Value)} {st : List Value} {μ : MI} {ν : ML} {x y : Int32} (hd : DC M pc .ixor 1) (kk : AW M d P (pc + 1) ls (.int (x ^^^ y) :: st) μ ν) : AW M d P pc ls (.int y :: .int x :: st) μ ν := by
  intro _ p l e R s m args below meth c cells slots Q ad dC dI ca A C H locs lsC hW hl
  obtain ⟨⟨hx, hb, hml, hown, hts⟩, hK, hA, hR, hend, hscr, hNW⟩ := id C
  exact lv_ixor hx hb hd (kk trivial C hW hl)
theorem A_ladd {M : MInfo} {d : Lv} {P : Po} {pc : Nat} {ls : List (Option Value)} {st : List Value} {μ : MI} {ν : ML} {x y : Int64} (hd : DC M pc .ladd 1) (kk : AW M d P (pc + 1) ls (.long (x + y) :: st) μ ν) : AW M d P pc ls (.long y :: .long x :: st) μ ν := by
  intro _ p l e R s m args below meth c cells slots Q ad dC dI ca A C H locs lsC hW hl
  obtain ⟨⟨hx, hb, hml, hown, hts⟩, hK, hA, hR, hend, hscr, hNW⟩ := id C
  exact lv_ladd hx hb hd (kk trivial C hW hl)
theorem A_lsub {M : MInfo} {d : Lv} {P : Po} {pc : Nat} {ls : List (Option Value)} {st : List Value} {μ : MI} {ν : ML} {x y : Int64} (hd : DC M pc .lsub 1) (kk : AW M d P (pc + 1) ls (.long (x - y) :: st) μ ν) : AW M d P pc ls (.long y :: .long x :: st) μ ν := by
  intro _ p l e R s m args below meth c cells slots Q ad dC dI ca A C H locs lsC hW hl
  obtain ⟨⟨hx, hb, hml, hown, hts⟩, hK, hA, hR, hend, hscr, hNW⟩ := id C
  exact lv_lsub hx hb hd (kk trivial C hW hl)
theorem A_land {M : MInfo} {d : Lv} {P : Po} {pc : Nat} {ls : List (Option Value)} {st : List Value} {μ : MI} {ν : ML} {x y : Int64} (hd : DC M pc .land 1) (kk : AW M d P (pc + 1) ls (.long (x &&& y) :: st) μ ν) : AW M d P pc ls (.long y :: .long x :: st) μ ν := by
  intro _ p l e R s m args below meth c cells slots Q ad dC dI ca A C H locs lsC hW hl
  obtain ⟨⟨hx, hb, hml, hown, hts⟩, hK, hA, hR, hend, hscr, hNW⟩ := id C
  exact lv_land hx hb hd (kk trivial C hW hl)
theorem A_lor {M : MInfo} {d : Lv} {P : Po} {pc : Nat} {ls : List (Option Value)} {st : List Value} {μ : MI} {ν : ML} {x y : Int64} (hd : DC M pc .lor 1) (kk : AW M d P (pc + 1) ls (.long (x ||| y) :: st) μ ν) : AW M d P pc ls (.long y :: .long x :: st) μ ν := by
  intro _ p l e R s m args below meth c cells slots Q ad dC dI ca A C H locs lsC hW hl
  obtain ⟨⟨hx, hb, hml, hown, hts⟩, hK, hA, hR, hend, hscr, hNW⟩ := id C
  exact lv_lor hx hb hd (kk trivial C hW hl)
theorem A_lxor {M : MInfo} {d : Lv} {P : Po} {pc : Nat} {ls : List (Option Value)} {st : List Value} {μ : MI} {ν : ML} {x y : Int64} (hd : DC M pc .lxor 1) (kk : AW M d P (pc + 1) ls (.long (x ^^^ y) :: st) μ ν) : AW M d P pc ls (.long y :: .long x :: st) μ ν := by
  intro _ p l e R s m args below meth c cells slots Q ad dC dI ca A C H locs lsC hW hl
  obtain ⟨⟨hx, hb, hml, hown, hts⟩, hK, hA, hR, hend, hscr, hNW⟩ := id C
  exact lv_lxor hx hb hd (kk trivial C hW hl)
theorem A_idiv {M : MInfo} {d : Lv} {P : Po} {pc : Nat} {ls : List (Option Value)} {st : List Value} {μ : MI} {ν : ML} {x y : Int32} (hd : DC M pc .idiv 1) (hne : ¬ y = 0) (kk : AW M d P (pc + 1) ls (.int (x / y) :: st) μ ν) : AW M d P pc ls (.int y :: .int x :: st) μ ν := by
  intro _ p l e R s m args below meth c cells slots Q ad dC dI ca A C H locs lsC hW hl
  obtain ⟨⟨hx, hb, hml, hown, hts⟩, hK, hA, hR, hend, hscr, hNW⟩ := id C
  exact lv_idiv hx hb hd hne (kk trivial C hW hl)
theorem A_irem {M : MInfo} {d : Lv} {P : Po} {pc : Nat} {ls : List (Option Value)} {st : List Value} {μ : MI} {ν : ML} {x y : Int32} (hd : DC M pc .irem 1) (hne : ¬ y = 0) (kk : AW M d P (pc + 1) ls (.int (x - x / y * y) :: st) μ ν) : AW M d P pc ls (.int y :: .int x :: st) μ ν := by
  intro _ p l e R s m args below meth c cells slots Q ad dC dI ca A C H locs lsC hW hl
  obtain ⟨⟨hx, hb, hml, hown, hts⟩, hK, hA, hR, hend, hscr, hNW⟩ := id C
  exact lv_irem hx hb hd hne (kk trivial C hW hl)
theorem A_ineg {M : MInfo} {d : Lv} {P : Po} {pc : Nat} {ls : List (Option Value)} {st : List Value} {μ : MI} {ν : ML} {x : Int32} (hd : DC M pc .ineg 1) (kk : AW M d P (pc + 1) ls (.int (-x) :: st) μ ν) : AW M d P pc ls (.int x :: st) μ ν := by
  intro _ p l e R s m args below meth c cells slots Q ad dC dI ca A C H locs lsC hW hl
  obtain ⟨⟨hx, hb, hml, hown, hts⟩, hK, hA, hR, hend, hscr, hNW⟩ := id C
  exact lv_ineg hx hb hd (kk trivial C hW hl)
theorem A_ishl {M : MInfo} {d : Lv} {P : Po} {pc : Nat} {ls : List (Option Value)} {st : List Value} {μ : MI} {ν : ML} {x y : Int32} (hd : DC M pc .ishl 1) (kk : AW M d P (pc + 1) ls (.int (x <<< (y &&& 31)) :: st) μ ν) : AW M d P pc ls (.int y :: .int x :: st) μ ν := by
  intro _ p l e R s m args below meth c cells slots Q ad dC dI ca A C H locs lsC hW hl
  obtain ⟨⟨hx, hb, hml, hown, hts⟩, hK, hA, hR, hend, hscr, hNW⟩ := id C
  exact lv_ishl hx hb hd (kk trivial C hW hl)
theorem A_ishr {M : MInfo} {d : Lv} {P : Po} {pc : Nat} {ls : List (Option Value)} {st : List Value} {μ : MI} {ν : ML} {x y : Int32} (hd : DC M pc .ishr 1) (kk : AW M d P (pc + 1) ls (.int (x >>> (y &&& 31)) :: st) μ ν) : AW M d P pc ls (.int y :: .int x :: st) μ ν := by
  intro _ p l e R s m args below meth c cells slots Q ad dC dI ca A C H locs lsC hW hl
  obtain ⟨⟨hx, hb, hml, hown, hts⟩, hK, hA, hR, hend, hscr, hNW⟩ := id C
  exact lv_ishr hx hb hd (kk trivial C hW hl)
theorem A_iushr {M : MInfo} {d : Lv} {P : Po} {pc : Nat} {ls : List (Option Value)} {st : List Value} {μ : MI} {ν : ML} {x y : Int32} (hd : DC M pc .iushr 1) (kk : AW M d P (pc + 1) ls (.int ((x.toUInt32 >>> (y.toUInt32 &&& Int32.toUInt32 31)).toInt32) :: st) μ ν) : AW M d P pc ls (.int y :: .int x :: st) μ ν := by
  intro _ p l e R s m args below meth c cells slots Q ad dC dI ca A C H locs lsC hW hl
  obtain ⟨⟨hx, hb, hml, hown, hts⟩, hK, hA, hR, hend, hscr, hNW⟩ := id C
  exact lv_iushr hx hb hd rfl (kk trivial C hW hl)
theorem A_lushr {M : MInfo} {d : Lv} {P : Po} {pc : Nat} {ls : List (Option Value)} {st : List Value} {μ : MI} {ν : ML} {x : Int64} {y : Int32} (hd : DC M pc .lushr 1) (kk : AW M d P (pc + 1) ls (.long ((x.toUInt64 >>> (y.toInt64.toUInt64 &&& Int64.toUInt64 63)).toInt64) :: st) μ ν) : AW M d P pc ls (.int y :: .long x :: st) μ ν := by
  intro _ p l e R s m args below meth c cells slots Q ad dC dI ca A C H locs lsC hW hl
  obtain ⟨⟨hx, hb, hml, hown, hts⟩, hK, hA, hR, hend, hscr, hNW⟩ := id C
  exact lv_lushr hx hb hd rfl (kk trivial C hW hl)
theorem A_lshl {M : MInfo} {d : Lv} {P : Po} {pc : Nat} {ls : List (Option Value)} {st : List Value} {μ : MI} {ν : ML} {x : Int64} {y : Int32} (hd : DC M pc .lshl 1) (kk : AW M d P (pc + 1) ls (.long (x <<< (y.toInt64 &&& 63)) :: st) μ ν) : AW M d P pc ls (.int y :: .long x :: st) μ ν := by
  intro _ p l e R s m args below meth c cells slots Q ad dC dI ca A C H locs lsC hW hl
  obtain ⟨⟨hx, hb, hml, hown, hts⟩, hK, hA, hR, hend, hscr, hNW⟩ := id C
  exact lv_lshl hx hb hd rfl (kk trivial C hW hl)
theorem A_lshr {M : MInfo} {d : Lv} {P : Po} {pc : Nat} {ls : List (Option Value)} {st : List Value} {μ : MI} {ν : ML} {x : Int64} {y : Int32} (hd : DC M pc .lshr 1) (kk : AW M d P (pc + 1) ls (.long (x >>> (y.toInt64 &&& 63)) :: st) μ ν) : AW M d P pc ls (.int y :: .long x :: st) μ ν := by
  intro _ p l e R s m args below meth c cells slots Q ad dC dI ca A C H locs lsC hW hl
  obtain ⟨⟨hx, hb, hml, hown, hts⟩, hK, hA, hR, hend, hscr, hNW⟩ := id C
  exact lv_lshr hx hb hd rfl (kk trivial C hW hl)
theorem A_i2l {M : MInfo} {d : Lv} {P : Po} {pc : Nat} {ls : List (Option Value)} {st : List Value} {μ : MI} {ν : ML} {x : Int32} (hd : DC M pc .i2l 1) (kk : AW M d P (pc + 1) ls (.long x.toInt64 :: st) μ ν) : AW M d P pc ls (.int x :: st) μ ν := by
  intro _ p l e R s m args below meth c cells slots Q ad dC dI ca A C H locs lsC hW hl
  obtain ⟨⟨hx, hb, hml, hown, hts⟩, hK, hA, hR, hend, hscr, hNW⟩ := id C
  exact lv_i2l hx hb hd rfl (kk trivial C hW hl)
theorem A_l2i {M : MInfo} {d : Lv} {P : Po} {pc : Nat} {ls : List (Option Value)} {st : List Value} {μ : MI} {ν : ML} {x : Int64} (hd : DC M pc .l2i 1) (kk : AW M d P (pc + 1) ls (.int x.toInt32 :: st) μ ν) : AW M d P pc ls (.long x :: st) μ ν := by
  intro _ p l e R s m args below meth c cells slots Q ad dC dI ca A C H locs lsC hW hl
  obtain ⟨⟨hx, hb, hml, hown, hts⟩, hK, hA, hR, hend, hscr, hNW⟩ := id C
  exact lv_l2i hx hb hd rfl (kk trivial C hW hl)
theorem A_lcmp {M : MInfo} {d : Lv} {P : Po} {pc : Nat} {ls : List (Option Value)} {st : List Value} {μ : MI} {ν : ML} {x y : Int64} (hd : DC M pc .lcmp 1) (kk : AW M d P (pc + 1) ls (.int (lg_cmp x y) :: st) μ ν) : AW M d P pc ls (.long y :: .long x :: st) μ ν := by
  intro _ p l e R s m args below meth c cells slots Q ad dC dI ca A C H locs lsC hW hl
  obtain ⟨⟨hx, hb, hml, hown, hts⟩, hK, hA, hR, hend, hscr, hNW⟩ := id C
  exact W.lcmp hx hb hd (kk trivial C hW hl)
theorem A_dup {M : MInfo} {d : Lv} {P : Po} {pc : Nat} {ls : List (Option Value)} {st : List Value} {μ : MI} {ν : ML} {u : Value} (hd : DC M pc .dup 1) (hu : u.category = 1) (kk : AW M d P (pc + 1) ls (u :: u :: st) μ ν) : AW M d P pc ls (u :: st) μ ν := by
  intro _ p l e R s m args below meth c cells slots Q ad dC dI ca A C H locs lsC hW hl
  obtain ⟨⟨hx, hb, hml, hown, hts⟩, hK, hA, hR, hend, hscr, hNW⟩ := id C
  exact lv_dup hx hb hd (by rw [cv_cat]; exact hu) (kk trivial C hW hl)
theorem A_pop {M : MInfo} {d : Lv} {P : Po} {pc : Nat} {ls : List (Option Value)} {st : List Value} {μ : MI} {ν : ML} {u : Value} (hd : DC M pc .pop 1) (hu : u.category = 1) (kk : AW M d P (pc + 1) ls st μ ν) : AW M d P pc ls (u :: st) μ ν := by
  intro _ p l e R s m args below meth c cells slots Q ad dC dI ca A C H locs lsC hW hl
  obtain ⟨⟨hx, hb, hml, hown, hts⟩, hK, hA, hR, hend, hscr, hNW⟩ := id C
  exact lv_pop hx hb hd (by rw [cv_cat]; exact hu) (kk trivial C hW hl)
theorem A_dup_x1 {M : MInfo} {d : Lv} {P : Po} {pc : Nat} {ls : List (Option Value)} {st : List Value} {μ : MI} {ν : ML} {u w : Value} (hd : DC M pc .dup_x1 1) (hu : u.category = 1) (hw : w.category = 1) (kk : AW M d P (pc + 1) ls (u :: w :: u :: st) μ ν) : AW M d P pc ls (u :: w :: st) μ ν := by
  intro _ p l e R s m args below meth c cells slots Q ad dC dI ca A C H locs lsC hW hl
  obtain ⟨⟨hx, hb, hml, hown, hts⟩, hK, hA, hR, hend, hscr, hNW⟩ := id C
  exact lv_dup_x1 hx hb hd (by rw [cv_cat]; exact hu) (by rw [cv_cat]; exact hw) (kk trivial C hW hl)
theorem A_dup2 {M : MInfo} {d : Lv} {P : Po} {pc : Nat} {ls : List (Option Value)} {st : List Value} {μ : MI} {ν : ML} {u w : Value} (hd : DC M pc .dup2 1) (hu : u.category = 1) (hw : w.category = 1) (kk : AW M d P (pc + 1) ls (u :: w :: u :: w :: st) μ ν) : AW M d P pc ls (u :: w :: st) μ ν := by
  intro _ p l e R s m args below meth c cells slots Q ad dC dI ca A C H locs lsC hW hl
  obtain ⟨⟨hx, hb, hml, hown, hts⟩, hK, hA, hR, hend, hscr, hNW⟩ := id C
  exact lv_dup2_11 hx hb hd (by rw [cv_cat]; exact hu) (by rw [cv_cat]; exact hw) (kk trivial C hW hl)
theorem A_istore_n {M : MInfo} {d : Lv} {P : Po} {pc : Nat} {ls : List (Option Value)} {st : List Value} {μ : MI} {ν : ML} {k : Fin 4} {x : Int32} {ls1 : List (Option Value)} (hd : DC M pc (.istore_n k) 1) (hi : ((k : Nat) : Nat) < mLoc M) (hok : okS ls (k : Nat) = true) (hs : ls.set (k : Nat) (some (.int x)) = ls1) (kk : AW M d P (pc + 1) ls1 st μ ν) : AW M d P pc ls (.int x :: st) μ ν := by
  intro _ p l e R s m args below meth c cells slots Q ad dC dI ca A C H locs lsC hW hl
  obtain ⟨⟨hx, hb, hml, hown, hts⟩, hK, hA, hR, hend, hscr, hNW⟩ := id C
  subst hs
  exact lv_istore_n (i := (k : Nat)) hx hb hd rfl hl.has hi rfl (fun lsD hD => kk trivial C hW (Ls.set1 (v := .int x) hD hok))
theorem A_istore {M : MInfo} {d : Lv} {P : Po} {pc : Nat} {ls : List (Option Value)} {st : List Value} {μ : MI} {ν : ML} {k : Nat} {x : Int32} {ls1 : List (Option Value)} (hd : DC M pc (.istore k) 2) (hi : (k : Nat) < mLoc M) (hok : okS ls k = true) (hs : ls.set k (some (.int x)) = ls1) (kk : AW M d P (pc + 2) ls1 st μ ν) : AW M d P pc ls (.int x :: st) μ ν := by
  intro _ p l e R s m args below meth c cells slots Q ad dC dI ca A C H locs lsC hW hl
  obtain ⟨⟨hx, hb, hml, hown, hts⟩, hK, hA, hR, hend, hscr, hNW⟩ := id C
  subst hs
  exact lv_istore (i := k) hx hb hd hl.has hi rfl (fun lsD hD => kk trivial C hW (Ls.set1 (v := .int x) hD hok))
theorem A_lstore_n {M : MInfo} {d : Lv} {P : Po} {pc : Nat} {ls : List (Option Value)} {st : List Value} {μ : MI} {ν : ML} {k : Fin 4} {x : Int64} {ls1 : List (Option Value)} (hd : DC M pc (.lstore_n k) 1) (hi : ((k : Nat) : Nat) + 1 < mLoc M) (hok : okS ls (k : Nat) = true) (hs : (ls.set (k : Nat) (some (.long x))).set ((k : Nat) + 1) none = ls1) (kk : AW M d P (pc + 1) ls1 st μ ν) : AW M d P pc ls (.long x :: st) μ ν := by
  intro _ p l e R s m args below meth c cells slots Q ad dC dI ca A C H locs lsC hW hl
  obtain ⟨⟨hx, hb, hml, hown, hts⟩, hK, hA, hR, hend, hscr, hNW⟩ := id C
  subst hs
  exact lv_lstore_n (i := (k : Nat)) hx hb hd rfl hl.has hi rfl (fun lsD hD => kk trivial C hW (Ls.set2 (v := .long x) hD hok))
theorem A_lstore {M : MInfo} {d : Lv} {P : Po} {pc : Nat} {ls : List (Option Value)} {st : List Value} {μ : MI} {ν : ML} {k : Nat} {x : Int64} {ls1 : List (Option Value)} (hd : DC M pc (.lstore k) 2) (hi : (k : Nat) + 1 < mLoc M) (hok : okS ls k = true) (hs : (ls.set k (some (.long x))).set (k + 1) none = ls1) (kk : AW M d P (pc + 2) ls1 st μ ν) : AW M d P pc ls (.long x :: st) μ ν := by
  intro _ p l e R s m args below meth c cells slots Q ad dC dI ca A C H locs lsC hW hl
  obtain ⟨⟨hx, hb, hml, hown, hts⟩, hK, hA, hR, hend, hscr, hNW⟩ := id C
  subst hs
  exact lv_lstore (i := k) hx hb hd hl.has hi rfl (fun lsD hD => kk trivial C hW (Ls.set2 (v := .long x) hD hok))
theorem A_astore_n {M : MInfo} {d : Lv} {P : Po} {pc : Nat} {ls : List (Option Value)} {st : List Value} {μ : MI} {ν : ML} {k : Fin 4} {x : Nat} {ls1 : List (Option Value)} (hd : DC M pc (.astore_n k) 1) (hi : ((k : Nat) : Nat) < mLoc M) (hok : okS ls (k : Nat) = true) (hs : ls.set (k : Nat) (some (.ref x)) = ls1) (kk : AW M d P (pc + 1) ls1 st μ ν) : AW M d P pc ls (.ref x :: st) μ ν := by
  intro _ p l e R s m args below meth c cells slots Q ad dC dI ca A C H locs lsC hW hl
  obtain ⟨⟨hx, hb, hml, hown, hts⟩, hK, hA, hR, hend, hscr, hNW⟩ := id C
  subst hs
  exact lv_astore_n (i := (k : Nat)) hx hb hd rfl hl.has hi rfl (fun lsD hD => kk trivial C hW (Ls.set1 (v := .ref x) hD hok))
theorem A_astore {M : MInfo} {d : Lv} {P : Po} {pc : Nat} {ls : List (Option Value)} {st : List Value} {μ : MI} {ν : ML} {k : Nat} {x : Nat} {ls1 : List (Option Value)} (hd : DC M pc (.astore k) 2) (hi : (k : Nat) < mLoc M) (hok : okS ls k = true) (hs : ls.set k (some (.ref x)) = ls1) (kk : AW M d P (pc + 2) ls1 st μ ν) : AW M d P pc ls (.ref x :: st) μ ν := by
  intro _ p l e R s m args below meth c cells slots Q ad dC dI ca A C H locs lsC hW hl
  obtain ⟨⟨hx, hb, hml, hown, hts⟩, hK, hA, hR, hend, hscr, hNW⟩ := id C
  subst hs
  exact lv_astore (i := k) hx hb hd hl.has hi rfl (fun lsD hD => kk trivial C hW (Ls.set1 (v := .ref x) hD hok))
theorem A_iinc {M : MInfo} {d : Lv} {P : Po} {pc : Nat} {ls : List (Option Value)} {st : List Value} {μ : MI} {ν : ML} {k : Nat} {n : Int} {x y : Int32} {ls1 : List (Option Value)} (hd : DC M pc (.iinc k n) 3) (hv : ls[k]? = some (some (.int x))) (hy : x + Int32.ofInt n = y) (hi : k < mLoc M) (hok : okS ls k = true) (hs : ls.set k (some (.int y)) = ls1) (kk : AW M d P (pc + 3) ls1 st μ ν) : AW M d P pc ls st μ ν := by
  intro _ p l e R s m args below meth c cells slots Q ad dC dI ca A C H locs lsC hW hl
  obtain ⟨⟨hx, hb, hml, hown, hts⟩, hK, hA, hR, hend, hscr, hNW⟩ := id C
  subst hs
  obtain ⟨j, hj⟩ := List.getElem?_of_mem (prs_mem (ad := ad) hv)
  exact lv_iinc hx hb hd hl.has hj hy hi rfl (fun lsD hD => kk trivial C hW (Ls.set1 (v := .int y) hD hok))
theorem A_if_eq {M : MInfo} {d : Lv} {P : Po} {pc : Nat} {ls : List (Option Value)} {st : List Value} {μ : MI} {ν : ML} {x : Int32} {off : Int} {tgt : Nat} (hd : DC M pc (.ifCond .eq off) 3) (ht : (pc : Int) + off = (tgt : Int)) (kt : x = 0 → AW M d P tgt ls st μ ν) (kf : ¬ x = 0 → AW M d P (pc + 3) ls st μ ν) : AW M d P pc ls (.int x :: st) μ ν := by
  intro _ p l e R s m args below meth c cells slots Q ad dC dI ca A C H locs lsC hW hl
  obtain ⟨⟨hx, hb, hml, hown, hts⟩, hK, hA, hR, hend, hscr, hNW⟩ := id C
  exact lv_if_eq hx hb hd ht (fun h => kt h trivial C hW hl) (fun h => kf h trivial C hW hl)
theorem A_if_ne {M : MInfo} {d : Lv} {P : Po} {pc : Nat} {ls : List (Option Value)} {st : List Value} {μ : MI} {ν : ML} {x : Int32} {off : Int} {tgt : Nat} (hd : DC M pc (.ifCond .ne off) 3) (ht : (pc : Int) + off = (tgt : Int)) (kt : ¬ x = 0 → AW M d P tgt ls st μ ν) (kf : x = 0 → AW M d P (pc + 3) ls st μ ν) : AW M d P pc ls (.int x :: st) μ ν := by
  intro _ p l e R s m args below meth c cells slots Q ad dC dI ca A C H locs lsC hW hl
  obtain ⟨⟨hx, hb, hml, hown, hts⟩, hK, hA, hR, hend, hscr, hNW⟩ := id C
  exact lv_if_ne hx hb hd ht (fun h => kt h trivial C hW hl) (fun h => kf h trivial C hW hl)
theorem A_if_lt {M : MInfo} {d : Lv} {P : Po} {pc : Nat} {ls : List (Option Value)} {st : List Value} {μ : MI} {ν : ML} {x : Int32} {off : Int} {tgt : Nat} (hd : DC M pc (.ifCond .lt off) 3) (ht : (pc : Int) + off = (tgt : Int)) (kt : x < 0 → AW M d P tgt ls st μ ν) (kf : ¬ x < 0 → AW M d P (pc + 3) ls st μ ν) : AW M d P pc ls (.int x :: st) μ ν := by
  intro _ p l e R s m args below meth c cells slots Q ad dC dI ca A C H locs lsC hW hl
  obtain ⟨⟨hx, hb, hml, hown, hts⟩, hK, hA, hR, hend, hscr, hNW⟩ := id C
  exact lv_if_lt hx hb hd ht (fun h => kt h trivial C hW hl) (fun h => kf h trivial C hW hl)
theorem A_if_ge {M : MInfo} {d : Lv} {P : Po} {pc : Nat} {ls : List (Option Value)} {st : List Value} {μ : MI} {ν : ML} {x : Int32} {off : Int} {tgt : Nat} (hd : DC M pc (.ifCond .ge off) 3) (ht : (pc : Int) + off = (tgt : Int)) (kt : 0 ≤ x → AW M d P tgt ls st μ ν) (kf : ¬ 0 ≤ x → AW M d P (pc + 3) ls st μ ν) : AW M d P pc ls (.int x :: st) μ ν := by
  intro _ p l e R s m args below meth c cells slots Q ad dC dI ca A C H locs lsC hW hl
  obtain ⟨⟨hx, hb, hml, hown, hts⟩, hK, hA, hR, hend, hscr, hNW⟩ := id C
  exact lv_if_ge hx hb hd ht (fun h => kt h trivial C hW hl) (fun h => kf h trivial C hW hl)
theorem A_if_gt {M : MInfo} {d : Lv} {P : Po} {pc : Nat} {ls : List (Option Value)} {st : List Value} {μ : MI} {ν : ML} {x : Int32} {off : Int} {tgt : Nat} (hd : DC M pc (.ifCond .gt off) 3) (ht : (pc : Int) + off = (tgt : Int)) (kt : 0 < x → AW M d P tgt ls st μ ν) (kf : ¬ 0 < x → AW M d P (pc + 3) ls st μ ν) : AW M d P pc ls (.int x :: st) μ ν := by
  intro _ p l e R s m args below meth c cells slots Q ad dC dI ca A C H locs lsC hW hl
  obtain ⟨⟨hx, hb, hml, hown, hts⟩, hK, hA, hR, hend, hscr, hNW⟩ := id C
  exact lv_if_gt hx hb hd ht (fun h => kt h trivial C hW hl) (fun h => kf h trivial C hW hl)
theorem A_if_le {M : MInfo} {d : Lv} {P : Po} {pc : Nat} {ls : List (Option Value)} {st : List Value} {μ : MI} {ν : ML} {x : Int32} {off : Int} {tgt : Nat} (hd : DC M pc (.ifCond .le off) 3) (ht : (pc : Int) + off = (tgt : Int)) (kt : x ≤ 0 → AW M d P tgt ls st μ ν) (kf : ¬ x ≤ 0 → AW M d P (pc + 3) ls st μ ν) : AW M d P pc ls (.int x :: st) μ ν := by
  intro _ p l e R s m args below meth c cells slots Q ad dC dI ca A C H locs lsC hW hl
  obtain ⟨⟨hx, hb, hml, hown, hts⟩, hK, hA, hR, hend, hscr, hNW⟩ := id C
  exact lv_if_le hx hb hd ht (fun h => kt h trivial C hW hl) (fun h => kf h trivial C hW hl)
theorem A_icmp_eq {M : MInfo} {d : Lv} {P : Po} {pc : Nat} {ls : List (Option Value)} {st : List Value} {μ : MI} {ν : ML} {x y : Int32} {off : Int} {tgt : Nat} (hd : DC M pc (.if_icmp .eq off) 3) (ht : (pc : Int) + off = (tgt : Int)) (kt : x = y → AW M d P tgt ls st μ ν) (kf : ¬ x = y → AW M d P (pc + 3) ls st μ ν) : AW M d P pc ls (.int y :: .int x :: st) μ ν := by
  intro _ p l e R s m args below meth c cells slots Q ad dC dI ca A C H locs lsC hW hl
  obtain ⟨⟨hx, hb, hml, hown, hts⟩, hK, hA, hR, hend, hscr, hNW⟩ := id C
  exact lv_icmp_eq hx hb hd ht (fun h => kt h trivial C hW hl) (fun h => kf h trivial C hW hl)
theorem A_icmp_ne {M : MInfo} {d : Lv} {P : Po} {pc : Nat} {ls : List (Option Value)} {st : List Value} {μ : MI} {ν : ML} {x y : Int32} {off : Int} {tgt : Nat} (hd : DC M pc (.if_icmp .ne off) 3) (ht : (pc : Int) + off = (tgt : Int)) (kt : ¬ x = y → AW M d P tgt ls st μ ν) (kf : x = y → AW M d P (pc + 3) ls st μ ν) : AW M d P pc ls (.int y :: .int x :: st) μ ν := by
  intro _ p l e R s m args below meth c cells slots Q ad dC dI ca A C H locs lsC hW hl
  obtain ⟨⟨hx, hb, hml, hown, hts⟩, hK, hA, hR, hend, hscr, hNW⟩ := id C
  exact lv_icmp_ne hx hb hd ht (fun h => kt h trivial C hW hl) (fun h => kf h trivial C hW hl)
theorem A_icmp_lt {M : MInfo} {d : Lv} {P : Po} {pc : Nat} {ls : List (Option Value)} {st : List Value} {μ : MI} {ν : ML} {x y : Int32} {off : Int} {tgt : Nat} (hd : DC M pc (.if_icmp .lt off) 3) (ht : (pc : Int) + off = (tgt : Int)) (kt : x < y → AW M d P tgt ls st μ ν) (kf : ¬ x < y → AW M d P (pc + 3) ls st μ ν) : AW M d P pc ls (.int y :: .int x :: st) μ ν := by
  intro _ p l e R s m args below meth c cells slots Q ad dC dI ca A C H locs lsC hW hl
  obtain ⟨⟨hx, hb, hml, hown, hts⟩, hK, hA, hR, hend, hscr, hNW⟩ := id C
  exact lv_icmp_lt hx hb hd ht (fun h => kt h trivial C hW hl) (fun h => kf h trivial C hW hl)
theorem A_icmp_ge {M : MInfo} {d : Lv} {P : Po} {pc : Nat} {ls : List (Option Value)} {st : List Value} {μ : MI} {ν : ML} {x y : Int32} {off : Int} {tgt : Nat} (hd : DC M pc (.if_icmp .ge off) 3) (ht : (pc : Int) + off = (tgt : Int)) (kt : y ≤ x → AW M d P tgt ls st μ ν) (kf : ¬ y ≤ x → AW M d P (pc + 3) ls st μ ν) : AW M d P pc ls (.int y :: .int x :: st) μ ν := by
  intro _ p l e R s m args below meth c cells slots Q ad dC dI ca A C H locs lsC hW hl
  obtain ⟨⟨hx, hb, hml, hown, hts⟩, hK, hA, hR, hend, hscr, hNW⟩ := id C
  exact lv_icmp_ge hx hb hd ht (fun h => kt h trivial C hW hl) (fun h => kf h trivial C hW hl)
theorem A_icmp_gt {M : MInfo} {d : Lv} {P : Po} {pc : Nat} {ls : List (Option Value)} {st : List Value} {μ : MI} {ν : ML} {x y : Int32} {off : Int} {tgt : Nat} (hd : DC M pc (.if_icmp .gt off) 3) (ht : (pc : Int) + off = (tgt : Int)) (kt : y < x → AW M d P tgt ls st μ ν) (kf : ¬ y < x → AW M d P (pc + 3) ls st μ ν) : AW M d P pc ls (.int y :: .int x :: st) μ ν := by
  intro _ p l e R s m args below meth c cells slots Q ad dC dI ca A C H locs lsC hW hl
  obtain ⟨⟨hx, hb, hml, hown, hts⟩, hK, hA, hR, hend, hscr, hNW⟩ := id C
  exact lv_icmp_gt hx hb hd ht (fun h => kt h trivial C hW hl) (fun h => kf h trivial C hW hl)
theorem A_icmp_le {M : MInfo} {d : Lv} {P : Po} {pc : Nat} {ls : List (Option Value)} {st : List Value} {μ : MI} {ν : ML} {x y : Int32} {off : Int} {tgt : Nat} (hd : DC M pc (.if_icmp .le off) 3) (ht : (pc : Int) + off = (tgt : Int)) (kt : x ≤ y → AW M d P tgt ls st μ ν) (kf : ¬ x ≤ y → AW M d P (pc + 3) ls st μ ν) : AW M d P pc ls (.int y :: .int x :: st) μ ν := by
  intro _ p l e R s m args below meth c cells slots Q ad dC dI ca A C H locs lsC hW hl
  obtain ⟨⟨hx, hb, hml, hown, hts⟩, hK, hA, hR, hend, hscr, hNW⟩ := id C
  exact lv_icmp_le hx hb hd ht (fun h => kt h trivial C hW hl) (fun h => kf h trivial C hW hl)
theorem A_goto {M : MInfo} {d : Lv} {P : Po} {pc : Nat} {ls : List (Option Value)} {st : List Value} {μ : MI} {ν : ML} {off : Int} {tgt : Nat} (hd : DC M pc (.goto off) 3) (ht : (pc : Int) + off = (tgt : Int)) (kk : AW M d P tgt ls st μ ν) : AW M d P pc ls st μ ν := by
  intro _ p l e R s m args below meth c cells slots Q ad dC dI ca A C H locs lsC hW hl
  obtain ⟨⟨hx, hb, hml, hown, hts⟩, hK, hA, hR, hend, hscr, hNW⟩ := id C
  exact lv_goto hx hb hd ht (kk trivial C hW hl)
theorem A_tableIn {M : MInfo} {d : Lv} {P : Po} {pc : Nat} {ls : List (Option Value)} {st : List Value} {μ : MI} {ν : ML} {x : Int32} {dflt lo hi off : Int} {offs : Array Int} {len tgt : Nat} (hd : DC M pc (.tableswitch dflt lo hi offs) len) (h1 : ¬ x.toInt < lo) (h2 : ¬ hi < x.toInt) (ho : offs[(x.toInt - lo).toNat]? = some off) (ht : (pc : Int) + off = (tgt : Int)) (kk : AW M d P tgt ls st μ ν) : AW M d P pc ls (.int x :: st) μ ν := by
  intro _ p l e R s m args below meth c cells slots Q ad dC dI ca A C H locs lsC hW hl
  obtain ⟨⟨hx, hb, hml, hown, hts⟩, hK, hA, hR, hend, hscr, hNW⟩ := id C
  exact lv_tableIn hx hb hd h1 h2 ho ht (kk trivial C hW hl)
theorem A_tableOut {M : MInfo} {d : Lv} {P : Po} {pc : Nat} {ls : List (Option Value)} {st : List Value} {μ : MI} {ν : ML} {x : Int32} {dflt lo hi : Int} {offs : Array Int} {len tgt : Nat} (hd : DC M pc (.tableswitch dflt lo hi offs) len) (h : x.toInt < lo ∨ hi < x.toInt) (ht : (pc : Int) + dflt = (tgt : Int)) (kk : AW M d P tgt ls st μ ν) : AW M d P pc ls (.int x :: st) μ ν := by
  intro _ p l e R s m args below meth c cells slots Q ad dC dI ca A C H locs lsC hW hl
  obtain ⟨⟨hx, hb, hml, hown, hts⟩, hK, hA, hR, hend, hscr, hNW⟩ := id C
  exact lv_tableOut hx hb hd h ht (kk trivial C hW hl)
theorem A_ldc {M : MInfo} {d : Lv} {P : Po} {pc : Nat} {ls : List (Option Value)} {st : List Value} {μ : MI} {ν : ML} {k : Nat} {v : Int32} (hd : DC M pc (.ldc k) 2) (hc : KI (mOwn M) k v) (kk : AW M d P (pc + 2) ls (.int v :: st) μ ν) : AW M d P pc ls st μ ν := by
  intro _ p l e R s m args below meth c cells slots Q ad dC dI ca A C H locs lsC hW hl
  obtain ⟨⟨hx, hb, hml, hown, hts⟩, hK, hA, hR, hend, hscr, hNW⟩ := id C
  exact lv_ldc hx hb hown (hts _ hc) hd (kk trivial C hW hl)
theorem A_ldcw {M : MInfo} {d : Lv} {P : Po} {pc : Nat} {ls : List (Option Value)} {st : List Value} {μ : MI} {ν : ML} {k : Nat} {v : Int32} (hd : DC M pc (.ldc_w k) 3) (hc : KI (mOwn M) k v) (kk : AW M d P (pc + 3) ls (.int v :: st) μ ν) : AW M d P pc ls st μ ν := by
  intro _ p l e R s m args below meth c cells slots Q ad dC dI ca A C H locs lsC hW hl
  obtain ⟨⟨hx, hb, hml, hown, hts⟩, hK, hA, hR, hend, hscr, hNW⟩ := id C
  exact lv_ldcw hx hb hown (hts _ hc) hd (kk trivial C hW hl)
theorem A_ldc2 {M : MInfo} {d : Lv} {P : Po} {pc : Nat} {ls : List (Option Value)} {st : List Value} {μ : MI} {ν : ML} {k : Nat} {v : Int64} (hd : DC M pc (.ldc2_w k) 3) (hc : KL (mOwn M) k v) (kk : AW M d P (pc + 3) ls (.long v :: st) μ ν) : AW M d P pc ls st μ ν := by
  intro _ p l e R s m args below meth c cells slots Q ad dC dI ca A C H locs lsC hW hl
  obtain ⟨⟨hx, hb, hml, hown, hts⟩, hK, hA, hR, hend, hscr, hNW⟩ := id C
  exact lv_ldc2 hx hb hown (hts _ hc) hd (kk trivial C hW hl)
theorem A_getI {M : MInfo} {d : Lv} {P : Po} {pc : Nat} {ls : List (Option Value)} {st : List Value} {μ : MI} {ν : ML} {idx ci k a : Nat} {fs : List (Option Nat)} (hd : DC M pc (.getfield idx) 3) (hf : FL (mOwn M) idx ci k) (hy : lay a = (0, ci, fs)) (hv : fs[k]? = some none) (kk : AW M d P (pc + 3) ls (.int (μ a k) :: st) μ ν) : AW M d P pc ls (.ref a :: st) μ ν := by
  intro _ p l e R s m args below meth c cells slots Q ad dC dI ca A C H locs lsC hW hl
  obtain ⟨⟨hx, hb, hml, hown, hts⟩, hK, hA, hR, hend, hscr, hNW⟩ := id C
  have ha : a < NO := lay_lt (by rw [hy]; show (0 : Nat) ≠ 9; decide)
  obtain ⟨Cn, T, N, hc, hkN, hlink, hT1, hin⟩ := hf
  have he : (wl ad ca μ ν)[a]? = some (ad a, .inr (ci, fs.mapIdx (fun j o => fv1 ad o (μ a j)))) := by
    rw [wl_get ha, hy]
    rfl
  exact va_get (D := (dC, dI)) (v := .int (μ a k)) hx hb hts hin hown hK hW.1 a he hc k hkN (hts _ hlink) (fun x h => by rw [hT1] at h; exact h) (by rw [List.getElem?_mapIdx, hv]; rfl) hd (kk trivial C hW hl)
theorem A_getR {M : MInfo} {d : Lv} {P : Po} {pc : Nat} {ls : List (Option Value)} {st : List Value} {μ : MI} {ν : ML} {idx ci k a q : Nat} {fs : List (Option Nat)} (hd : DC M pc (.getfield idx) 3) (hf : FL (mOwn M) idx ci k) (hy : lay a = (0, ci, fs)) (hv : fs[k]? = some (some q)) (kk : AW M d P (pc + 3) ls (.ref q :: st) μ ν) : AW M d P pc ls (.ref a :: st) μ ν := by
  intro _ p l e R s m args below meth c cells slots Q ad dC dI ca A C H locs lsC hW hl
  obtain ⟨⟨hx, hb, hml, hown, hts⟩, hK, hA, hR, hend, hscr, hNW⟩ := id C
  have ha : a < NO := lay_lt (by rw [hy]; show (0 : Nat) ≠ 9; decide)
  obtain ⟨Cn, T, N, hc, hkN, hlink, hT1, hin⟩ := hf
  have he : (wl ad ca μ ν)[a]? = some (ad a, .inr (ci, fs.mapIdx (fun j o => fv1 ad o (μ a j)))) := by
    rw [wl_get ha, hy]
    rfl
  exact va_get (D := (dC, dI)) (v := .ref (ad q)) hx hb hts hin hown hK hW.1 a he hc k hkN (hts _ hlink) (fun x h => by rw [hT1] at h; exact h) (by rw [List.getElem?_mapIdx, hv]; rfl) hd (kk trivial C hW hl)
theorem A_put {M : MInfo} {d : Lv} {P : Po} {pc : Nat} {ls : List (Option Value)} {st : List Value} {μ : MI} {ν : ML} {idx ci k a : Nat} {ty : FieldType} {x : Int32} {fs : List (Option Nat)} (hd : DC M pc (.putfield idx) 3) (hf : FP (mOwn M) idx ci k ty) (hy : lay a = (0, ci, fs)) (hv : fs[k]? = some none) (hn : narrow ty (.int x) = .int x) (hfit : fits ty (.int x) = true) (kk : AW M d P (pc + 3) ls st (up2 μ a k x) ν) : AW M d P pc ls (.int x :: .ref a :: st) μ ν := by
  intro _ p l e R s m args below meth c cells slots Q ad dC dI ca A C H locs lsC hW hl
  obtain ⟨⟨hx, hb, hml, hown, hts⟩, hK, hA, hR, hend, hscr, hNW⟩ := id C
  have ha : a < NO := lay_lt (by rw [hy]; show (0 : Nat) ≠ 9; decide)
  obtain ⟨Cn, T, N, ty0, hc, hkN, hlink, hT1, hin, hty, hnm, hfin, hdc⟩ := hf
  have he : (wl ad ca μ ν)[a]? = some (ad a, .inr (ci, fs.mapIdx (fun j o => fv1 ad o (μ a j)))) := by
    rw [wl_get ha, hy]
    rfl
  have hlen : k < (fs.mapIdx (fun j o => fv1 ad o (μ a j))).length := by
    rw [List.length_mapIdx]
    exact (List.getElem?_eq_some_iff.mp hv).1
  have hset : (fs.mapIdx (fun j o => fv1 ad o (μ a j))).set k (.int x) = fs.mapIdx (fun j o => fv1 ad o (up2 μ a k x a j)) := by
    apply List.ext_getElem?
    intro i
    by_cases hi : i = k
    · subst hi
      rw [List.getElem?_set_self hlen, List.getElem?_mapIdx, hv, Option.map_some, up2_s]
      rfl
    · rw [List.getElem?_set_ne (fun h => hi h.symm), List.getElem?_mapIdx, List.getElem?_mapIdx, up2_b _ _ hi]
  refine va_put (D := (dC, dI)) (v := .int x) hx hb hts hin ty0 hty hnm hown hK hW.1 hW.2.1 hW.2.2 a he hc k hkN (hts _ hlink) (fun x h => by rw [hT1] at h; exact h) hfin hdc hn hfit hlen hd (fun H1 locs1 hP1 hD1 hS1 => ?_)
  have hw : (wl ad ca μ ν).set a (ad a, .inr (ci, (fs.mapIdx (fun j o => fv1 ad o (μ a j))).set k (.int x))) = wl ad ca (up2 μ a k x) ν :=
    wl_set ha (by rw [hset, hy]; rfl) (fun b hb9 => ⟨up2_row μ a k x b hb9, rfl⟩)
  rw [hw] at hP1 hD1
  exact kk trivial C ⟨hP1, hD1, hS1⟩ hl
theorem A_iald {M : MInfo} {d : Lv} {P : Po} {pc : Nat} {ls : List (Option Value)} {st : List Value} {μ : MI} {ν : ML} {a n : Nat} {i : Int32} (hd : DC M pc .iaload 1) (hy : lay a = (1, n, [])) (hin : vp_in i n) (kk : AW M d P (pc + 1) ls (.int (μ a i.toNatClampNeg) :: st) μ ν) : AW M d P pc ls (.int i :: .ref a :: st) μ ν := by
  intro _ p l e R s m args below meth c cells slots Q ad dC dI ca A C H locs lsC hW hl
  obtain ⟨⟨hx, hb, hml, hown, hts⟩, hK, hA, hR, hend, hscr, hNW⟩ := id C
  have ha : a < NO := lay_lt (by rw [hy]; show (1 : Nat) ≠ 9; decide)
  have he : (wl ad ca μ ν)[a]? = some (ad a, .inl (ca 0, n, .inl (μ a))) := by
    rw [wl_get ha, hy]
    rfl
  exact va_iald (D := (dC, dI)) hx hb hK hW.1 a 0 he rfl hin hd (kk trivial C hW hl)
theorem A_zald {M : MInfo} {d : Lv} {P : Po} {pc : Nat} {ls : List (Option Value)} {st : List Value} {μ : MI} {ν : ML} {a n : Nat} {i : Int32} (hd : DC M pc .baload 1) (hy : lay a = (2, n, [])) (hin : vp_in i n) (kk : AW M d P (pc + 1) ls (.int (μ a i.toNatClampNeg) :: st) μ ν) : AW M d P pc ls (.int i :: .ref a :: st) μ ν := by
  intro _ p l e R s m args below meth c cells slots Q ad dC dI ca A C H locs lsC hW hl
  obtain ⟨⟨hx, hb, hml, hown, hts⟩, hK, hA, hR, hend, hscr, hNW⟩ := id C
  have ha : a < NO := lay_lt (by rw [hy]; show (2 : Nat) ≠ 9; decide)
  have he : (wl ad ca μ ν)[a]? = some (ad a, .inl (ca 1, n, .inl (μ a))) := by
    rw [wl_get ha, hy]
    rfl
  exact va_zald (D := (dC, dI)) hx hb hK hW.1 a 1 he rfl hin hd (kk trivial C hW hl)
theorem A_lald {M : MInfo} {d : Lv} {P : Po} {pc : Nat} {ls : List (Option Value)} {st : List Value} {μ : MI} {ν : ML} {a n : Nat} {i : Int32} (hd : DC M pc .laload 1) (hy : lay a = (3, n, [])) (hin : vp_in i n) (kk : AW M d P (pc + 1) ls (.long (ν a i.toNatClampNeg) :: st) μ ν) : AW M d P pc ls (.int i :: .ref a :: st) μ ν := by
  intro _ p l e R s m args below meth c cells slots Q ad dC dI ca A C H locs lsC hW hl
  obtain ⟨⟨hx, hb, hml, hown, hts⟩, hK, hA, hR, hend, hscr, hNW⟩ := id C
  have ha : a < NO := lay_lt (by rw [hy]; show (3 : Nat) ≠ 9; decide)
  have he : (wl ad ca μ ν)[a]? = some (ad a, .inl (ca 2, n, .inr (.inl (ν a)))) := by
    rw [wl_get ha, hy]
    rfl
  exact va_lald (D := (dC, dI)) hx hb hK hW.1 a 2 he rfl hin hd (kk trivial C hW hl)
theorem A_ialdN {M : MInfo} {d : Lv} {P : Po} {pc : Nat} {ls : List (Option Value)} {st : List Value} {μ : MI} {ν : ML} {a n j : Nat} {i : Int32} (hd : DC M pc .iaload 1) (hy : lay a = (1, n, [])) (hi : i = nI j) (hj : j < n) (hn : n < 2 ^ 31) (kk : AW M d P (pc + 1) ls (.int (μ a j) :: st) μ ν) : AW M d P pc ls (.int i :: .ref a :: st) μ ν := by
  subst hi
  refine A_iald hd hy (vp_in_nI hj hn) ?_
  rw [nI_clamp (by omega)]
  exact kk
theorem A_zaldN {M : MInfo} {d : Lv} {P : Po} {pc : Nat} {ls : List (Option Value)} {st : List Value} {μ : MI} {ν : ML} {a n j : Nat} {i : Int32} (hd : DC M pc .baload 1) (hy : lay a = (2, n, [])) (hi : i = nI j) (hj : j < n) (hn : n < 2 ^ 31) (kk : AW M d P (pc + 1) ls (.int (μ a j) :: st) μ ν) : AW M d P pc ls (.int i :: .ref a :: st) μ ν := by
  subst hi
  refine A_zald hd hy (vp_in_nI hj hn) ?_
  rw [nI_clamp (by omega)]
  exact kk
theorem A_laldN {M : MInfo} {d : Lv} {P : Po} {pc : Nat} {ls : List (Option Value)} {st : List Value} {μ : MI} {ν : ML} {a n j : Nat} {i : Int32} (hd : DC M pc .laload 1) (hy : lay a = (3, n, [])) (hi : i = nI j) (hj : j < n) (hn : n < 2 ^ 31) (kk : AW M d P (pc + 1) ls (.long (ν a j) :: st) μ ν) : AW M d P pc ls (.int i :: .ref a :: st) μ ν := by
  subst hi
  refine A_lald hd hy (vp_in_nI hj hn) ?_
  rw [nI_clamp (by omega)]
  exact kk
theorem up2_upd (μ : MI) (a j : Nat) (x : Int32) : up2 μ a j x a = upd (μ a) j x := by
  funext b
  by_cases h : b = j
  · subst h
    rw [up2_s, pk_us]
  · rw [up2_b _ _ h, pk_un h]
theorem up2_updL (ν : ML) (a j : Nat) (x : Int64) : up2 ν a j x a = vp_updL (ν a) j x := by
  funext b
  by_cases h : b = j
  · subst h
    rw [up2_s, pk_uLs]
  · rw [up2_b _ _ h, pk_uLn h]
theorem A_iast {M : MInfo} {d : Lv} {P : Po} {pc : Nat} {ls : List (Option Value)} {st : List Value} {μ : MI} {ν : ML} {a n : Nat} {i : Int32} {x : Int32} (hd : DC M pc .iastore 1) (hy : lay a = (1, n, [])) (hin : vp_in i n) (kk : AW M d P (pc + 1) ls st (up2 μ a i.toNatClampNeg x) ν) : AW M d P pc ls (.int x :: .int i :: .ref a :: st) μ ν := by
  intro _ p l e R s m args below meth c cells slots Q ad dC dI ca A C H locs lsC hW hl
  obtain ⟨⟨hx, hb, hml, hown, hts⟩, hK, hA, hR, hend, hscr, hNW⟩ := id C
  have ha : a < NO := lay_lt (by rw [hy]; show (1 : Nat) ≠ 9; decide)
  have he : (wl ad ca μ ν)[a]? = some (ad a, .inl (ca 0, n, .inl (μ a))) := by
    rw [wl_get ha, hy]
    rfl
  refine va_iast (D := (dC, dI)) hx hb hK hW.1 hW.2.1 hW.2.2 a 0 he rfl hin hd (fun H1 locs1 hP1 hD1 hS1 => ?_)
  have hw : (wl ad ca μ ν).set a (ad a, .inl (ca 0, n, .inl (upd (μ a) i.toNatClampNeg x))) = wl ad ca (up2 μ a i.toNatClampNeg x) ν :=
    wl_set ha (by rw [hy]; show _ = _; rw [up2_upd]; rfl) (fun b hb9 => ⟨up2_row μ a _ x b hb9, rfl⟩)
  rw [hw] at hP1 hD1
  exact kk trivial C ⟨hP1, hD1, hS1⟩ hl
theorem A_zast {M : MInfo} {d : Lv} {P : Po} {pc : Nat} {ls : List (Option Value)} {st : List Value} {μ : MI} {ν : ML} {a n : Nat} {i : Int32} {x : Int32} (hd : DC M pc .bastore 1) (hy : lay a = (2, n, [])) (hin : vp_in i n) (kk : AW M d P (pc + 1) ls st (up2 μ a i.toNatClampNeg (vp_nar .boolean x)) ν) : AW M d P pc ls (.int x :: .int i :: .ref a :: st) μ ν := by
  intro _ p l e R s m args below meth c cells slots Q ad dC dI ca A C H locs lsC hW hl
  obtain ⟨⟨hx, hb, hml, hown, hts⟩, hK, hA, hR, hend, hscr, hNW⟩ := id C
  have ha : a < NO := lay_lt (by rw [hy]; show (2 : Nat) ≠ 9; decide)
  have he : (wl ad ca μ ν)[a]? = some (ad a, .inl (ca 1, n, .inl (μ a))) := by
    rw [wl_get ha, hy]
    rfl
  refine va_zast (D := (dC, dI)) hx hb hK hW.1 hW.2.1 hW.2.2 a 1 he rfl hin hd (fun H1 locs1 hP1 hD1 hS1 => ?_)
  have hw : (wl ad ca μ ν).set a (ad a, .inl (ca 1, n, .inl (upd (μ a) i.toNatClampNeg (vp_nar .boolean x)))) = wl ad ca (up2 μ a i.toNatClampNeg (vp_nar .boolean x)) ν :=
    wl_set ha (by rw [hy]; show _ = _; rw [up2_upd]; rfl) (fun b hb9 => ⟨up2_row μ a _ _ b hb9, rfl⟩)
  rw [hw] at hP1 hD1
  exact kk trivial C ⟨hP1, hD1, hS1⟩ hl
theorem A_last {M : MInfo} {d : Lv} {P : Po} {pc : Nat} {ls : List (Option Value)} {st : List Value} {μ : MI} {ν : ML} {a n : Nat} {i : Int32} {x : Int64} (hd : DC M pc .lastore 1) (hy : lay a = (3, n, [])) (hin : vp_in i n) (kk : AW M d P (pc + 1) ls st μ (up2 ν a i.toNatClampNeg x)) : AW M d P pc ls (.long x :: .int i :: .ref a :: st) μ ν := by
  intro _ p l e R s m args below meth c cells slots Q ad dC dI ca A C H locs lsC hW hl
  obtain ⟨⟨hx, hb, hml, hown, hts⟩, hK, hA, hR, hend, hscr, hNW⟩ := id C
  have ha : a < NO := lay_lt (by rw [hy]; show (3 : Nat) ≠ 9; decide)
  have he : (wl ad ca μ ν)[a]? = some (ad a, .inl (ca 2, n, .inr (.inl (ν a)))) := by
    rw [wl_get ha, hy]
    rfl
  refine va_last (D := (dC, dI)) hx hb hK hW.1 hW.2.1 hW.2.2 a 2 he rfl hin hd (fun H1 locs1 hP1 hD1 hS1 => ?_)
  have hw : (wl ad ca μ ν).set a (ad a, .inl (ca 2, n, .inr (.inl (vp_updL (ν a) i.toNatClampNeg x)))) = wl ad ca μ (up2 ν a i.toNatClampNeg x) :=
    wl_set ha (by rw [hy]; show _ = _; rw [up2_updL]; rfl) (fun b hb9 => ⟨rfl, up2_row ν a _ x b hb9⟩)
  rw [hw] at hP1 hD1
  exact kk trivial C ⟨hP1, hD1, hS1⟩ hl
theorem A_iastN {M : MInfo} {d : Lv} {P : Po} {pc : Nat} {ls : List (Option Value)} {st : List Value} {μ : MI} {ν : ML} {a n j : Nat} {i : Int32} {x : Int32} (hd : DC M pc .iastore 1) (hy : lay a = (1, n, [])) (hi : i = nI j) (hj : j < n) (hn : n < 2 ^ 31) (kk : AW M d P (pc + 1) ls st (up2 μ a j x) ν) : AW M d P pc ls (.int x :: .int i :: .ref a :: st) μ ν := by
  subst hi
  refine A_iast hd hy (vp_in_nI hj hn) ?_
  rw [nI_clamp (by omega)]
  exact kk
theorem A_zastN {M : MInfo} {d : Lv} {P : Po} {pc : Nat} {ls : List (Option Value)} {st : List Value} {μ : MI} {ν : ML} {a n j : Nat} {i : Int32} {x : Int32} (hd : DC M pc .bastore 1) (hy : lay a = (2, n, [])) (hi : i = nI j) (hj : j < n) (hn : n < 2 ^ 31) (hz : vp_nar .boolean x = x) (kk : AW M d P (pc + 1) ls st (up2 μ a j x) ν) : AW M d P pc ls (.int x :: .int i :: .ref a :: st) μ ν := by
  subst hi
  refine A_zast hd hy (vp_in_nI hj hn) ?_
  rw [nI_clamp (by omega), hz]
  exact kk
theorem A_lastN {M : MInfo} {d : Lv} {P : Po} {pc : Nat} {ls : List (Option Value)} {st : List Value} {μ : MI} {ν : ML} {a n j : Nat} {i : Int32} {x : Int64} (hd : DC M pc .lastore 1) (hy : lay a = (3, n, [])) (hi : i = nI j) (hj : j < n) (hn : n < 2 ^ 31) (kk : AW M d P (pc + 1) ls st μ (up2 ν a j x)) : AW M d P pc ls (.long x :: .int i :: .ref a :: st) μ ν := by
  subst hi
  refine A_last hd hy (vp_in_nI hj hn) ?_
  rw [nI_clamp (by omega)]
  exact kk
theorem A_aald {M : MInfo} {d : Lv} {P : Po} {pc : Nat} {ls : List (Option Value)} {st : List Value} {μ : MI} {ν : ML} {a n j q : Nat} {i : Int32} {rs : List (Option Nat)} (hd : DC M pc .aaload 1) (hy : lay a = (4, n, rs)) (hi : i = nI j) (hj : j < n) (hn : n < 2 ^ 31) (hq : rs.getD j none = some q) (kk : AW M d P (pc + 1) ls (.ref q :: st) μ ν) : AW M d P pc ls (.int i :: .ref a :: st) μ ν := by
  intro _ p l e R s m args below meth c cells slots Q ad dC dI ca A C H locs lsC hW hl
  obtain ⟨⟨hx, hb, hml, hown, hts⟩, hK, hA, hR, hend, hscr, hNW⟩ := id C
  subst hi
  have ha : a < NO := lay_lt (by rw [hy]; show (4 : Nat) ≠ 9; decide)
  have he : (wl ad ca μ ν)[a]? = some (ad a, .inl (ca 3, n, .inr (.inr (.inr (.inr (fun j => (rs.getD j none).map ad)))))) := by
    rw [wl_get ha, hy]
    rfl
  have hc : (nI j).toNatClampNeg = j := nI_clamp (by omega)
  have hin : vp_in (nI j) n := vp_in_nI hj hn
  exact W.aald (v := .ref (ad q)) (ty := .array .int) hx hb (hW.1 a _ he) ((hK.2 3 _ rfl).1 n (fun j => va_rf ((rs.getD j none).map ad))) rfl (fun q => by cases q) (by show ¬ (nI j < 0 ∨ (arrV _ _ _).slots.size ≤ _); rw [arrV_size]; exact hin) (by show (arrV _ _ _).slots[_]? = _; rw [arrV_read _ _ (by rw [hc]; exact hj), hc]; show some (va_rf ((rs.getD j none).map ad)) = _; rw [hq]; rfl) rfl rfl hd (kk trivial C hW hl)
theorem A_alen {M : MInfo} {d : Lv} {P : Po} {pc : Nat} {ls : List (Option Value)} {st : List Value} {μ : MI} {ν : ML} {a n : Nat} (hd : DC M pc .arraylength 1) (hy : lay a = (1, n, [])) (kk : AW M d P (pc + 1) ls (.int (nI n) :: st) μ ν) : AW M d P pc ls (.ref a :: st) μ ν := by
  intro _ p l e R s m args below meth c cells slots Q ad dC dI ca A C H locs lsC hW hl
  obtain ⟨⟨hx, hb, hml, hown, hts⟩, hK, hA, hR, hend, hscr, hNW⟩ := id C
  have ha : a < NO := lay_lt (by rw [hy]; show (1 : Nat) ≠ 9; decide)
  have he : (wl ad ca μ ν)[a]? = some (ad a, .inl (ca 0, n, .inl (μ a))) := by
    rw [wl_get ha, hy]
    rfl
  exact va_alen (D := (dC, dI)) hx hb hK hW.1 a 0 he (ty := .int) rfl rfl hd (kk trivial C hW hl)
theorem A_sld {M : MInfo} {d : Lv} {P : Po} {pc : Nat} {ls : List (Option Value)} {st : List Value} {μ : MI} {ν : ML} {L : Nat} {xs : Nat → Int32} {i : Int32} (hd : DC M pc .iaload 1) (hs : d.2 = some (L, xs)) (hin : vp_in i L) (kk : AW M d P (pc + 1) ls (.int (xs i.toNatClampNeg) :: st) μ ν) : AW M d P pc ls (.int i :: .ref NO :: st) μ ν := by
  intro _ p l e R s m args below meth c cells slots Q ad dC dI ca A C H locs lsC hW hl
  obtain ⟨⟨hx, hb, hml, hown, hts⟩, hK, hA, hR, hend, hscr, hNW⟩ := id C
  obtain ⟨hX, hbl, hbA⟩ := hscr L xs hs
  exact va_sld hx hb hX hbl hbA hW.2.2 hin hd (kk trivial C hW hl)
theorem A_slen {M : MInfo} {d : Lv} {P : Po} {pc : Nat} {ls : List (Option Value)} {st : List Value} {μ : MI} {ν : ML} {L : Nat} {xs : Nat → Int32} (hd : DC M pc .arraylength 1) (hs : d.2 = some (L, xs)) (kk : AW M d P (pc + 1) ls (.int (nI L) :: st) μ ν) : AW M d P pc ls (.ref NO :: st) μ ν := by
  intro _ p l e R s m args below meth c cells slots Q ad dC dI ca A C H locs lsC hW hl
  obtain ⟨⟨hx, hb, hml, hown, hts⟩, hK, hA, hR, hend, hscr, hNW⟩ := id C
  obtain ⟨hX, hbl, hbA⟩ := hscr L xs hs
  exact va_slen hx hb hX hbl hbA hW.2.2 hd (kk trivial C hW hl)
theorem A_iret {M : MInfo} {d : Lv} {P : Po} {pc : Nat} {ls : List (Option Value)} {μ : MI} {ν : ML} {x : Int32} {rt : FieldType} (hd : DC M pc .ireturn 1) (hr : mRet M = some rt) (hn : narrow rt (.int x) = .int x) (hP : P (some (.int x)) μ ν) : AW M d P pc ls [.int x] μ ν := by
  intro _ p l e R s m args below meth c cells slots Q ad dC dI ca A C H locs lsC hW hl
  obtain ⟨⟨hx, hb, hml, hown, hts⟩, hK, hA, hR, hend, hscr, hNW⟩ := id C
  exact hend pc lsC (some (.int x)) μ ν H locs (Or.inl ⟨hd, x, rt, rfl, hr, hn⟩) hP hW
theorem A_lret {M : MInfo} {d : Lv} {P : Po} {pc : Nat} {ls : List (Option Value)} {μ : MI} {ν : ML} {x : Int64} (hd : DC M pc .lreturn 1) (hr : mRet M = some .long) (hP : P (some (.long x)) μ ν) : AW M d P pc ls [.long x] μ ν := by
  intro _ p l e R s m args below meth c cells slots Q ad dC dI ca A C H locs lsC hW hl
  obtain ⟨⟨hx, hb, hml, hown, hts⟩, hK, hA, hR, hend, hscr, hNW⟩ := id C
  exact hend pc lsC (some (.long x)) μ ν H locs (Or.inr (Or.inl ⟨hd, x, rfl, hr⟩)) hP hW
theorem A_vret {M : MInfo} {d : Lv} {P : Po} {pc : Nat} {ls : List (Option Value)} {μ : MI} {ν : ML} (hd : DC M pc .return_ 1) (hr : mRet M = none) (hP : P none μ ν) : AW M d P pc ls [] μ ν := by
  intro _ p l e R s m args below meth c cells slots Q ad dC dI ca A C H locs lsC hW hl
  obtain ⟨⟨hx, hb, hml, hown, hts⟩, hK, hA, hR, hend, hscr, hNW⟩ := id C
  exact hend pc lsC none μ ν H locs (Or.inr (Or.inr ⟨hd, rfl, hr⟩)) hP hW
theorem A_few {M : MInfo} {d : Lv} {P : Po} {pc : Nat} {ls : List (Option Value)} {st : List Value} {μ : MI} {ν : ML} {ls0 : List (Option Value)} (hf : fewer ls0 ls) (kk : AW M d P pc ls0 st μ ν) : AW M d P pc ls st μ ν := by
  intro _ p l e R s m args below meth c cells slots Q ad dC dI ca A C H locs lsC hW hl
  obtain ⟨⟨hx, hb, hml, hown, hts⟩, hK, hA, hR, hend, hscr, hNW⟩ := id C
  exact kk trivial C hW ⟨hl.1, hl.2.1, fun i v h => hl.2.2 i v (fewer_get hf i v h)⟩
/-! calls -/
theorem va_callG {M : MInfo} {d : Lv} {P : Po} {p : Program} {l : Launch} {e : Env} {R : Room} {s : State} {m : MethodId} {args : Array Value} {below : List Frame} {meth : Method} {c : Code} {cells slots : Nat} {Q : State → Prop} {ad : Nat → Nat} {dC : Nat → ClassId} {dI : Nat → Nat → Nat} {ca : Nat → ClassId} {A : Nat → Prop} {H : Heap} {locs : List Loc} {lsC : Array Slot} {μ : MI} {ν : ML} {pc : Nat} {ls : List (Option Value)} {st0 st : List Value} {a : Array Value}
    (C : Cx M d P p l e R s m args below meth c cells slots Q ad dC dI ca A) (hW : Wd ad dC dI ca A s μ ν H locs) (hl : Ls ad (mLoc M) ls lsC)
    (hr : va_Run p l e R s m args below meth c H locs cells slots 0 0 (F0 m pc lsC st0) (st.map (cv ad)) (QG ad dC dI ca (Kn M d P (pc + 3) ls st) (Ad ad H.size) a) (Ad ad H.size)) : W p l e R s m args below meth c H locs cells slots Q (F0 m pc lsC st0) := by
  have hA1 : ∀ q : Nat, Ad ad H.size q → A q := by
    intro q hq
    rcases hq with ⟨k, hk, rfl⟩ | hq
    · exact hW.2.1.2 k _ (wl_get hk)
    · exact C.2.2.1 q (Nat.le_trans hW.2.2.1 hq)
  intro T hT X
  obtain ⟨v, st₀, t, T', L, h0, X', hL, e1, e2, ⟨⟨r, μ1, ν1, hv, hp, hb⟩, hz, hk⟩, stp⟩ := hr T hT X
  cases hv
  rw [h0] at hz hk
  have hS := hW.2.2
  have hS1 : va_S A s.heap T'.heap (locs ++ L) := ⟨Nat.le_trans hS.1 (by rw [e1]; exact hz), fun q h1 h2 => by rw [e1, hk q (Nat.lt_of_lt_of_le h1 hS.1) (fun z => h2 (hA1 q z))]; exact hS.2.1 q h1 h2, fun q hq => by
      rcases List.mem_append.mp hq with h | h
      · exact hS.2.2 q h
      · exact hA1 _ (hL q h)⟩
  obtain ⟨t2, a1, b1⟩ := hp trivial C (H := T'.heap) (locs := locs ++ L) (lsC := lsC) ⟨by rw [e1]; exact hb, wl_D hW.2.1, hS1⟩ hl T' rfl X'
  refine ⟨t2, stp t2 ?_, b1⟩
  have he : (r.toList ++ st).map (cv ad) = (r.map (cv ad)).toList ++ st.map (cv ad) := by cases r <;> rfl
  rw [he] at a1
  exact a1
theorem pre_blind {ad : Nat → Nat} {dC : Nat → ClassId} {dI : Nat → Nat → Nat} {ca : Nat → ClassId} {μ : MI} {ν : ML} {sz : Nat} {av : List Value} : FrameBlind (va_Pc av (fun U => U.heap.size = sz ∧ va_P (dC, dI) vwCl (wl ad ca μ ν) U.heap ∧ va_K (dC, dI) vwCl (tysOf ca) U ∧ va_D (fun _ => True) (wl ad ca μ ν) ∧ NW U)) := by
  intro a U g mk q
  obtain ⟨q0, q1, qP, qK, qD, qN⟩ := q
  exact ⟨q0, q1, qP, va_K.moved (u := U) (U := U.calling g mk a) (Vm.Alike.refl U.vm) qK, qD, NW.same (s := U) (U := U.calling g mk a) rfl qN⟩
theorem room_ok {R : Room} {d : Lv} {d1 n : Nat} (hR : d.1 ≤ R.frames ∧ 40 * d.1 ≤ R.locals) (hd : d1 < d.1) (hn : n ≤ 21) : (rmD d1).frames + 1 ≤ R.frames ∧ 8 + (n + 11) + (rmD d1).locals ≤ R.locals := by
  have h1 : (rmD d1).frames = d1 := rfl
  have h2 : (rmD d1).locals = 40 * d1 := rfl
  rw [h1, h2]
  omega
theorem map_rev (ad : Nat → Nat) (as st : List Value) : (as.reverse ++ st).map (cv ad) = (as.map (cv ad)).reverse ++ st.map (cv ad) := by
  rw [List.map_append, List.map_reverse]
theorem st_room (ad : Nat → Nat) {st : List Value} (h : (st.map fun v => v.category).sum ≤ 8) : ((st.map (cv ad)).map fun v => v.category).sum ≤ 8 := by
  rw [cv_sum]
  exact h
theorem A_callV {M M1 : MInfo} {d : Lv} {P : Po} {pc d1 idx n a ci : Nat} {Cn : String} {ls : List (Option Value)} {as st : List Value} {fs : List (Option Nat)} {μ : MI} {ν : ML} {T : u_T} {N : Nat} (hd : DC M pc (.invokevirtual idx) 3) (hm : VL (mOwn M) idx Cn M1 n) (hdd : d1 < d.1) (hy : lay a = (0, ci, fs)) (hci : vwCl[ci]? = some (Cn, T, N)) (hn : as.length = n) (hr : (st.map fun v => v.category).sum ≤ 8) (hC : Ct M1 d1 (.ref a :: as) μ ν (Kn M d P (pc + 3) ls st)) : AW M d P pc ls (as.reverse ++ .ref a :: st) μ ν := by
  intro _ p l e R s m args below meth c cells slots Q ad dC dI ca A C H locs lsC hW hl
  obtain ⟨hS, hK, hA, hR, hend, hscr, hNW⟩ := id C
  obtain ⟨hmw, hw1, hw2, hw3⟩ := hm
  have ha : a < NO := lay_lt (by rw [hy]; show (0 : Nat) ≠ 9; decide)
  have he : (wl ad ca μ ν)[a]? = some (ad a, .inr (ci, fs.mapIdx (fun j o => fv1 ad o (μ a j)))) := by
    rw [wl_get ha, hy]
    rfl
  have hts := hS.2.2.2.2
  have cw : CallW R s args (mOwn M) Cn idx (mName M1) (mCode M1) (mLoc M1) (mRet M1) (mWs M1) (rmD d1) 0 0 n :=
    ⟨callB_of n hts (mWs_good hmw) rfl rfl rfl (hts _ hmw.1) (hts _ hw1) ⟨hmw.2.2.1.1, hmw.2.2.1.2, hmw.2.2.2.1⟩ (room_ok ⟨hR.1, hR.2.1⟩ hdd hmw.2.2.2.2), hts _ hw2, hts _ hw3⟩
  rw [map_rev]
  exact va_callG C hW hl (va_runV (As := as.map (cv ad)) (b := ad a) hS (hC l ad dC dI ca H.size) cw ⟨pre_blind, va_recv hK hW.1 hci he, fun U hU hw => ⟨rfl, by rw [hU], by rw [hU]; exact hW.1, va_K.moved hw.alike hK, hW.2.1.weaken (fun _ _ _ _ => trivial), NW.warm hw hNW⟩⟩ rfl (by rw [List.length_map]; exact hn) hl.1 rfl (lv_room (st_room ad hr)) hd ⟨hR.2.2.1, hR.2.2.2⟩)
theorem A_callS {M M1 : MInfo} {d : Lv} {P : Po} {pc d1 idx n : Nat} {ls : List (Option Value)} {as st : List Value} {μ : MI} {ν : ML} (hd : DC M pc (.invokestatic idx) 3) (hm : SL (mOwn M) idx M1 n) (hdd : d1 < d.1) (hn : as.length = n) (hr : (st.map fun v => v.category).sum ≤ 8) (hC : Ct M1 d1 as μ ν (Kn M d P (pc + 3) ls st)) : AW M d P pc ls (as.reverse ++ st) μ ν := by
  intro _ p l e R s m args below meth c cells slots Q ad dC dI ca A C H locs lsC hW hl
  obtain ⟨hS, hK, hA, hR, hend, hscr, hNW⟩ := id C
  obtain ⟨hmw, hw1, hw2⟩ := hm
  have hts := hS.2.2.2.2
  have cw : CallB R s args (mOwn M) idx (mName M1) (mCode M1) (mLoc M1) (mRet M1) (mWs M1) (rmD d1) 0 0 n ∧ (Cond.static (mName M1)).before args s = true :=
    ⟨callB_of n hts (mWs_good hmw) rfl rfl rfl (hts _ hmw.1) (hts _ hw1) ⟨hmw.2.2.1.1, hmw.2.2.1.2, hmw.2.2.2.1⟩ (room_ok ⟨hR.1, hR.2.1⟩ hdd hmw.2.2.2.2), hts _ hw2⟩
  rw [map_rev]
  exact va_callG C hW hl (va_runS (As := as.map (cv ad)) hS (hC l ad dC dI ca H.size) cw ⟨pre_blind, fun U hU hw => ⟨rfl, by rw [hU], by rw [hU]; exact hW.1, va_K.moved hw.alike hK, hW.2.1.weaken (fun _ _ _ _ => trivial), NW.warm hw hNW⟩⟩ rfl (by rw [List.length_map]; exact hn) hl.1 rfl (lv_room (st_room ad hr)) hd ⟨hR.2.2.1, hR.2.2.2⟩)
theorem A_callN {M M1 : MInfo} {d : Lv} {P : Po} {pc d1 idx n : Nat} {host : String} {ls : List (Option Value)} {as st : List Value} {μ : MI} {ν : ML} (hd : DC M pc (.invokestatic idx) 3) (hm : SN (mOwn M) idx host M1 n) (hdd : d1 < d.1) (hn : as.length = n) (hr : (st.map fun v => v.category).sum ≤ 8) (hC : Ct M1 d1 as μ ν (Kn M d P (pc + 3) ls st)) : AW M d P pc ls (as.reverse ++ st) μ ν := by
  intro _ p l e R s m args below meth c cells slots Q ad dC dI ca A C H locs lsC hW hl
  obtain ⟨hS, hK, hA, hR, hend, hscr, hNW⟩ := id C
  obtain ⟨hmw, hw1, hw2⟩ := hm
  have hts := hS.2.2.2.2
  have cw : va_CN R s args (mOwn M) idx (mName M1) host (mCode M1) (mLoc M1) (mRet M1) (mWs M1) (rmD d1) 0 0 n ∧ (Cond.static (mName M1)).before args s = true ∧ True :=
    ⟨va_cnB n hts (mWs_good hmw) rfl rfl rfl (hNW _ hw1) (hts _ hmw.1) ⟨hmw.2.2.1.1, hmw.2.2.1.2, hmw.2.2.2.1⟩ (room_ok ⟨hR.1, hR.2.1⟩ hdd hmw.2.2.2.2), hts _ hw2, trivial⟩
  rw [map_rev]
  exact va_callG C hW hl (va_runSN (As := as.map (cv ad)) hS (hC l ad dC dI ca H.size) cw ⟨pre_blind, fun U hU hw => ⟨rfl, by rw [hU], by rw [hU]; exact hW.1, va_K.moved hw.alike hK, hW.2.1.weaken (fun _ _ _ _ => trivial), NW.warm hw hNW⟩⟩ rfl (by rw [List.length_map]; exact hn) hl.1 rfl (lv_room (st_room ad hr)) hd ⟨hR.2.2.1, hR.2.2.2⟩)
/-- a method out of its walk -/
def aw_ini (nL : Nat) (as : List Value) : List (Option Value) := (as.flatMap (fun v => if v.category = 2 then [some v, none] else [some v])) ++ List.replicate (nL - (lg_sl as).length) none
theorem ini_args : ∀ (as : List Value) (o : Nat) (i : Nat) (v : Value), (as.flatMap (fun v => if v.category = 2 then [some v, none] else [some v]))[i]? = some (some v) → (o + i, v) ∈ lv_args o as
  | [], o, i, v, h => by simp at h
  | u :: as, o, i, v, h => by
    rw [List.flatMap_cons] at h
    by_cases hc : u.category = 2
    · rw [if_pos hc] at h
      unfold lv_args
      rw [if_pos hc]
      match i, h with
      | 0, h =>
        cases h
        exact List.mem_cons_self
      | 1, h => cases h
      | i + 2, h =>
        have h2 := ini_args as (o + 2) i v (by simpa using h)
        rw [show o + (i + 2) = o + 2 + i by omega]
        exact List.mem_cons_of_mem _ h2
    · rw [if_neg hc] at h
      unfold lv_args
      rw [if_neg hc]
      match i, h with
      | 0, h =>
        cases h
        exact List.mem_cons_self
      | i + 1, h =>
        have h2 := ini_args as (o + 1) i v (by simpa using h)
        rw [show o + (i + 1) = o + 1 + i by omega]
        exact List.mem_cons_of_mem _ h2
theorem args_map (ad : Nat → Nat) : ∀ (as : List Value) (o : Nat), lv_args o (as.map (cv ad)) = (lv_args o as).map (fun q => (q.1, cv ad q.2))
  | [], _ => rfl
  | u :: as, o => by
    simp only [List.map_cons, lv_args, cv_cat]
    rw [args_map ad as]
theorem sl_map (ad : Nat → Nat) (as : List Value) : (lg_sl (as.map (cv ad))).length = (lg_sl as).length := by
  induction as with
  | nil => rfl
  | cons u as ih =>
    unfold lg_sl at ih ⊢
    rw [List.map_cons, List.flatMap_cons, List.flatMap_cons, List.length_append, List.length_append, ih, cv_cat]
    by_cases h : u.category = 2 <;> simp [h]
theorem Ls.ini {ad : Nat → Nat} {nL : Nat} {as : List Value} (h : (lg_sl as).length ≤ nL) : Ls ad nL (aw_ini nL as) ((lg_sl (as.map (cv ad)) ++ List.replicate (nL - (lg_sl (as.map (cv ad))).length) Slot.unset).toArray) := by
  have hl := lv_entry (as.map (cv ad)) (n := nL) (by rw [sl_map]; exact h)
  refine ⟨hl.1, hl.2.1, fun i v hv => ?_⟩
  unfold aw_ini at hv
  have h1 : (as.flatMap (fun v => if v.category = 2 then [some v, none] else [some v]))[i]? = some (some v) := by
    by_cases hi : i < (as.flatMap (fun v => if v.category = 2 then [some v, none] else [some v])).length
    · rwa [List.getElem?_append_left hi] at hv
    · rw [List.getElem?_append_right (by omega), List.getElem?_replicate] at hv
      split at hv <;> cases hv
  have h2 := ini_args as 0 i v h1
  refine hl.2.2 (i, cv ad v) ?_
  rw [args_map]
  exact List.mem_map.mpr ⟨(i, v), by rw [Nat.zero_add] at h2; exact h2, rfl⟩
theorem Ct.of {M : MInfo} {d : Nat} {as : List Value} {μ : MI} {ν : ML} {P : Po} {ls0 : List (Option Value)} (hpl : plainName (mName M).cls = true) (hoo : mOwn M = (mName M).cls) (hlen : (lg_sl as).length ≤ mLoc M) (hini : aw_ini (mLoc M) as = ls0) (h : AW M (d, none) P 0 ls0 [] μ ν) : Ct M d as μ ν P := by
  intro l ad dC dI ca sz
  refine Met.ofW (cc := mCode M) (maxL := mLoc M) (ret := mRet M) hpl rfl ?_
  intro p e s m args below meth c s₁ B hml hv
  obtain ⟨rfl, hsz, hP, hK, hD0, hNW⟩ := hv
  have hx := B.exec
  have hb := B.bytes
  have hr := B.returns
  have hts0 := atoms_spec (ws := mWs M) B.pre
  have hts : ∀ w ∈ lw_g, w.before (as.map (cv ad)).toArray s = true := fun w hw => hts0 w (List.mem_cons_of_mem _ hw)
  have hown : s.vm.findClass (mOwn M) = some m.cls := by rw [hoo]; exact findClass_of_methodNamed B.named
  have hlocks := B.notSynchronized
  subst hsz
  have hD : va_D (Ad ad s.heap.size) (wl ad ca μ ν) := ⟨hD0.1, fun k q hk => Or.inl ⟨k, (wl_out hk).1, (wl_out hk).2⟩⟩
  rw [lg_entry_eq]
  subst hini
  refine h trivial (R := rmD d) (cells := 0) (slots := 0) ⟨⟨hx, hb, hml, hown, hts⟩, hK, fun q hq => Or.inr hq, ⟨Nat.le_refl d, Nat.le_refl (40 * d), Nat.le_refl 0, Nat.le_refl 0⟩, ?_, (fun L xs h => by cases h), hNW⟩ ⟨hP, hD, va_S.rf⟩ (Ls.ini hlen)
  intro pc lsC v μ1 ν1 H locs hret hPost hWd
  rcases hret with ⟨hd, x, rt, rfl, hrt, hn⟩ | ⟨hd, x, rfl, hrt⟩ | ⟨hd, rfl, hrt⟩
  · exact W.zret hx hb (by rw [hr]; exact hrt) hn (fun t ht hW => ⟨⟨some (.int x), μ1, ν1, rfl, hPost, by rw [ht]; exact hWd.1⟩, hWd.2.2.F ht⟩) hWd.2.2.2.2 hd
  · exact W.lret hx hb (by rw [hr]; exact hrt) (fun t ht hW => ⟨⟨some (.long x), μ1, ν1, rfl, hPost, by rw [ht]; exact hWd.1⟩, hWd.2.2.F ht⟩) hWd.2.2.2.2 hd
  · exact W.vret hx hb (by rw [hr]; exact hrt) (fun t ht hW => ⟨⟨none, μ1, ν1, rfl, hPost, by rw [ht]; exact hWd.1⟩, hWd.2.2.F ht⟩) hWd.2.2.2.2 hd
end
section
/-! the rules again, for numbers that are naturals; calls by their arguments' number; the flows' net -/
theorem A_iincN {M : MInfo} {d : Lv} {P : Po} {pc : Nat} {ls : List (Option Value)} {st : List Value} {μ : MI} {ν : ML} {k i : Nat} {ls1 : List (Option Value)} (hd : DC M pc (.iinc k 1) 3) (hv : ls[k]? = some (some (.int (nI i)))) (hi : k < mLoc M) (hok : okS ls k = true) (hs : ls.set k (some (.int (nI (i + 1)))) = ls1) (kk : AW M d P (pc + 3) ls1 st μ ν) : AW M d P pc ls st μ ν :=
  A_iinc hd hv (by rw [show Int32.ofInt 1 = (1 : Int32) by decide +kernel]; exact nI_1 i) hi hok hs kk
theorem A_iaddN {M : MInfo} {d : Lv} {P : Po} {pc : Nat} {ls : List (Option Value)} {st : List Value} {μ : MI} {ν : ML} {a b : Nat} (hd : DC M pc .iadd 1) (kk : AW M d P (pc + 1) ls (.int (nI (a + b)) :: st) μ ν) : AW M d P pc ls (.int (nI b) :: .int (nI a) :: st) μ ν :=
  A_iadd hd (by rw [nI_add]; exact kk)
theorem A_imulN {M : MInfo} {d : Lv} {P : Po} {pc : Nat} {ls : List (Option Value)} {st : List Value} {μ : MI} {ν : ML} {a b : Nat} (hd : DC M pc .imul 1) (kk : AW M d P (pc + 1) ls (.int (nI (a * b)) :: st) μ ν) : AW M d P pc ls (.int (nI b) :: .int (nI a) :: st) μ ν :=
  A_imul hd (by rw [pk_mul]; exact kk)
theorem A_iremN {M : MInfo} {d : Lv} {P : Po} {pc : Nat} {ls : List (Option Value)} {st : List Value} {μ : MI} {ν : ML} {a b : Nat} (hd : DC M pc .irem 1) (h0 : 0 < b) (ha : a < 2 ^ 31) (hb : b < 2 ^ 31) (kk : AW M d P (pc + 1) ls (.int (nI (a % b)) :: st) μ ν) : AW M d P pc ls (.int (nI b) :: .int (nI a) :: st) μ ν :=
  A_irem hd (nI_ne0 h0 hb) (by rw [pk_rem ha h0 hb]; exact kk)
theorem A_icmp_eqN {M : MInfo} {d : Lv} {P : Po} {pc : Nat} {ls : List (Option Value)} {st : List Value} {μ : MI} {ν : ML} {a b : Nat} {off : Int} {tgt : Nat} (hd : DC M pc (.if_icmp .eq off) 3) (ht : (pc : Int) + off = (tgt : Int)) (ha : a < 2 ^ 31) (hb : b < 2 ^ 31) (kt : a = b → AW M d P tgt ls st μ ν) (kf : ¬ a = b → AW M d P (pc + 3) ls st μ ν) : AW M d P pc ls (.int (nI b) :: .int (nI a) :: st) μ ν :=
  A_icmp_eq hd ht (fun h => kt ((nI_eq ha hb).mp h)) (fun h => kf (fun q => h ((nI_eq ha hb).mpr q)))
theorem A_icmp_neN {M : MInfo} {d : Lv} {P : Po} {pc : Nat} {ls : List (Option Value)} {st : List Value} {μ : MI} {ν : ML} {a b : Nat} {off : Int} {tgt : Nat} (hd : DC M pc (.if_icmp .ne off) 3) (ht : (pc : Int) + off = (tgt : Int)) (ha : a < 2 ^ 31) (hb : b < 2 ^ 31) (kt : ¬ a = b → AW M d P tgt ls st μ ν) (kf : a = b → AW M d P (pc + 3) ls st μ ν) : AW M d P pc ls (.int (nI b) :: .int (nI a) :: st) μ ν :=
  A_icmp_ne hd ht (fun h => kt (fun q => h ((nI_eq ha hb).mpr q))) (fun h => kf ((nI_eq ha hb).mp h))
theorem A_icmp_ltN {M : MInfo} {d : Lv} {P : Po} {pc : Nat} {ls : List (Option Value)} {st : List Value} {μ : MI} {ν : ML} {a b : Nat} {off : Int} {tgt : Nat} (hd : DC M pc (.if_icmp .lt off) 3) (ht : (pc : Int) + off = (tgt : Int)) (ha : a < 2 ^ 31) (hb : b < 2 ^ 31) (kt : a < b → AW M d P tgt ls st μ ν) (kf : b ≤ a → AW M d P (pc + 3) ls st μ ν) : AW M d P pc ls (.int (nI b) :: .int (nI a) :: st) μ ν :=
  A_icmp_lt hd ht (fun h => kt ((nI_ltI ha hb).mp h)) (fun h => kf (Nat.not_lt.mp (fun q => h ((nI_ltI ha hb).mpr q))))
theorem A_icmp_geN {M : MInfo} {d : Lv} {P : Po} {pc : Nat} {ls : List (Option Value)} {st : List Value} {μ : MI} {ν : ML} {a b : Nat} {off : Int} {tgt : Nat} (hd : DC M pc (.if_icmp .ge off) 3) (ht : (pc : Int) + off = (tgt : Int)) (ha : a < 2 ^ 31) (hb : b < 2 ^ 31) (kt : b ≤ a → AW M d P tgt ls st μ ν) (kf : a < b → AW M d P (pc + 3) ls st μ ν) : AW M d P pc ls (.int (nI b) :: .int (nI a) :: st) μ ν :=
  A_icmp_ge hd ht (fun h => kt ((nI_leI hb ha).mp h)) (fun h => kf (Nat.not_le.mp (fun q => h ((nI_leI hb ha).mpr q))))
theorem A_icmp_gtN {M : MInfo} {d : Lv} {P : Po} {pc : Nat} {ls : List (Option Value)} {st : List Value} {μ : MI} {ν : ML} {a b : Nat} {off : Int} {tgt : Nat} (hd : DC M pc (.if_icmp .gt off) 3) (ht : (pc : Int) + off = (tgt : Int)) (ha : a < 2 ^ 31) (hb : b < 2 ^ 31) (kt : b < a → AW M d P tgt ls st μ ν) (kf : a ≤ b → AW M d P (pc + 3) ls st μ ν) : AW M d P pc ls (.int (nI b) :: .int (nI a) :: st) μ ν :=
  A_icmp_gt hd ht (fun h => kt ((nI_ltI hb ha).mp h)) (fun h => kf (Nat.not_lt.mp (fun q => h ((nI_ltI hb ha).mpr q))))
theorem A_icmp_leN {M : MInfo} {d : Lv} {P : Po} {pc : Nat} {ls : List (Option Value)} {st : List Value} {μ : MI} {ν : ML} {a b : Nat} {off : Int} {tgt : Nat} (hd : DC M pc (.if_icmp .le off) 3) (ht : (pc : Int) + off = (tgt : Int)) (ha : a < 2 ^ 31) (hb : b < 2 ^ 31) (kt : a ≤ b → AW M d P tgt ls st μ ν) (kf : b < a → AW M d P (pc + 3) ls st μ ν) : AW M d P pc ls (.int (nI b) :: .int (nI a) :: st) μ ν :=
  A_icmp_le hd ht (fun h => kt ((nI_leI ha hb).mp h)) (fun h => kf (Nat.not_le.mp (fun q => h ((nI_leI ha hb).mpr q))))
theorem A_callV0 {M M1 : MInfo} {d : Lv} {P : Po} {pc d1 idx a ci : Nat} {ls : List (Option Value)} {st : List Value} {μ : MI} {ν : ML} {Cn : String} {fs : List (Option Nat)} {T : u_T} {N : Nat} (hd : DC M pc (.invokevirtual idx) 3) (hm : VL (mOwn M) idx Cn M1 0) (hdd : d1 < d.1) (hy : lay a = (0, ci, fs)) (hci : vwCl[ci]? = some (Cn, T, N)) (hr : (st.map fun v => v.category).sum ≤ 8) (hC : Ct M1 d1 [.ref a] μ ν (Kn M d P (pc + 3) ls st)) : AW M d P pc ls (.ref a :: st) μ ν :=
  A_callV (as := []) hd hm hdd hy hci rfl hr hC
theorem A_callV1 {M M1 : MInfo} {d : Lv} {P : Po} {pc d1 idx a ci : Nat} {ls : List (Option Value)} {st : List Value} {μ : MI} {ν : ML} {Cn : String} {fs : List (Option Nat)} {T : u_T} {N : Nat} {x1 : Value} (hd : DC M pc (.invokevirtual idx) 3) (hm : VL (mOwn M) idx Cn M1 1) (hdd : d1 < d.1) (hy : lay a = (0, ci, fs)) (hci : vwCl[ci]? = some (Cn, T, N)) (hr : (st.map fun v => v.category).sum ≤ 8) (hC : Ct M1 d1 [.ref a, x1] μ ν (Kn M d P (pc + 3) ls st)) : AW M d P pc ls (x1 :: .ref a :: st) μ ν :=
  A_callV (as := [x1]) hd hm hdd hy hci rfl hr hC
theorem A_callS1 {M M1 : MInfo} {d : Lv} {P : Po} {pc d1 idx : Nat} {ls : List (Option Value)} {st : List Value} {μ : MI} {ν : ML} {x1 : Value} (hd : DC M pc (.invokestatic idx) 3) (hm : SL (mOwn M) idx M1 1) (hdd : d1 < d.1) (hr : (st.map fun v => v.category).sum ≤ 8) (hC : Ct M1 d1 [x1] μ ν (Kn M d P (pc + 3) ls st)) : AW M d P pc ls (x1 :: st) μ ν :=
  A_callS (as := [x1]) hd hm hdd rfl hr hC
theorem A_callN1 {M M1 : MInfo} {d : Lv} {P : Po} {pc d1 idx : Nat} {ls : List (Option Value)} {st : List Value} {μ : MI} {ν : ML} {host : String} {x1 : Value} (hd : DC M pc (.invokestatic idx) 3) (hm : SN (mOwn M) idx host M1 1) (hdd : d1 < d.1) (hr : (st.map fun v => v.category).sum ≤ 8) (hC : Ct M1 d1 [x1] μ ν (Kn M d P (pc + 3) ls st)) : AW M d P pc ls (x1 :: st) μ ν :=
  A_callN (as := [x1]) hd hm hdd rfl hr hC
theorem A_callV2 {M M1 : MInfo} {d : Lv} {P : Po} {pc d1 idx a ci : Nat} {ls : List (Option Value)} {st : List Value} {μ : MI} {ν : ML} {Cn : String} {fs : List (Option Nat)} {T : u_T} {N : Nat} {x1 x2 : Value} (hd : DC M pc (.invokevirtual idx) 3) (hm : VL (mOwn M) idx Cn M1 2) (hdd : d1 < d.1) (hy : lay a = (0, ci, fs)) (hci : vwCl[ci]? = some (Cn, T, N)) (hr : (st.map fun v => v.category).sum ≤ 8) (hC : Ct M1 d1 [.ref a, x1, x2] μ ν (Kn M d P (pc + 3) ls st)) : AW M d P pc ls (x2 :: x1 :: .ref a :: st) μ ν :=
  A_callV (as := [x1, x2]) hd hm hdd hy hci rfl hr hC
theorem A_callS2 {M M1 : MInfo} {d : Lv} {P : Po} {pc d1 idx : Nat} {ls : List (Option Value)} {st : List Value} {μ : MI} {ν : ML} {x1 x2 : Value} (hd : DC M pc (.invokestatic idx) 3) (hm : SL (mOwn M) idx M1 2) (hdd : d1 < d.1) (hr : (st.map fun v => v.category).sum ≤ 8) (hC : Ct M1 d1 [x1, x2] μ ν (Kn M d P (pc + 3) ls st)) : AW M d P pc ls (x2 :: x1 :: st) μ ν :=
  A_callS (as := [x1, x2]) hd hm hdd rfl hr hC
theorem A_callN2 {M M1 : MInfo} {d : Lv} {P : Po} {pc d1 idx : Nat} {ls : List (Option Value)} {st : List Value} {μ : MI} {ν : ML} {host : String} {x1 x2 : Value} (hd : DC M pc (.invokestatic idx) 3) (hm : SN (mOwn M) idx host M1 2) (hdd : d1 < d.1) (hr : (st.map fun v => v.category).sum ≤ 8) (hC : Ct M1 d1 [x1, x2] μ ν (Kn M d P (pc + 3) ls st)) : AW M d P pc ls (x2 :: x1 :: st) μ ν :=
  A_callN (as := [x1, x2]) hd hm hdd rfl hr hC
theorem A_callV3 {M M1 : MInfo} {d : Lv} {P : Po} {pc d1 idx a ci : Nat} {ls : List (Option Value)} {st : List Value} {μ : MI} {ν : ML} {Cn : String} {fs : List (Option Nat)} {T : u_T} {N : Nat} {x1 x2 x3 : Value} (hd : DC M pc (.invokevirtual idx) 3) (hm : VL (mOwn M) idx Cn M1 3) (hdd : d1 < d.1) (hy : lay a = (0, ci, fs)) (hci : vwCl[ci]? = some (Cn, T, N)) (hr : (st.map fun v => v.category).sum ≤ 8) (hC : Ct M1 d1 [.ref a, x1, x2, x3] μ ν (Kn M d P (pc + 3) ls st)) : AW M d P pc ls (x3 :: x2 :: x1 :: .ref a :: st) μ ν :=
  A_callV (as := [x1, x2, x3]) hd hm hdd hy hci rfl hr hC
theorem A_callS3 {M M1 : MInfo} {d : Lv} {P : Po} {pc d1 idx : Nat} {ls : List (Option Value)} {st : List Value} {μ : MI} {ν : ML} {x1 x2 x3 : Value} (hd : DC M pc (.invokestatic idx) 3) (hm : SL (mOwn M) idx M1 3) (hdd : d1 < d.1) (hr : (st.map fun v => v.category).sum ≤ 8) (hC : Ct M1 d1 [x1, x2, x3] μ ν (Kn M d P (pc + 3) ls st)) : AW M d P pc ls (x3 :: x2 :: x1 :: st) μ ν :=
  A_callS (as := [x1, x2, x3]) hd hm hdd rfl hr hC
theorem A_callN3 {M M1 : MInfo} {d : Lv} {P : Po} {pc d1 idx : Nat} {ls : List (Option Value)} {st : List Value} {μ : MI} {ν : ML} {host : String} {x1 x2 x3 : Value} (hd : DC M pc (.invokestatic idx) 3) (hm : SN (mOwn M) idx host M1 3) (hdd : d1 < d.1) (hr : (st.map fun v => v.category).sum ≤ 8) (hC : Ct M1 d1 [x1, x2, x3] μ ν (Kn M d P (pc + 3) ls st)) : AW M d P pc ls (x3 :: x2 :: x1 :: st) μ ν :=
  A_callN (as := [x1, x2, x3]) hd hm hdd rfl hr hC
theorem A_callV4 {M M1 : MInfo} {d : Lv} {P : Po} {pc d1 idx a ci : Nat} {ls : List (Option Value)} {st : List Value} {μ : MI} {ν : ML} {Cn : String} {fs : List (Option Nat)} {T : u_T} {N : Nat} {x1 x2 x3 x4 : Value} (hd : DC M pc (.invokevirtual idx) 3) (hm : VL (mOwn M) idx Cn M1 4) (hdd : d1 < d.1) (hy : lay a = (0, ci, fs)) (hci : vwCl[ci]? = some (Cn, T, N)) (hr : (st.map fun v => v.category).sum ≤ 8) (hC : Ct M1 d1 [.ref a, x1, x2, x3, x4] μ ν (Kn M d P (pc + 3) ls st)) : AW M d P pc ls (x4 :: x3 :: x2 :: x1 :: .ref a :: st) μ ν :=
  A_callV (as := [x1, x2, x3, x4]) hd hm hdd hy hci rfl hr hC
theorem A_callS4 {M M1 : MInfo} {d : Lv} {P : Po} {pc d1 idx : Nat} {ls : List (Option Value)} {st : List Value} {μ : MI} {ν : ML} {x1 x2 x3 x4 : Value} (hd : DC M pc (.invokestatic idx) 3) (hm : SL (mOwn M) idx M1 4) (hdd : d1 < d.1) (hr : (st.map fun v => v.category).sum ≤ 8) (hC : Ct M1 d1 [x1, x2, x3, x4] μ ν (Kn M d P (pc + 3) ls st)) : AW M d P pc ls (x4 :: x3 :: x2 :: x1 :: st) μ ν :=
  A_callS (as := [x1, x2, x3, x4]) hd hm hdd rfl hr hC
theorem A_callN4 {M M1 : MInfo} {d : Lv} {P : Po} {pc d1 idx : Nat} {ls : List (Option Value)} {st : List Value} {μ : MI} {ν : ML} {host : String} {x1 x2 x3 x4 : Value} (hd : DC M pc (.invokestatic idx) 3) (hm : SN (mOwn M) idx host M1 4) (hdd : d1 < d.1) (hr : (st.map fun v => v.category).sum ≤ 8) (hC : Ct M1 d1 [x1, x2, x3, x4] μ ν (Kn M d P (pc + 3) ls st)) : AW M d P pc ls (x4 :: x3 :: x2 :: x1 :: st) μ ν :=
  A_callN (as := [x1, x2, x3, x4]) hd hm hdd rfl hr hC
theorem row_get (f : Nat) {b : Nat} (h : b < 8) : ([some (f + 6), some (f + 7), some (f + 8), some (f + 9), some (f + 10), some (f + 11), some (f + 12), some (f + 13)] : List (Option Nat)).getD b none = some (f + 6 + b) := by
  match b, h with
  | 0, _ => rfl
  | 1, _ => rfl
  | 2, _ => rfl
  | 3, _ => rfl
  | 4, _ => rfl
  | 5, _ => rfl
  | 6, _ => rfl
  | 7, _ => rfl
  | n + 8, h => omega
def TwistAt (w : Nat) : Prop := lay w = (0, 8, [none, some (w + 1), some (w + 2), some (w + 3), some (w + 4)]) ∧ lay (w + 1) = (1, 4, []) ∧ lay (w + 2) = (2, 4, []) ∧ lay (w + 3) = (2, 8, []) ∧ lay (w + 4) = (2, 8, [])
def FlowAt (f w : Nat) : Prop := lay f = (0, 2, [some 1, some w, none, none, none, none, some (f + 1), some (f + 2), some (f + 3), some (f + 4), some (f + 5)]) ∧ lay (f + 1) = (1, 8, []) ∧ lay (f + 2) = (1, 8, []) ∧ lay (f + 3) = (1, 8, []) ∧ lay (f + 4) = (1, 8, []) ∧ lay (f + 5) = (4, 8, [some (f + 6), some (f + 7), some (f + 8), some (f + 9), some (f + 10), some (f + 11), some (f + 12), some (f + 13)]) ∧ (∀ b, b < 8 → lay (f + 6 + b) = (1, 20, [])) ∧ TwistAt w ∧ (33 ≤ f ∧ f ≤ 61 ∧ 19 ≤ w ∧ w ≤ 24)
theorem TwistAt.l0 {w : Nat} (h : TwistAt w) : lay w = (0, 8, [none, some (w + 1), some (w + 2), some (w + 3), some (w + 4)]) := h.1
theorem TwistAt.l1 {w : Nat} (h : TwistAt w) : lay (w + 1) = (1, 4, []) := h.2.1
theorem TwistAt.l2 {w : Nat} (h : TwistAt w) : lay (w + 2) = (2, 4, []) := h.2.2.1
theorem TwistAt.l3 {w : Nat} (h : TwistAt w) : lay (w + 3) = (2, 8, []) := h.2.2.2.1
theorem TwistAt.l4 {w : Nat} (h : TwistAt w) : lay (w + 4) = (2, 8, []) := h.2.2.2.2
theorem FlowAt.l0 {f w : Nat} (h : FlowAt f w) : lay f = (0, 2, [some 1, some w, none, none, none, none, some (f + 1), some (f + 2), some (f + 3), some (f + 4), some (f + 5)]) := h.1
theorem FlowAt.l1 {f w : Nat} (h : FlowAt f w) : lay (f + 1) = (1, 8, []) := h.2.1
theorem FlowAt.l2 {f w : Nat} (h : FlowAt f w) : lay (f + 2) = (1, 8, []) := h.2.2.1
theorem FlowAt.l3 {f w : Nat} (h : FlowAt f w) : lay (f + 3) = (1, 8, []) := h.2.2.2.1
theorem FlowAt.l4 {f w : Nat} (h : FlowAt f w) : lay (f + 4) = (1, 8, []) := h.2.2.2.2.1
theorem FlowAt.l5 {f w : Nat} (h : FlowAt f w) : lay (f + 5) = (4, 8, [some (f + 6), some (f + 7), some (f + 8), some (f + 9), some (f + 10), some (f + 11), some (f + 12), some (f + 13)]) := h.2.2.2.2.2.1
theorem FlowAt.row {f w : Nat} (h : FlowAt f w) {b : Nat} (hb : b < 8) : lay (f + 6 + b) = (1, 20, []) := h.2.2.2.2.2.2.1 b hb
theorem FlowAt.tw {f w : Nat} (h : FlowAt f w) : TwistAt w := h.2.2.2.2.2.2.2.1
theorem FlowAt.rng {f w : Nat} (h : FlowAt f w) : 33 ≤ f ∧ f ≤ 61 ∧ 19 ≤ w ∧ w ≤ 24 := h.2.2.2.2.2.2.2.2
theorem twist_19 : TwistAt 19 := ⟨rfl, rfl, rfl, rfl, rfl⟩
theorem twist_24 : TwistAt 24 := ⟨rfl, rfl, rfl, rfl, rfl⟩
theorem flow_33 : FlowAt 33 19 := ⟨rfl, rfl, rfl, rfl, rfl, rfl, by decide +kernel, twist_19, by decide⟩
theorem flow_47 : FlowAt 47 24 := ⟨rfl, rfl, rfl, rfl, rfl, rfl, by decide +kernel, twist_24, by decide⟩
theorem flow_61 : FlowAt 61 24 := ⟨rfl, rfl, rfl, rfl, rfl, rfl, by decide +kernel, twist_24, by decide⟩
end
section
/-! pasted families of kit/laws/BITS.to-paste: nI under and, xor, shifts; lN to 2^64 -/
/-! ===== nI under and, xor, >>>, one bit, 65535 ===== -/
theorem nx_and (a b : Nat) : nI a &&& nI b = nI (a &&& b) := by
  apply Int32.toBitVec_inj.1
  show BitVec.ofNat 32 a &&& BitVec.ofNat 32 b = BitVec.ofNat 32 (a &&& b)
  apply BitVec.eq_of_getLsbD_eq
  intro i hi
  simp [hi]
theorem nx_xor (a b : Nat) : nI a ^^^ nI b = nI (a ^^^ b) := by
  apply Int32.toBitVec_inj.1
  show BitVec.ofNat 32 a ^^^ BitVec.ofNat 32 b = BitVec.ofNat 32 (a ^^^ b)
  apply BitVec.eq_of_getLsbD_eq
  intro i hi
  simp [hi]
theorem nx_cnt : ∀ j : Fin 32, (UInt32.ofNat j.val &&& Int32.toUInt32 31).toNat % 32 = j.val := by decide +kernel
theorem nx_ush {k j : Nat} (hk : k < 65536) (hj : j < 32) : ((nI k).toUInt32 >>> ((nI j).toUInt32 &&& Int32.toUInt32 31)).toInt32 = nI (k >>> j) := by
  have hs : k >>> j ≤ k := by
    rw [Nat.shiftRight_eq_div_pow]
    exact Nat.div_le_self _ _
  have e2 : UInt32.ofNat k >>> (UInt32.ofNat j &&& Int32.toUInt32 31) = UInt32.ofNat (k >>> j) := by
    apply UInt32.toNat_inj.1
    have h1 : (UInt32.ofNat k).toNat = k := Nat.mod_eq_of_lt (by omega)
    have h2 : (UInt32.ofNat (k >>> j)).toNat = k >>> j := Nat.mod_eq_of_lt (by omega)
    rw [UInt32.toNat_shiftRight, nx_cnt ⟨j, hj⟩, h1, h2]
  show (UInt32.ofNat k >>> (UInt32.ofNat j &&& Int32.toUInt32 31)).toInt32 = _
  rw [e2]
  rfl
theorem nx_bit {k j : Nat} (hk : k < 65536) (hj : j < 16) : (((nI k).toUInt32 >>> ((nI j).toUInt32 &&& Int32.toUInt32 31)).toInt32 &&& 1) = 0 ↔ k.testBit j = false := by
  rw [nx_ush hk (by omega)]
  show nI (k >>> j) &&& nI 1 = 0 ↔ _
  rw [nx_and, Nat.and_one_is_mod, ← nI_0, nI_eq (by omega) (by omega), Nat.testBit_eq_decide_div_mod_eq, Nat.shiftRight_eq_div_pow, decide_eq_false_iff_not]
  generalize k / 2 ^ j = z
  omega
theorem nx_mod (k : Nat) : nI k &&& 65535 = nI (k % 65536) := by
  show nI k &&& nI 65535 = _
  rw [nx_and, show (65535 : Nat) = 2 ^ 16 - 1 from rfl, Nat.and_two_pow_sub_one_eq_mod]
theorem nx_m16 {k : Nat} (h : k < 65536) : nI k &&& 65535 = nI k := by rw [nx_mod, Nat.mod_eq_of_lt h]
theorem nx_mask (x : Int32) : ∃ k, k < 65536 ∧ x &&& 65535 = nI k := by
  have e : x = nI x.toBitVec.toNat := by
    apply Int32.toBitVec_inj.1
    show x.toBitVec = BitVec.ofNat 32 x.toBitVec.toNat
    simp
  refine ⟨x.toBitVec.toNat % 65536, Nat.mod_lt _ (by omega), ?_⟩
  rw [← nx_mod, ← e]
/-! ===== lN n to 2^64: shifts, and, or, masks, one bit ===== -/
theorem wb_tb (n : Nat) : (lN n).toBitVec = BitVec.ofNat 64 n := rfl
theorem wb_inj {a b : Int64} (h : a.toBitVec = b.toBitVec) : a = b := Int64.toBitVec_inj.mp h
theorem wb_tn {n : Nat} (h : n < 2 ^ 64) : (lN n).toBitVec.toNat = n := by rw [wb_tb, BitVec.toNat_ofNat, Nat.mod_eq_of_lt h]
theorem wb_of (x : Int64) : ∃ n, n < 2 ^ 64 ∧ x = lN n := ⟨x.toBitVec.toNat, x.toBitVec.isLt, wb_inj (by rw [wb_tb]; simp)⟩
theorem wb_of32 (x : Int32) : ∃ n, n < 2 ^ 32 ∧ x = nI n := ⟨x.toBitVec.toNat, x.toBitVec.isLt, Int32.toBitVec_inj.mp (by show _ = BitVec.ofNat 32 _; simp)⟩
theorem wb_c : ∀ k, k < 64 → ((nI k).toInt64 &&& 63) = lN k := by decide +kernel
theorem wb_cu : ∀ k, k < 64 → ((nI k).toInt64.toUInt64 &&& Int64.toUInt64 63) = UInt64.ofNat k := by decide +kernel
theorem wb_sm : ∀ k, k < 64 → (BitVec.ofNat 64 k).smod 64 = BitVec.ofNat 64 k := by decide +kernel
theorem wb_pw {a b : Nat} (h : a ≤ b) : 2 ^ b = 2 ^ a * 2 ^ (b - a) := by rw [← Nat.pow_add]; congr 1; omega
theorem wb_lt2 {a b : Nat} (h : a < b) : 2 ^ a < 2 ^ b := Nat.pow_lt_pow_right (by decide) h
theorem wb_mod (n : Nat) : lN n = lN (n % 2 ^ 64) := wb_inj (by rw [wb_tb, wb_tb]; apply BitVec.eq_of_toNat_eq; rw [BitVec.toNat_ofNat, BitVec.toNat_ofNat, Nat.mod_mod])
theorem wb_shr {n k : Nat} (hn : n < 2 ^ 64) (hk : k < 64) : ((lN n).toUInt64 >>> ((nI k).toInt64.toUInt64 &&& Int64.toUInt64 63)).toInt64 = lN (n / 2 ^ k) := by
  rw [wb_cu k hk]
  apply wb_inj
  apply BitVec.eq_of_toNat_eq
  show ((lN n).toUInt64 >>> UInt64.ofNat k).toNat = (BitVec.ofNat 64 _).toNat
  have h1 : (UInt64.ofNat k).toNat = k := by
    show (BitVec.ofNat 64 k).toNat = k
    rw [BitVec.toNat_ofNat, Nat.mod_eq_of_lt (by omega)]
  have h2 : (lN n).toUInt64.toNat = n := wb_tn hn
  rw [UInt64.toNat_shiftRight, h1, h2, Nat.mod_eq_of_lt hk, Nat.shiftRight_eq_div_pow, BitVec.toNat_ofNat, Nat.mod_eq_of_lt (Nat.lt_of_le_of_lt (Nat.div_le_self _ _) hn)]
theorem wb_shl (n : Nat) {k : Nat} (hk : k < 64) : lN n <<< ((nI k).toInt64 &&& 63) = lN (n * 2 ^ k) := by
  rw [wb_c k hk]
  apply wb_inj
  rw [Int64.toBitVec_shiftLeft, wb_tb, wb_tb, wb_tb, wb_sm k hk]
  apply BitVec.eq_of_toNat_eq
  rw [BitVec.shiftLeft_eq', BitVec.toNat_shiftLeft, BitVec.toNat_ofNat, BitVec.toNat_ofNat, BitVec.toNat_ofNat, Nat.mod_eq_of_lt (show k < 2 ^ 64 by omega), Nat.shiftLeft_eq, Nat.mul_mod, Nat.mod_mod, ← Nat.mul_mod]
theorem wb_and {a b : Nat} (ha : a < 2 ^ 64) (hb : b < 2 ^ 64) : lN a &&& lN b = lN (a &&& b) := by
  apply wb_inj
  rw [Int64.toBitVec_and, wb_tb, wb_tb, wb_tb]
  apply BitVec.eq_of_toNat_eq
  rw [BitVec.toNat_and, BitVec.toNat_ofNat, BitVec.toNat_ofNat, BitVec.toNat_ofNat, Nat.mod_eq_of_lt ha, Nat.mod_eq_of_lt hb, Nat.mod_eq_of_lt (Nat.and_lt_two_pow _ hb)]
theorem wb_or {a b : Nat} (ha : a < 2 ^ 64) (hb : b < 2 ^ 64) : lN a ||| lN b = lN (a ||| b) := by
  apply wb_inj
  rw [Int64.toBitVec_or, wb_tb, wb_tb, wb_tb]
  apply BitVec.eq_of_toNat_eq
  rw [BitVec.toNat_or, BitVec.toNat_ofNat, BitVec.toNat_ofNat, BitVec.toNat_ofNat, Nat.mod_eq_of_lt ha, Nat.mod_eq_of_lt hb, Nat.mod_eq_of_lt (Nat.or_lt_two_pow ha hb)]
theorem wb_mask {n k : Nat} (hn : n < 2 ^ 64) (hk : k < 64) : lN n &&& lN (2 ^ k - 1) = lN (n % 2 ^ k) := by
  rw [wb_and hn (by have := wb_lt2 hk; omega), Nat.and_two_pow_sub_one_eq_mod]
theorem wb_a1 {n : Nat} (hn : n < 2 ^ 64) : lN n &&& 1 = lN (n % 2) := wb_mask (k := 1) hn (by decide)
theorem wb_bit {n k : Nat} (hn : n < 2 ^ 64) (hk : k < 64) : ((lN n).toUInt64 >>> ((nI k).toInt64.toUInt64 &&& Int64.toUInt64 63)).toInt64 &&& 1 = lN (n / 2 ^ k % 2) := by
  rw [wb_shr hn hk, wb_a1 (Nat.lt_of_le_of_lt (Nat.div_le_self _ _) hn)]
theorem wb_xor {q k : Nat} (hk : k < 63) (h : 2 ^ k ≤ q) (h2 : q < 2 ^ (k + 1)) : lN q ^^^ lN (2 ^ k) = lN (q - 2 ^ k) := by
  obtain ⟨r, rfl⟩ : ∃ r, q = 2 ^ k + r := ⟨q - 2 ^ k, by omega⟩
  have hr : r < 2 ^ k := by rw [Nat.pow_succ] at h2; omega
  have hx : (2 ^ k + r) ^^^ 2 ^ k = r := by
    apply Nat.eq_of_testBit_eq
    intro i
    rw [Nat.testBit_xor, Nat.testBit_two_pow]
    rcases Nat.lt_trichotomy i k with h | h | h
    · rw [Nat.testBit_two_pow_add_gt h]
      simp [show ¬ k = i by omega]
    · subst h
      rw [Nat.testBit_two_pow_add_eq]
      simp
    · have a1 : 2 ^ (k + 1) ≤ 2 ^ i := Nat.pow_le_pow_right (by decide) h
      rw [Nat.testBit_lt_two_pow (show 2 ^ k + r < 2 ^ i by omega), Nat.testBit_lt_two_pow (show r < 2 ^ i by omega)]
      simp [show ¬ k = i by omega]
  have b1 := wb_lt2 (show k + 1 < 64 by omega)
  have b2 := wb_lt2 (show k < 64 by omega)
  apply wb_inj
  rw [Int64.toBitVec_xor, wb_tb, wb_tb, wb_tb]
  apply BitVec.eq_of_toNat_eq
  rw [BitVec.toNat_xor, BitVec.toNat_ofNat, BitVec.toNat_ofNat, BitVec.toNat_ofNat, Nat.mod_eq_of_lt (by omega : 2 ^ k + r < 2 ^ 64), Nat.mod_eq_of_lt b2, hx, Nat.add_sub_cancel_left, Nat.mod_eq_of_lt (by omega)]
/-! ===== lN: masks, 'or' of parts that don't overlap is a sum ===== -/
theorem u_tn {n : Nat} (h : n < 2 ^ 64) : (UInt64.ofNat n).toNat = n := Nat.mod_eq_of_lt h
theorem g_and {a b c : Nat} (ha : a < 2 ^ 64) (hb : b < 2 ^ 64) (hc : a &&& b = c) : lN a &&& lN b = lN c := by
  subst hc
  have h : UInt64.ofNat a &&& UInt64.ofNat b = UInt64.ofNat (a &&& b) := UInt64.toNat_inj.mp (by rw [UInt64.toNat_and, u_tn ha, u_tn hb, u_tn (Nat.and_lt_two_pow a hb)])
  have h2 := congrArg UInt64.toInt64 h
  exact h2
theorem g_and1 {a : Nat} (ha : a < 2 ^ 64) : lN a &&& 1 = lN (a % 2) := g_and (b := 1) ha (by decide) (Nat.and_two_pow_sub_one_eq_mod a 1)
theorem g_mask {a s p : Nat} (hp : 2 ^ s = p) (hs : s < 64) (ha : a < 2 ^ 64) : lN a &&& lN (p - 1) = lN (a % p) := by
  subst hp
  have := Nat.pow_lt_pow_right (show 1 < 2 by decide) hs
  exact g_and ha (by omega) (Nat.and_two_pow_sub_one_eq_mod a s)
theorem g_or {k p a b : Nat} (hp : 2 ^ k = p) (ha : a < p) (h : b * p + a < 2 ^ 64) : lN (b * p) ||| lN a = lN (b * p + a) := by
  subst hp
  have h1 : b * 2 ^ k ||| a = b * 2 ^ k + a := by rw [← Nat.shiftLeft_eq, Nat.shiftLeft_add_eq_or_of_lt ha]
  have h3 : UInt64.ofNat (b * 2 ^ k) ||| UInt64.ofNat a = UInt64.ofNat (b * 2 ^ k + a) := UInt64.toNat_inj.mp (by rw [UInt64.toNat_or, u_tn (by omega), u_tn (by omega), u_tn h, h1])
  have h2 := congrArg UInt64.toInt64 h3
  exact h2
theorem g_or' {k p a b : Nat} (hp : 2 ^ k = p) (ha : a < p) (h : a + b * p < 2 ^ 64) : lN a ||| lN (b * p) = lN (a + b * p) := by
  rw [Int64.or_comm, g_or hp ha (by omega), Nat.add_comm]
theorem g_ushr {a k p : Nat} {y : UInt64} (hy : y = UInt64.ofNat k) (hk : k < 64) (hp : 2 ^ k = p) (ha : a < 2 ^ 64) : ((lN a).toUInt64 >>> y).toInt64 = lN (a / p) := by
  subst hy hp
  have h : UInt64.ofNat a >>> UInt64.ofNat k = UInt64.ofNat (a / 2 ^ k) := UInt64.toNat_inj.mp (by rw [UInt64.toNat_shiftRight, u_tn ha, u_tn (by omega), u_tn (Nat.lt_of_le_of_lt (Nat.div_le_self _ _) ha), Nat.mod_eq_of_lt hk, Nat.shiftRight_eq_div_pow])
  have h2 := congrArg UInt64.toInt64 h
  exact h2
theorem g_shl {a k p : Nat} {y : Int64} (hy : y.toBitVec.smod 64 = BitVec.ofNat 64 k) (hk : k < 64) (hp : 2 ^ k = p) (ha : a < 2 ^ 64) : lN a <<< y = lN (a * p) := by
  subst hp
  apply Int64.toBitVec_inj.mp
  rw [Int64.toBitVec_shiftLeft, hy]
  apply BitVec.eq_of_toNat_eq
  have hb : (lN a).toBitVec.toNat = a := Nat.mod_eq_of_lt ha
  have hk' : (BitVec.ofNat 64 k).toNat = k := Nat.mod_eq_of_lt (by omega)
  have h : ((lN a).toBitVec <<< BitVec.ofNat 64 k).toNat = (a * 2 ^ k) % 2 ^ 64 := by simp only [BitVec.shiftLeft_eq', BitVec.toNat_shiftLeft, hb, hk', Nat.shiftLeft_eq]
  exact h
/-! ===== lN to 2^62 under >> and >>> ===== -/
theorem pf_lI {a : Nat} (h : a < 2 ^ 63) : (lN a).toInt = (a : Int) := lg_ofNat_toInt h
theorem pf_shr {a d : Nat} {D : Int64} (hD : (D.toBitVec.smod 64).toNat = d) (h : a < 2 ^ 62) : lN a >>> D = lN (a / 2 ^ d) := by
  have hd : a / 2 ^ d ≤ a := Nat.div_le_self _ _
  apply Int64.toInt_inj.mp
  have e : (lN a >>> D).toInt = (lN a).toInt >>> d := by
    rw [← hD]
    exact BitVec.toInt_sshiftRight ..
  rw [e, Int.shiftRight_eq_div_pow, pf_lI (by omega), pf_lI (by omega)]
  rfl
theorem pf_ushr {a d : Nat} {D : UInt64} (hD : D.toNat % 64 = d) (h : a < 2 ^ 62) : ((lN a).toUInt64 >>> D).toInt64 = lN (a / 2 ^ d) := by
  have hd : a / 2 ^ d ≤ a := Nat.div_le_self _ _
  have e : (lN a).toUInt64 >>> D = UInt64.ofNat (a / 2 ^ d) := UInt64.toNat_inj.mp (by
    rw [UInt64.toNat_shiftRight, hD, Nat.shiftRight_eq_div_pow, UInt64.toNat_ofNat']
    show (UInt64.ofNat a).toNat / 2 ^ d = _
    rw [UInt64.toNat_ofNat', Nat.mod_eq_of_lt (by omega), Nat.mod_eq_of_lt (by omega)])
  rw [e]
  rfl
theorem pf_andw (x : Int64) : ∃ m, m < 2 ^ 32 ∧ x &&& 4294967295 = lN m := ⟨x.toBitVec.toNat % 2 ^ 32, Nat.mod_lt _ (by decide), Int64.toBitVec_inj.mp (BitVec.eq_of_toNat_eq (by
  show (x.toBitVec &&& 4294967295#64).toNat = (BitVec.ofNat 64 (x.toBitVec.toNat % 2 ^ 32)).toNat
  rw [BitVec.toNat_and, show (4294967295#64).toNat = 2 ^ 32 - 1 from by decide, Nat.and_two_pow_sub_one_eq_mod, BitVec.toNat_ofNat]
  omega))⟩
/-! ===== unsigned comparison by xor with the least ===== -/
theorem lN_bv (n : Nat) : (lN n).toBitVec = BitVec.ofNat 64 n := rfl
theorem lN_nat {n : Nat} (h : n < 2 ^ 64) : (lN n).toBitVec.toNat = n := by rw [lN_bv, BitVec.toNat_ofNat]; exact Nat.mod_eq_of_lt h
theorem lN_xor (a b : Nat) : lN a ^^^ lN b = lN (a ^^^ b) := by
  apply Int64.toBitVec_inj.mp; rw [Int64.toBitVec_xor, lN_bv, lN_bv, lN_bv]; apply BitVec.eq_of_getLsbD_eq; intro i hi; simp [BitVec.getLsbD_ofNat, Nat.testBit_xor, hi]
end
section
/-! what the garden is, as numbers: no machine here -/
def N (x : Int32) : Nat := x.toNatClampNeg
/-- a number from 0 to n -/
def sm (x : Int32) (n : Nat) : Prop := x = nI (N x) ∧ N x ≤ n
theorem N_nI {k : Nat} (h : k < 2 ^ 31) : N (nI k) = k := nI_clamp h
theorem sm_nI {k n : Nat} (h : k ≤ n) (hn : n < 2 ^ 31) : sm (nI k) n := by
  refine ⟨by rw [N_nI (by omega)], by rw [N_nI (by omega)]; exact h⟩
theorem sm_of {x : Int32} {n : Nat} (h1 : 0 ≤ x) (h2 : x ≤ nI n) (hn : n < 2 ^ 31) : sm x n := by
  obtain ⟨j, hj, rfl⟩ := nI_of (x := x) (by intro h; rw [Int32.lt_iff_toInt_lt] at h; rw [Int32.le_iff_toInt_le] at h1; omega)
  have := (nI_leI hj hn).mp h2
  exact sm_nI this hn
theorem sm.le {x : Int32} {n m : Nat} (h : sm x n) (hm : n ≤ m) : sm x m := ⟨h.1, Nat.le_trans h.2 hm⟩
def un {α : Type} (f : Nat → α) (k : Nat) (v : α) : Nat → α := fun j => if j = k then v else f j
theorem un_s {α : Type} (f : Nat → α) (k : Nat) (v : α) : un f k v k = v := by simp [un]
theorem un_n {α : Type} (f : Nat → α) {k j : Nat} (v : α) (h : j ≠ k) : un f k v j = f j := by simp [un, h]
def anyB (p : Nat → Bool) : Nat → Bool
  | 0 => false
  | n + 1 => anyB p n || p n
def allB (p : Nat → Bool) : Nat → Bool
  | 0 => true
  | n + 1 => allB p n && p n
theorem anyB_iff (p : Nat → Bool) : ∀ n, anyB p n = true ↔ ∃ k, k < n ∧ p k = true
  | 0 => by simp [anyB]
  | n + 1 => by
    rw [anyB, Bool.or_eq_true, anyB_iff p n]
    refine ⟨fun h => ?_, fun ⟨k, h1, h2⟩ => ?_⟩
    · rcases h with ⟨k, h1, h2⟩ | h
      · exact ⟨k, by omega, h2⟩
      · exact ⟨n, by omega, h⟩
    · by_cases hk : k = n
      · subst hk; exact Or.inr h2
      · exact Or.inl ⟨k, by omega, h2⟩
theorem allB_iff (p : Nat → Bool) : ∀ n, allB p n = true ↔ ∀ k, k < n → p k = true
  | 0 => by simp [allB]
  | n + 1 => by
    rw [allB, Bool.and_eq_true, allB_iff p n]
    refine ⟨fun ⟨h1, h2⟩ k hk => ?_, fun h => ⟨fun k hk => h k (by omega), h n (by omega)⟩⟩
    by_cases e : k = n
    · subst e; exact h2
    · exact h1 k (by omega)
theorem anyB_f {p : Nat → Bool} {n : Nat} (h : ∀ k, k < n → p k = false) : anyB p n = false := by
  cases e : anyB p n with
  | false => rfl
  | true =>
    obtain ⟨k, h1, h2⟩ := (anyB_iff p n).mp e
    rw [h k h1] at h2
    cases h2
theorem anyB_t {p : Nat → Bool} {n k : Nat} (hk : k < n) (h : p k = true) : anyB p n = true := (anyB_iff p n).mpr ⟨k, hk, h⟩
theorem allB_t {p : Nat → Bool} {n : Nat} (h : ∀ k, k < n → p k = true) : allB p n = true := (allB_iff p n).mpr h
theorem allB_f {p : Nat → Bool} {n k : Nat} (hk : k < n) (h : p k = false) : allB p n = false := by
  cases e : allB p n with
  | false => rfl
  | true =>
    have := (allB_iff p n).mp e k hk
    rw [h] at this
    cases this
theorem anyB_cong {p q : Nat → Bool} {n : Nat} (h : ∀ k, k < n → p k = q k) : anyB p n = anyB q n := by
  induction n with
  | zero => rfl
  | succ n ih => rw [anyB, anyB, ih (fun k hk => h k (by omega)), h n (by omega)]
theorem allB_cong {p q : Nat → Bool} {n : Nat} (h : ∀ k, k < n → p k = q k) : allB p n = allB q n := by
  induction n with
  | zero => rfl
  | succ n ih => rw [allB, allB, ih (fun k hk => h k (by omega)), h n (by omega)]
def sumI (f : Nat → Int32) : Nat → Int32
  | 0 => 0
  | n + 1 => sumI f n + f n
theorem sumI_cong {f g : Nat → Int32} : ∀ {n : Nat}, (∀ k, k < n → f k = g k) → sumI f n = sumI g n
  | 0, _ => rfl
  | n + 1, h => by rw [sumI, sumI, sumI_cong (fun k hk => h k (by omega)), h n (by omega)]
/-- a set of buckets as bits -/
def bitsN (K : Nat → Bool) : Nat → Nat
  | 0 => 0
  | n + 1 => bitsN K n + (if K n then 2 ^ n else 0)
theorem bitsN_lt (K : Nat → Bool) : ∀ n, bitsN K n < 2 ^ n
  | 0 => by simp [bitsN]
  | n + 1 => by
    have := bitsN_lt K n
    rw [bitsN, Nat.pow_succ]
    split <;> omega
theorem bitsN_cong {K L : Nat → Bool} : ∀ {n : Nat}, (∀ k, k < n → K k = L k) → bitsN K n = bitsN L n
  | 0, _ => rfl
  | n + 1, h => by rw [bitsN, bitsN, bitsN_cong (fun k hk => h k (by omega)), h n (by omega)]
theorem bitsN_bit (K : Nat → Bool) : ∀ (n b : Nat), (bitsN K n).testBit b = (decide (b < n) && K b)
  | 0, b => by simp [bitsN]
  | n + 1, b => by
    have hl := bitsN_lt K n
    have hl1 := bitsN_lt K (n + 1)
    have ih := bitsN_bit K n b
    rcases Nat.lt_trichotomy b n with h | h | h
    · have e : (bitsN K (n + 1)).testBit b = (bitsN K n).testBit b := by
        rw [bitsN]
        by_cases hk : K n = true
        · rw [if_pos hk, Nat.add_comm, Nat.testBit_two_pow_add_gt h]
        · rw [if_neg hk, Nat.add_zero]
      rw [e, ih]
      simp [h, Nat.lt_succ_of_lt h]
    · subst h
      have h0 : (bitsN K b).testBit b = false := Nat.testBit_lt_two_pow hl
      rw [bitsN]
      by_cases hk : K b = true
      · rw [if_pos hk, Nat.add_comm, Nat.testBit_two_pow_add_eq, h0]
        simp [hk]
      · rw [if_neg hk, Nat.add_zero, h0]
        simp at hk
        simp [hk]
    · have h0 : (bitsN K (n + 1)).testBit b = false := Nat.testBit_lt_two_pow (Nat.lt_of_lt_of_le hl1 (Nat.pow_le_pow_right (by omega) (by omega)))
      rw [h0]
      simp [show ¬ b < n + 1 by omega]
/-- the weather at a tick: the latest spell not above it so far, and what it is -/
def wetF (fr we : Nat → Int32) (t : Int32) : Nat → Int32 × Int32
  | 0 => (0, 0)
  | n + 1 => if (wetF fr we t n).1 ≤ fr n ∧ fr n ≤ t then (fr n, we n) else wetF fr we t n
/-! the state of a course: what buckets hold, how long they are still down, what comes (0: now .. 20), counts (dripped, brook, lost), knocks, last knocks -/
abbrev St : Type := (Nat → Int32) × (Nat → Nat) × (Nat → Nat → Int32) × (Nat → Int32) × (Nat → Int32) × (Nat → Int32)
abbrev sH (S : St) : Nat → Int32 := S.1
abbrev sD (S : St) : Nat → Nat := S.2.1
abbrev sC (S : St) : Nat → Nat → Int32 := S.2.2.1
abbrev sQ (S : St) : Nat → Int32 := S.2.2.2.1
abbrev sK (S : St) : Nat → Int32 := S.2.2.2.2.1
abbrev sL (S : St) : Nat → Int32 := S.2.2.2.2.2
abbrev mkS (h : Nat → Int32) (d : Nat → Nat) (c : Nat → Nat → Int32) (q k l : Nat → Int32) : St := (h, d, c, q, k, l)
def S0 : St := mkS (fun _ => 0) (fun _ => 0) (fun _ _ => 0) (fun _ => 0) (fun _ => 0) (fun _ => -1)
def frogB (c : MI) (s t : Nat) : Bool := anyB (fun k => decide (c 13 k = nI s) && (decide (c 14 k ≤ nI t) && decide (nI t ≤ c 15 k))) (N (c 12 0))
def dueB (c : MI) (s t : Nat) : Bool := decide (N (c 11 s) ≤ t) && decide ((t - N (c 11 s)) % N (c 10 s) = 0)
def wetP (c : MI) (t : Nat) : Int32 := (wetF (c 17) (c 18) (nI t) (N (c 16 0))).2
def heldB (c tw : MI) (s t : Nat) : Bool := decide (tw 2 s ≠ 0) || (decide (tw 0 0 = 0) && frogB c s t)
def waterP (c tw : MI) (t s : Nat) : Int32 := if 0 < c 9 s + tw 1 s + (if tw 0 0 = 0 then wetP c t else 0) then c 9 s + tw 1 s + (if tw 0 0 = 0 then wetP c t else 0) else 0
def pourP (b : Nat) (w : Int32) (S : St) : St := if sD S b = 0 then mkS (un (sH S) b (sH S b + w)) (sD S) (sC S) (sQ S) (sK S) (sL S) else mkS (sH S) (sD S) (sC S) (un (sQ S) 1 (sQ S 1 + w)) (sK S) (sL S)
def addQ (i : Nat) (w : Int32) (S : St) : St := mkS (sH S) (sD S) (sC S) (un (sQ S) i (sQ S i + w)) (sK S) (sL S)
def dripP (c tw : MI) (t s : Nat) (S : St) : St := if (dueB c s t && !(heldB c tw s t)) = true then pourP (N (c 8 s)) (waterP c tw t s) (addQ 0 (waterP c tw t s) S) else S
def dripsP (c tw : MI) (t : Nat) : Nat → St → St
  | 0, S => S
  | k + 1, S => dripP c tw t k (dripsP c tw t k S)
def setC (b j : Nat) (v : Int32) (S : St) : St := mkS (sH S) (sD S) (up2 (sC S) b j v) (sQ S) (sK S) (sL S)
def pipeP (b : Nat) (S : St) : St := setC b 0 0 (pourP b (sC S b 0) S)
def pipesP : Nat → St → St
  | 0, S => S
  | k + 1, S => pipeP k (pipesP k S)
def dryP (b : Nat) (S : St) : St := if sD S b = 0 ∧ 0 < sH S b then addQ 2 1 (mkS (un (sH S) b (sH S b - 1)) (sD S) (sC S) (sQ S) (sK S) (sL S)) else S
def driesP : Nat → St → St
  | 0, S => S
  | k + 1, S => dryP k (driesP k S)
def dryT (c : MI) (t : Nat) : Bool := decide (0 < N (c 1 4)) && decide (t % N (c 1 4) = 0)
def knB (c tw : MI) (b : Nat) (S : St) : Bool := decide (sD S b = 0) && (decide (c 3 b ≤ sH S b) && decide (tw 3 b = 0))
/-- where a knock's water goes: the brook, or a pipe -/
def brookB (c tw : MI) (b : Nat) : Bool := decide (tw 4 b ≠ 0) || decide (c 5 b < 0)
def fallP (c tw : MI) (b : Nat) (S : St) : St := if brookB c tw b = true then addQ 1 (sH S b) S else setC (N (c 5 b)) (N (c 6 b)) (sC S (N (c 5 b)) (N (c 6 b)) + sH S b) S
def tipP (c tw : MI) (t b : Nat) (S : St) : St := mkS (un (sH (fallP c tw b S)) b 0) (un (sD (fallP c tw b S)) b (N (c 4 b))) (sC (fallP c tw b S)) (sQ (fallP c tw b S)) (un (sK (fallP c tw b S)) b (sK (fallP c tw b S) b + 1)) (un (sL (fallP c tw b S)) b (nI t))
def turnP (c tw : MI) (t b : Nat) (S : St) : St := if 0 < sD S b then mkS (sH S) (un (sD S) b (sD S b - 1)) (sC S) (sQ S) (sK S) (sL S) else if knB c tw b S = true then tipP c tw t b S else S
def turnsP (c tw : MI) (t : Nat) : Nat → St → St
  | 0, S => S
  | k + 1, S => turnP c tw t k (turnsP c tw t k S)
def shiftP (S : St) : St := mkS (sH S) (sD S) (fun b j => sC S b (j + 1)) (sQ S) (sK S) (sL S)
/-- ahead of the knocks -/
def wateredP (c tw : MI) (t : Nat) (S : St) : St := if dryT c t = true then driesP (N (c 2 0)) (pipesP (N (c 2 0)) (dripsP c tw t (N (c 7 0)) S)) else pipesP (N (c 2 0)) (dripsP c tw t (N (c 7 0)) S)
def setP (c tw : MI) (t : Nat) (S : St) (b : Nat) : Bool := knB c tw b (turnsP c tw t b (wateredP c tw t S))
def stepP (c tw : MI) (t : Nat) (S : St) : St := shiftP (turnsP c tw t (N (c 2 0)) (wateredP c tw t S))
def runP (c tw : MI) : Nat → St
  | 0 => S0
  | t + 1 => stepP c tw t (runP c tw t)
/-- the knocks of a run's tick, as bits -/
def knockN (c tw : MI) (t : Nat) : Nat := bitsN (setP c tw t (runP c tw t)) (N (c 2 0))
/-- what was told, well-formed (the class's cells 1 .. 18) -/
def WC (c : MI) : Prop :=
  (sm (c 2 0) 8 ∧ ∀ b, b < N (c 2 0) → sm (c 4 b) 20 ∧ (c 5 b = -1 ∨ (sm (c 5 b) 7 ∧ N (c 5 b) < N (c 2 0) ∧ sm (c 6 b) 20 ∧ 0 < N (c 6 b)))) ∧
  (sm (c 7 0) 4 ∧ ∀ s, s < N (c 7 0) → (sm (c 8 s) 7 ∧ N (c 8 s) < N (c 2 0)) ∧ (sm (c 10 s) 30 ∧ 0 < N (c 10 s)) ∧ sm (c 11 s) 30) ∧
  sm (c 12 0) 10 ∧ (sm (c 16 0) 10 ∧ ∀ k, k < N (c 16 0) → sm (c 17 k) 2000) ∧ sm (c 1 4) 50
/-- the same was told -/
def CX (c μ : MI) : Prop := ∀ k, 1 ≤ k → k ≤ 18 → ∀ j, μ k j = c k j
theorem CX.rf (c : MI) : CX c c := fun _ _ _ _ => rfl
/-- a flow's cells (f ..) hold a course's state at tick t -/
def RX (f t : Nat) (S : St) (μ : MI) : Prop :=
  (μ f 2 = nI t ∧ μ f 3 = sQ S 0 ∧ μ f 4 = sQ S 1 ∧ μ f 5 = sQ S 2) ∧
  (∀ b, b < 8 → μ (f + 1) b = sH S b ∧ μ (f + 2) b = nI (sD S b) ∧ sD S b ≤ 20 ∧ μ (f + 3) b = sK S b ∧ μ (f + 4) b = sL S b) ∧
  (∀ b, b < 8 → μ (f + 6 + b) (t % 20) = sC S b 0 + sC S b 20 ∧ ∀ j, 0 < j → j < 20 → μ (f + 6 + b) ((t + j) % 20) = sC S b j)
/-- only cells lo .. lo + n - 1 changed -/
def Fr (lo n : Nat) (μ μ' : MI) : Prop := ∀ a, (a < lo ∨ lo + n ≤ a) → ∀ j, μ' a j = μ a j
theorem Fr.rf {lo n : Nat} {μ : MI} : Fr lo n μ μ := fun _ _ _ => rfl
theorem Fr.tr {lo n : Nat} {μ μ' μ'' : MI} (h : Fr lo n μ μ') (h2 : Fr lo n μ' μ'') : Fr lo n μ μ'' := fun a ha j => (h2 a ha j).trans (h a ha j)
theorem Fr.up {lo n k j : Nat} {μ : MI} {v : Int32} (h1 : lo ≤ k) (h2 : k < lo + n) : Fr lo n μ (up2 μ k j v) := fun a ha i => up2_a μ v (by omega)
end
section
/-! the class's small methods -/
theorem i_nlt {x y : Int32} (h : ¬ y < x) : x ≤ y := by
  rw [Int32.lt_iff_toInt_lt] at h
  rw [Int32.le_iff_toInt_le]
  omega
theorem i_nle {x y : Int32} (h : ¬ x ≤ y) : y < x := by
  rw [Int32.le_iff_toInt_le] at h
  rw [Int32.lt_iff_toInt_lt]
  omega
theorem i_lt_n {x y : Int32} (h : x < y) : ¬ y ≤ x := by
  rw [Int32.lt_iff_toInt_lt] at h
  rw [Int32.le_iff_toInt_le]
  omega
theorem i_le_n {x y : Int32} (h : x ≤ y) : ¬ y < x := by
  rw [Int32.le_iff_toInt_le] at h
  rw [Int32.lt_iff_toInt_lt]
  omega
/-- one of the numbers 0 .. n - 1 -/
def inR (b : Int32) (n : Nat) : Prop := ∃ k : Nat, b = nI k ∧ k < n
theorem inR_of {b : Int32} {n : Nat} (h0 : ¬ b < 0) (h1 : ¬ nI n ≤ b) (hn : n < 2 ^ 31) : inR b n := by
  obtain ⟨j, hj, rfl⟩ := nI_of h0
  refine ⟨j, rfl, ?_⟩
  rcases Nat.lt_or_ge j n with q | q
  · exact q
  · exact absurd ((nI_leI hn hj).mpr q) h1
theorem inR_0 {b : Int32} {n : Nat} (h : b < 0) (hn : n < 2 ^ 31) : ¬ inR b n := by
  rintro ⟨k, rfl, hk⟩
  exact nI_pos (by omega) h
theorem inR_1 {b : Int32} {n : Nat} (h : nI n ≤ b) (hn : n < 2 ^ 31) : ¬ inR b n := by
  rintro ⟨k, rfl, hk⟩
  have := (nI_leI hn (by omega)).mp h
  omega
theorem fw_0 {ls : List (Option Value)} : fewer [] ls := trivial
theorem fw_n {r ls : List (Option Value)} {x : Option Value} (h : fewer r ls) : fewer (none :: r) (x :: ls) := h
theorem fw_s {r ls : List (Option Value)} {v : Value} (h : fewer r ls) : fewer (some v :: r) (some v :: ls) := ⟨rfl, h⟩
theorem A_weak {M : MInfo} {d : Lv} {P : Po} {pc : Nat} {ls ls0 : List (Option Value)} {st : List Value} {μ : MI} {ν : ML} (kk : AW M d P pc ls0 st μ ν) (hf : fewer ls0 ls) : AW M d P pc ls st μ ν := A_few hf kk
theorem A_max {M : MInfo} {d : Lv} {P : Po} {pc idx : Nat} {ls : List (Option Value)} {st : List Value} {μ : MI} {ν : ML} {x y : Int32} (hd : DC M pc (.invokestatic idx) 3) (hm : SL (mOwn M) idx mJ9_max_7cf53 2) (h1 : 1 ≤ d.1) (hr : (st.map fun v => v.category).sum ≤ 8) (kk : AW M d P (pc + 3) ls (.int (if x < y then y else x) :: st) μ ν) : AW M d P pc ls (.int y :: .int x :: st) μ ν := by
  intro _ p l e R s m args below meth c cells slots Q ad dC dI ca A C H locs lsC hW hl
  obtain ⟨⟨hx, hb, hml, hown, hts⟩, hK, hA, hR, hend, hscr, hNW⟩ := id C
  have hr2 := st_room ad hr
  exact va_mmax hx hb (hml.trans hl.1.symm) hown (hts _ hm.2.1) (hts _ hm.2.2) (hts _ hm.1.1) (hts _ hm.1.2.1) (by omega) (by omega) hR.2.2.1 hR.2.2.2 hd (kk trivial C hW hl)
theorem A_min {M : MInfo} {d : Lv} {P : Po} {pc idx : Nat} {ls : List (Option Value)} {st : List Value} {μ : MI} {ν : ML} {x y : Int32} (hd : DC M pc (.invokestatic idx) 3) (hm : SL (mOwn M) idx mJ9_min_7cf53 2) (h1 : 1 ≤ d.1) (hr : (st.map fun v => v.category).sum ≤ 8) (kk : AW M d P (pc + 3) ls (.int (if y < x then y else x) :: st) μ ν) : AW M d P pc ls (.int y :: .int x :: st) μ ν := by
  intro _ p l e R s m args below meth c cells slots Q ad dC dI ca A C H locs lsC hW hl
  obtain ⟨⟨hx, hb, hml, hown, hts⟩, hK, hA, hR, hend, hscr, hNW⟩ := id C
  have hr2 := st_room ad hr
  exact va_mmin hx hb (hml.trans hl.1.symm) hown (hts _ hm.2.1) (hts _ hm.2.2) (hts _ hm.1.1) (hts _ hm.1.2.1) (by omega) (by omega) hR.2.2.1 hR.2.2.2 hd (kk trivial C hW hl)
theorem A_abs {M : MInfo} {d : Lv} {P : Po} {pc idx : Nat} {ls : List (Option Value)} {st : List Value} {μ : MI} {ν : ML} {x : Int32} (hd : DC M pc (.invokestatic idx) 3) (hm : SL (mOwn M) idx mJ9_abs_0f7a4 1) (h1 : 1 ≤ d.1) (hr : (st.map fun v => v.category).sum ≤ 8) (kk : AW M d P (pc + 3) ls (.int (if 0 ≤ x then x else 0 - x) :: st) μ ν) : AW M d P pc ls (.int x :: st) μ ν := by
  intro _ p l e R s m args below meth c cells slots Q ad dC dI ca A C H locs lsC hW hl
  obtain ⟨⟨hx, hb, hml, hown, hts⟩, hK, hA, hR, hend, hscr, hNW⟩ := id C
  have hr2 := st_room ad hr
  exact va_mabs hx hb (hml.trans hl.1.symm) hown (hts _ hm.2.1) (hts _ hm.2.2) (hts _ hm.1.1) (hts _ hm.1.2.1) (by omega) (by omega) hR.2.2.1 hR.2.2.2 hd (kk trivial C hW hl)
theorem c_within (v lo hi : Int32) {μ : MI} {ν : ML} {P : Po} (h1 : lo ≤ v → v ≤ hi → P (some (.int (nI 1))) μ ν) (h0 : ¬ (lo ≤ v ∧ v ≤ hi) → P (some (.int (nI 0))) μ ν) : Ct mX9_within 0 [.int v, .int lo, .int hi] μ ν P := by
  refine Ct.of (ls0 := [_, _, _]) (by decide) rfl (Nat.le_of_ble_eq_true rfl) rfl ?_
  refine A_iload_n dX9_within_0 rfl ?_
  refine A_iload_n dX9_within_1 rfl ?_
  refine A_icmp_gt (tgt := 14) dX9_within_2 (by decide) (fun b2 => ?_) (fun b2 => ?_)
  · refine A_iconst (v := nI 0) dX9_within_14 (by decide +kernel) ?_
    refine A_iret dX9_within_15 rfl (by decide +kernel) ?_
    exact h0 (fun q => i_lt_n b2 q.1)
  · refine A_iload_n dX9_within_5 rfl ?_
    refine A_iload_n dX9_within_6 rfl ?_
    refine A_icmp_gt (tgt := 14) dX9_within_7 (by decide) (fun b7 => ?_) (fun b7 => ?_)
    · refine A_iconst (v := nI 0) dX9_within_14 (by decide +kernel) ?_
      refine A_iret dX9_within_15 rfl (by decide +kernel) ?_
      exact h0 (fun q => i_lt_n b7 q.2)
    · refine A_iconst (v := nI 1) dX9_within_10 (by decide +kernel) ?_
      refine A_goto (tgt := 15) dX9_within_11 (by decide) ?_
      refine A_iret dX9_within_15 rfl (by decide +kernel) ?_
      exact h1 (i_nlt b2) (i_nlt b7)
theorem c_goesInto {p w : Nat} (hp : p < 2 ^ 31) (hw : w < 2 ^ 31) {μ : MI} {ν : ML} {P : Po} (h1 : 0 < p → w % p = 0 → P (some (.int (nI 1))) μ ν) (h0 : ¬ (0 < p ∧ w % p = 0) → P (some (.int (nI 0))) μ ν) : Ct mX9_goesInto 0 [.int (nI p), .int (nI w)] μ ν P := by
  refine Ct.of (ls0 := [_, _]) (by decide) rfl (Nat.le_of_ble_eq_true rfl) rfl ?_
  refine A_iload_n dX9_goesInto_0 rfl ?_
  refine A_if_le (tgt := 14) dX9_goesInto_1 (by decide) (fun b1 => ?_) (fun b1 => ?_)
  · refine A_iconst (v := nI 0) dX9_goesInto_14 (by decide +kernel) ?_
    refine A_iret dX9_goesInto_15 rfl (by decide +kernel) ?_
    exact h0 (fun q => nI_nle q.1 hp b1)
  · have hp0 : 0 < p := Nat.pos_of_ne_zero (fun e => b1 (by rw [e]; decide +kernel))
    refine A_iload_n dX9_goesInto_4 rfl ?_
    refine A_iload_n dX9_goesInto_5 rfl ?_
    refine A_iremN dX9_goesInto_6 (by omega) (by omega) (by omega) ?_
    refine A_if_ne (tgt := 14) dX9_goesInto_7 (by decide) (fun b7 => ?_) (fun b7 => ?_)
    · refine A_iconst (v := nI 0) dX9_goesInto_14 (by decide +kernel) ?_
      refine A_iret dX9_goesInto_15 rfl (by decide +kernel) ?_
      exact h0 (fun q => b7 (by rw [q.2]; rfl))
    · refine A_iconst (v := nI 1) dX9_goesInto_10 (by decide +kernel) ?_
      refine A_goto (tgt := 15) dX9_goesInto_11 (by decide) ?_
      refine A_iret dX9_goesInto_15 rfl (by decide +kernel) ?_
      exact h1 hp0 (by have hl := Nat.mod_lt w hp0; exact (nI_eq (a := w % p) (b := 0) (by omega) (by omega)).mp b7)
theorem c_has (b : Int32) {m : Nat} {μ : MI} {ν : ML} {P : Po} (hm : μ 2 0 = nI m) (hm8 : m ≤ 8) (h1 : inR b m → P (some (.int (nI 1))) μ ν) (h0 : ¬ inR b m → P (some (.int (nI 0))) μ ν) : Ct mX1_has 0 [.ref 2, .int b] μ ν P := by
  refine Ct.of (ls0 := [_, _]) (by decide) rfl (Nat.le_of_ble_eq_true rfl) rfl ?_
  refine A_iload_n dX1_has_0 rfl ?_
  refine A_if_lt (tgt := 16) dX1_has_1 (by decide) (fun b1 => ?_) (fun b1 => ?_)
  · refine A_iconst (v := nI 0) dX1_has_16 (by decide +kernel) ?_
    refine A_iret dX1_has_17 rfl (by decide +kernel) ?_
    exact h0 (inR_0 b1 (by omega))
  · refine A_iload_n dX1_has_4 rfl ?_
    refine A_aload_n dX1_has_5 rfl ?_
    refine A_getI dX1_has_6 flX1_24 rfl rfl ?_
    rw [hm]
    refine A_icmp_ge (tgt := 16) dX1_has_9 (by decide) (fun b9 => ?_) (fun b9 => ?_)
    · refine A_iconst (v := nI 0) dX1_has_16 (by decide +kernel) ?_
      refine A_iret dX1_has_17 rfl (by decide +kernel) ?_
      exact h0 (inR_1 b9 (by omega))
    · refine A_iconst (v := nI 1) dX1_has_12 (by decide +kernel) ?_
      refine A_goto (tgt := 17) dX1_has_13 (by decide) ?_
      refine A_iret dX1_has_17 rfl (by decide +kernel) ?_
      exact h1 (inR_of b1 b9 (by omega))
end
section
/-! the class's small methods, on: adds, looks, the twist, what was heard, the blame -/
theorem c_hasS (b : Int32) {m : Nat} {μ : MI} {ν : ML} {P : Po} (hm : μ 7 0 = nI m) (hm8 : m ≤ 4) (h1 : inR b m → P (some (.int (nI 1))) μ ν) (h0 : ¬ inR b m → P (some (.int (nI 0))) μ ν) : Ct mX7_has 0 [.ref 7, .int b] μ ν P := by
  refine Ct.of (ls0 := [_, _]) (by decide) rfl (Nat.le_of_ble_eq_true rfl) rfl ?_
  refine A_iload_n dX7_has_0 rfl ?_
  refine A_if_lt (tgt := 16) dX7_has_1 (by decide) (fun b1 => ?_) (fun b1 => ?_)
  · refine A_iconst (v := nI 0) dX7_has_16 (by decide +kernel) ?_
    refine A_iret dX7_has_17 rfl (by decide +kernel) ?_
    exact h0 (inR_0 b1 (by omega))
  · refine A_iload_n dX7_has_4 rfl ?_
    refine A_aload_n dX7_has_5 rfl ?_
    refine A_getI dX7_has_6 flX7_24 rfl rfl ?_
    rw [hm]
    refine A_icmp_ge (tgt := 16) dX7_has_9 (by decide) (fun b9 => ?_) (fun b9 => ?_)
    · refine A_iconst (v := nI 0) dX7_has_16 (by decide +kernel) ?_
      refine A_iret dX7_has_17 rfl (by decide +kernel) ?_
      exact h0 (inR_1 b9 (by omega))
    · refine A_iconst (v := nI 1) dX7_has_12 (by decide +kernel) ?_
      refine A_goto (tgt := 17) dX7_has_13 (by decide) ?_
      refine A_iret dX7_has_17 rfl (by decide +kernel) ?_
      exact h1 (inR_of b1 b9 (by omega))
/-- a row of n places, all x -/
def fillX (μ : MI) (a n : Nat) (x : Int32) : MI := fun b j => if b = a ∧ j < n then x else μ b j
theorem fillX_0 (μ : MI) (a : Nat) (x : Int32) : fillX μ a 0 x = μ := by
  funext b j
  simp [fillX]
theorem fillX_up (μ : MI) (a n : Nat) (x : Int32) : up2 (fillX μ a n x) a n x = fillX μ a (n + 1) x := by
  funext b j
  unfold up2 fillX
  by_cases h1 : b = a
  · by_cases h2 : j = n
    · simp [h1, h2]
    · by_cases h3 : j < n
      · simp [h1, h2, h3, Nat.lt_succ_of_lt h3]
      · simp [h1, h2, h3, show ¬ j < n + 1 by omega]
  · simp [h1]
theorem fillX_in (μ : MI) {a n j : Nat} (x : Int32) (h : j < n) : fillX μ a n x a j = x := by simp [fillX, h]
theorem fillX_a (μ : MI) {a n b : Nat} (x : Int32) (j : Nat) (h : b ≠ a) : fillX μ a n x b j = μ b j := by simp [fillX, h]
theorem fillX_o (μ : MI) {a n b j : Nat} (x : Int32) (h : n ≤ j) : fillX μ a n x b j = μ b j := by simp [fillX, show ¬ j < n by omega]
theorem c_fill {a n : Nat} (x : Int32) {μ : MI} {ν : ML} {P : Po} (hy : lay a = (1, n, [])) (hn : n < 1000) (hP : P none (fillX μ a n x) ν) : Ct mJ7_fill_53178 0 [.ref a, .int x] μ ν P := by
  refine Ct.of (ls0 := [_, _, _, _]) (by decide) rfl (Nat.le_of_ble_eq_true rfl) rfl ?_
  have loop : ∀ (k i : Nat), n - i < k → i ≤ n → AW mJ7_fill_53178 (0, none) P 5 [some (.ref a), some (.int x), some (.int (nI i)), some (.int (nI n))] [] (fillX μ a i x) ν := by
    intro k
    induction k with
    | zero => intro i h; omega
    | succ k ih =>
      intro i hk hi
      refine A_iload_n dJ7_fill_53178_5 rfl ?_
      refine A_iload_n dJ7_fill_53178_6 rfl ?_
      refine A_icmp_geN (tgt := 20) dJ7_fill_53178_7 (by decide) (by omega) (by omega) (fun b7 => ?_) (fun b7 => ?_)
      · refine A_vret dJ7_fill_53178_20 rfl ?_
        rw [show n = i by omega] at hP; exact hP
      · refine A_aload_n dJ7_fill_53178_10 rfl ?_
        refine A_iload_n dJ7_fill_53178_11 rfl ?_
        refine A_iload_n dJ7_fill_53178_12 rfl ?_
        refine A_iastN (j := i) dJ7_fill_53178_13 hy rfl b7 (by omega) ?_
        refine A_iincN (ls1 := [_, _, _, _]) dJ7_fill_53178_14 rfl (by decide) rfl rfl ?_
        refine A_goto (tgt := 5) dJ7_fill_53178_17 (by decide) ?_
        rw [fillX_up]; exact ih (i + 1) (by omega) (by omega)
  refine A_iconst (v := nI 0) dJ7_fill_53178_0 (by decide +kernel) ?_
  refine A_istore_n (ls1 := [_, _, _, _]) dJ7_fill_53178_1 (by decide) rfl rfl ?_
  refine A_aload_n dJ7_fill_53178_2 rfl ?_
  refine A_alen dJ7_fill_53178_3 hy ?_
  refine A_istore_n (ls1 := [_, _, _, _]) dJ7_fill_53178_4 (by decide) rfl rfl ?_
  rw [show μ = fillX μ a 0 x from (fillX_0 μ a x).symm]; exact loop (n + 1) 0 (by omega) (by omega)
theorem c_sum {a n : Nat} {μ : MI} {ν : ML} {P : Po} (hy : lay a = (1, n, [])) (hn : n < 1000) (hP : P (some (.int (sumI (μ a) n))) μ ν) : Ct mX9_sum 0 [.ref a] μ ν P := by
  refine Ct.of (ls0 := [_, _, _, _, _, _]) (by decide) rfl (Nat.le_of_ble_eq_true rfl) rfl ?_
  have loop : ∀ (k i : Nat), n - i < k → i ≤ n → AW mX9_sum (0, none) P 10 [some (.ref a), some (.int (sumI (μ a) i)), some (.ref a), some (.int (nI n)), some (.int (nI i)), none] [] μ ν := by
    intro k
    induction k with
    | zero => intro i h; omega
    | succ k ih =>
      intro i hk hi
      refine A_iload dX9_sum_10 rfl ?_
      refine A_iload_n dX9_sum_12 rfl ?_
      refine A_icmp_geN (tgt := 33) dX9_sum_13 (by decide) (by omega) (by omega) (fun b13 => ?_) (fun b13 => ?_)
      · refine A_iload_n dX9_sum_33 rfl ?_
        refine A_iret dX9_sum_34 rfl rfl ?_
        rw [show n = i by omega] at hP; exact hP
      · refine A_aload_n dX9_sum_16 rfl ?_
        refine A_iload dX9_sum_17 rfl ?_
        refine A_ialdN (j := i) dX9_sum_19 hy rfl b13 (by omega) ?_
        refine A_istore (ls1 := [_, _, _, _, _, _]) dX9_sum_20 (by decide) rfl rfl ?_
        refine A_iload_n dX9_sum_22 rfl ?_
        refine A_iload dX9_sum_23 rfl ?_
        refine A_iadd dX9_sum_25 ?_
        refine A_istore_n (ls1 := [_, _, _, _, _, _]) dX9_sum_26 (by decide) rfl rfl ?_
        refine A_iincN (ls1 := [_, _, _, _, _, _]) dX9_sum_27 rfl (by decide) rfl rfl ?_
        refine A_goto (tgt := 10) dX9_sum_30 (by decide) ?_
        exact A_weak (ih (i + 1) (by omega) (by omega)) (by repeat first | exact fw_0 | refine fw_s ?_ | refine fw_n ?_)
  refine A_iconst (v := nI 0) dX9_sum_0 (by decide +kernel) ?_
  refine A_istore_n (ls1 := [_, _, _, _, _, _]) dX9_sum_1 (by decide) rfl rfl ?_
  refine A_aload_n dX9_sum_2 rfl ?_
  refine A_astore_n (ls1 := [_, _, _, _, _, _]) dX9_sum_3 (by decide) rfl rfl ?_
  refine A_aload_n dX9_sum_4 rfl ?_
  refine A_alen dX9_sum_5 hy ?_
  refine A_istore_n (ls1 := [_, _, _, _, _, _]) dX9_sum_6 (by decide) rfl rfl ?_
  refine A_iconst (v := nI 0) dX9_sum_7 (by decide +kernel) ?_
  refine A_istore (ls1 := [_, _, _, _, _, _]) dX9_sum_8 (by decide) rfl rfl ?_
  exact A_weak (loop (n + 1) 0 (by omega) (by omega)) (by repeat first | exact fw_0 | refine fw_s ?_ | refine fw_n ?_)
theorem c_bucketsAdd (x y : Int32) {m : Nat} {μ : MI} {ν : ML} {P : Po} (hm : μ 2 0 = nI m) (hm8 : m ≤ 8) (h0 : m = 8 → P (some (.int (-1004))) μ ν) (h1 : m < 8 → P (some (.int (nI m))) (up2 (up2 (up2 (up2 μ 3 m x) 4 m y) 5 m (-1)) 2 0 (nI (m + 1))) ν) : Ct mX1_add 0 [.ref 2, .int x, .int y] μ ν P := by
  refine Ct.of (ls0 := [_, _, _]) (by decide) rfl (Nat.le_of_ble_eq_true rfl) rfl ?_
  refine A_aload_n dX1_add_0 rfl ?_
  refine A_getI dX1_add_1 flX1_24 rfl rfl ?_
  rw [hm]
  refine A_bipush (v := nI 8) dX1_add_4 (by decide +kernel) ?_
  refine A_icmp_ltN (tgt := 13) dX1_add_6 (by decide) (by omega) (by omega) (fun b6 => ?_) (fun b6 => ?_)
  · refine A_aload_n dX1_add_13 rfl ?_
    refine A_getR dX1_add_14 flX1_9 rfl rfl ?_
    refine A_aload_n dX1_add_17 rfl ?_
    refine A_getI dX1_add_18 flX1_24 rfl rfl ?_
    rw [hm]
    refine A_iload_n dX1_add_21 rfl ?_
    refine A_iastN (j := m) dX1_add_22 rfl rfl b6 (by decide) ?_
    refine A_aload_n dX1_add_23 rfl ?_
    refine A_getR dX1_add_24 flX1_15 rfl rfl ?_
    refine A_aload_n dX1_add_27 rfl ?_
    refine A_getI dX1_add_28 flX1_24 rfl rfl ?_
    simp (disch := omega) only [up2_a, hm]
    refine A_iload_n dX1_add_31 rfl ?_
    refine A_iastN (j := m) dX1_add_32 rfl rfl b6 (by decide) ?_
    refine A_aload_n dX1_add_33 rfl ?_
    refine A_getR dX1_add_34 flX1_18 rfl rfl ?_
    refine A_aload_n dX1_add_37 rfl ?_
    refine A_getI dX1_add_38 flX1_24 rfl rfl ?_
    simp (disch := omega) only [up2_a, hm]
    refine A_iconst (v := (-1)) dX1_add_41 (by decide +kernel) ?_
    refine A_iastN (j := m) dX1_add_42 rfl rfl b6 (by decide) ?_
    refine A_aload_n dX1_add_43 rfl ?_
    refine A_dup dX1_add_44 rfl ?_
    refine A_getI dX1_add_45 flX1_24 rfl rfl ?_
    simp (disch := omega) only [up2_a, hm]
    refine A_dup_x1 dX1_add_48 rfl rfl ?_
    refine A_iconst (v := nI 1) dX1_add_49 (by decide +kernel) ?_
    refine A_iaddN dX1_add_50 ?_
    refine A_put dX1_add_51 fpX1_24 rfl rfl rfl rfl ?_
    refine A_iret dX1_add_54 rfl rfl ?_
    exact h1 b6
  · refine A_sipush (v := (-1004)) dX1_add_9 (by decide +kernel) ?_
    refine A_iret dX1_add_12 rfl rfl ?_
    exact h0 (by omega)
theorem c_lead {b : Nat} (hb : b < 8) (to dl : Int32) {μ : MI} {ν : ML} {P : Po} (hP : P none (up2 (up2 μ 5 b to) 6 b dl) ν) : Ct mX1_lead 0 [.ref 2, .int (nI b), .int to, .int dl] μ ν P := by
  refine Ct.of (ls0 := [_, _, _, _]) (by decide) rfl (Nat.le_of_ble_eq_true rfl) rfl ?_
  refine A_aload_n dX1_lead_0 rfl ?_
  refine A_getR dX1_lead_1 flX1_18 rfl rfl ?_
  refine A_iload_n dX1_lead_4 rfl ?_
  refine A_iload_n dX1_lead_5 rfl ?_
  refine A_iastN (j := b) dX1_lead_6 rfl rfl hb (by decide) ?_
  refine A_aload_n dX1_lead_7 rfl ?_
  refine A_getR dX1_lead_8 flX1_21 rfl rfl ?_
  refine A_iload_n dX1_lead_11 rfl ?_
  refine A_iload_n dX1_lead_12 rfl ?_
  refine A_iastN (j := b) dX1_lead_13 rfl rfl hb (by decide) ?_
  refine A_vret dX1_lead_14 rfl ?_
  exact hP
theorem c_spoutsAdd (x1 x2 x3 x4 : Int32) {m : Nat} {μ : MI} {ν : ML} {P : Po} (hm : μ 7 0 = nI m) (hm8 : m ≤ 4) (h0 : m = 4 → P (some (.int (-1004))) μ ν) (h1 : m < 4 → P (some (.int (nI m))) (up2 (up2 (up2 (up2 (up2 μ 8 m x1) 9 m x2) 10 m x3) 11 m x4) 7 0 (nI (m + 1))) ν) : Ct mX7_add 0 [.ref 7, .int x1, .int x2, .int x3, .int x4] μ ν P := by
  refine Ct.of (ls0 := [_, _, _, _, _]) (by decide) rfl (Nat.le_of_ble_eq_true rfl) rfl ?_
  refine A_aload_n dX7_add_0 rfl ?_
  refine A_getI dX7_add_1 flX7_24 rfl rfl ?_
  rw [hm]
  refine A_iconst (v := nI 4) dX7_add_4 (by decide +kernel) ?_
  refine A_icmp_ltN (tgt := 12) dX7_add_5 (by decide) (by omega) (by omega) (fun b5 => ?_) (fun b5 => ?_)
  · refine A_aload_n dX7_add_12 rfl ?_
    refine A_getR dX7_add_13 flX7_9 rfl rfl ?_
    refine A_aload_n dX7_add_16 rfl ?_
    refine A_getI dX7_add_17 flX7_24 rfl rfl ?_
    rw [hm]
    refine A_iload_n dX7_add_20 rfl ?_
    refine A_iastN (j := m) dX7_add_21 rfl rfl b5 (by decide) ?_
    refine A_aload_n dX7_add_22 rfl ?_
    refine A_getR dX7_add_23 flX7_15 rfl rfl ?_
    refine A_aload_n dX7_add_26 rfl ?_
    refine A_getI dX7_add_27 flX7_24 rfl rfl ?_
    simp (disch := omega) only [up2_a, hm]
    refine A_iload_n dX7_add_30 rfl ?_
    refine A_iastN (j := m) dX7_add_31 rfl rfl b5 (by decide) ?_
    refine A_aload_n dX7_add_32 rfl ?_
    refine A_getR dX7_add_33 flX7_18 rfl rfl ?_
    refine A_aload_n dX7_add_36 rfl ?_
    refine A_getI dX7_add_37 flX7_24 rfl rfl ?_
    simp (disch := omega) only [up2_a, hm]
    refine A_iload_n dX7_add_40 rfl ?_
    refine A_iastN (j := m) dX7_add_41 rfl rfl b5 (by decide) ?_
    refine A_aload_n dX7_add_42 rfl ?_
    refine A_getR dX7_add_43 flX7_21 rfl rfl ?_
    refine A_aload_n dX7_add_46 rfl ?_
    refine A_getI dX7_add_47 flX7_24 rfl rfl ?_
    simp (disch := omega) only [up2_a, hm]
    refine A_iload dX7_add_50 rfl ?_
    refine A_iastN (j := m) dX7_add_52 rfl rfl b5 (by decide) ?_
    refine A_aload_n dX7_add_53 rfl ?_
    refine A_dup dX7_add_54 rfl ?_
    refine A_getI dX7_add_55 flX7_24 rfl rfl ?_
    simp (disch := omega) only [up2_a, hm]
    refine A_dup_x1 dX7_add_58 rfl rfl ?_
    refine A_iconst (v := nI 1) dX7_add_59 (by decide +kernel) ?_
    refine A_iaddN dX7_add_60 ?_
    refine A_put dX7_add_61 fpX7_24 rfl rfl rfl rfl ?_
    refine A_iret dX7_add_64 rfl rfl ?_
    exact h1 b5
  · refine A_sipush (v := (-1004)) dX7_add_8 (by decide +kernel) ?_
    refine A_iret dX7_add_11 rfl rfl ?_
    exact h0 (by omega)
theorem c_frogsAdd (x1 x2 x3 : Int32) {m : Nat} {μ : MI} {ν : ML} {P : Po} (hm : μ 12 0 = nI m) (hm8 : m ≤ 10) (h0 : m = 10 → P (some (.int (-1004))) μ ν) (h1 : m < 10 → P (some (.int (nI (m + 1)))) (up2 (up2 (up2 (up2 μ 13 m x1) 14 m x2) 15 m x3) 12 0 (nI (m + 1))) ν) : Ct mX3_add 0 [.ref 12, .int x1, .int x2, .int x3] μ ν P := by
  refine Ct.of (ls0 := [_, _, _, _]) (by decide) rfl (Nat.le_of_ble_eq_true rfl) rfl ?_
  refine A_aload_n dX3_add_0 rfl ?_
  refine A_getI dX3_add_1 flX3_21 rfl rfl ?_
  rw [hm]
  refine A_bipush (v := nI 10) dX3_add_4 (by decide +kernel) ?_
  refine A_icmp_ltN (tgt := 13) dX3_add_6 (by decide) (by omega) (by omega) (fun b6 => ?_) (fun b6 => ?_)
  · refine A_aload_n dX3_add_13 rfl ?_
    refine A_getR dX3_add_14 flX3_9 rfl rfl ?_
    refine A_aload_n dX3_add_17 rfl ?_
    refine A_getI dX3_add_18 flX3_21 rfl rfl ?_
    rw [hm]
    refine A_iload_n dX3_add_21 rfl ?_
    refine A_iastN (j := m) dX3_add_22 rfl rfl b6 (by decide) ?_
    refine A_aload_n dX3_add_23 rfl ?_
    refine A_getR dX3_add_24 flX3_15 rfl rfl ?_
    refine A_aload_n dX3_add_27 rfl ?_
    refine A_getI dX3_add_28 flX3_21 rfl rfl ?_
    simp (disch := omega) only [up2_a, hm]
    refine A_iload_n dX3_add_31 rfl ?_
    refine A_iastN (j := m) dX3_add_32 rfl rfl b6 (by decide) ?_
    refine A_aload_n dX3_add_33 rfl ?_
    refine A_getR dX3_add_34 flX3_18 rfl rfl ?_
    refine A_aload_n dX3_add_37 rfl ?_
    refine A_getI dX3_add_38 flX3_21 rfl rfl ?_
    simp (disch := omega) only [up2_a, hm]
    refine A_iload_n dX3_add_41 rfl ?_
    refine A_iastN (j := m) dX3_add_42 rfl rfl b6 (by decide) ?_
    refine A_aload_n dX3_add_43 rfl ?_
    refine A_dup dX3_add_44 rfl ?_
    refine A_getI dX3_add_45 flX3_21 rfl rfl ?_
    simp (disch := omega) only [up2_a, hm]
    refine A_iconst (v := nI 1) dX3_add_48 (by decide +kernel) ?_
    refine A_iaddN dX3_add_49 ?_
    refine A_put dX3_add_50 fpX3_21 rfl rfl rfl rfl ?_
    refine A_aload_n dX3_add_53 rfl ?_
    refine A_getI dX3_add_54 flX3_21 rfl rfl ?_
    simp only [up2_s]
    refine A_iret dX3_add_57 rfl rfl ?_
    exact h1 b6
  · refine A_sipush (v := (-1004)) dX3_add_9 (by decide +kernel) ?_
    refine A_iret dX3_add_12 rfl rfl ?_
    exact h0 (by omega)
theorem c_spellsAdd (x1 x2 : Int32) {m : Nat} {μ : MI} {ν : ML} {P : Po} (hm : μ 16 0 = nI m) (hm8 : m ≤ 10) (h0 : m = 10 → P (some (.int (-1004))) μ ν) (h1 : m < 10 → P (some (.int (nI (m + 1)))) (up2 (up2 (up2 μ 17 m x1) 18 m x2) 16 0 (nI (m + 1))) ν) : Ct mX6_add 0 [.ref 16, .int x1, .int x2] μ ν P := by
  refine Ct.of (ls0 := [_, _, _]) (by decide) rfl (Nat.le_of_ble_eq_true rfl) rfl ?_
  refine A_aload_n dX6_add_0 rfl ?_
  refine A_getI dX6_add_1 flX6_18 rfl rfl ?_
  rw [hm]
  refine A_bipush (v := nI 10) dX6_add_4 (by decide +kernel) ?_
  refine A_icmp_ltN (tgt := 13) dX6_add_6 (by decide) (by omega) (by omega) (fun b6 => ?_) (fun b6 => ?_)
  · refine A_aload_n dX6_add_13 rfl ?_
    refine A_getR dX6_add_14 flX6_9 rfl rfl ?_
    refine A_aload_n dX6_add_17 rfl ?_
    refine A_getI dX6_add_18 flX6_18 rfl rfl ?_
    rw [hm]
    refine A_iload_n dX6_add_21 rfl ?_
    refine A_iastN (j := m) dX6_add_22 rfl rfl b6 (by decide) ?_
    refine A_aload_n dX6_add_23 rfl ?_
    refine A_getR dX6_add_24 flX6_15 rfl rfl ?_
    refine A_aload_n dX6_add_27 rfl ?_
    refine A_getI dX6_add_28 flX6_18 rfl rfl ?_
    simp (disch := omega) only [up2_a, hm]
    refine A_iload_n dX6_add_31 rfl ?_
    refine A_iastN (j := m) dX6_add_32 rfl rfl b6 (by decide) ?_
    refine A_aload_n dX6_add_33 rfl ?_
    refine A_dup dX6_add_34 rfl ?_
    refine A_getI dX6_add_35 flX6_18 rfl rfl ?_
    simp (disch := omega) only [up2_a, hm]
    refine A_iconst (v := nI 1) dX6_add_38 (by decide +kernel) ?_
    refine A_iaddN dX6_add_39 ?_
    refine A_put dX6_add_40 fpX6_18 rfl rfl rfl rfl ?_
    refine A_aload_n dX6_add_43 rfl ?_
    refine A_getI dX6_add_44 flX6_18 rfl rfl ?_
    simp only [up2_s]
    refine A_iret dX6_add_47 rfl rfl ?_
    exact h1 b6
  · refine A_sipush (v := (-1004)) dX6_add_9 (by decide +kernel) ?_
    refine A_iret dX6_add_12 rfl rfl ?_
    exact h0 (by omega)
end
section
/-! the class's looks: due, held, wet; the twist; what was heard; the blame -/
theorem c_isDue {s t f e : Nat} (hs : s < 4) (ht : t < 10000) {μ : MI} {ν : ML} {P : Po} (hf : μ 11 s = nI f) (hf3 : f ≤ 30) (he : μ 10 s = nI e) (he3 : e ≤ 30) (h0e : 0 < e) (h1 : dueB μ s t = true → P (some (.int (nI 1))) μ ν) (h0 : dueB μ s t = false → P (some (.int (nI 0))) μ ν) : Ct mX7_isDue 1 [.ref 7, .int (nI s), .int (nI t)] μ ν P := by
  have eq : dueB μ s t = (decide (f ≤ t) && decide ((t - f) % e = 0)) := by
    unfold dueB
    rw [hf, he, N_nI (by omega), N_nI (by omega)]
  rw [eq] at h1 h0
  refine Ct.of (ls0 := [_, _, _]) (by decide) rfl (Nat.le_of_ble_eq_true rfl) rfl ?_
  refine A_iload_n dX7_isDue_0 rfl ?_
  refine A_aload_n dX7_isDue_1 rfl ?_
  refine A_getR dX7_isDue_2 flX7_21 rfl rfl ?_
  refine A_iload_n dX7_isDue_5 rfl ?_
  refine A_ialdN (j := s) dX7_isDue_6 rfl rfl hs (by decide) ?_
  rw [hf]
  refine A_icmp_ltN (tgt := 34) dX7_isDue_7 (by decide) (by omega) (by omega) (fun b7 => ?_) (fun b7 => ?_)
  · refine A_iconst (v := nI 0) dX7_isDue_34 (by decide +kernel) ?_
    refine A_iret dX7_isDue_35 rfl (by decide +kernel) ?_
    exact h0 (by simp [show ¬ f ≤ t by omega])
  · refine A_aload_n dX7_isDue_10 rfl ?_
    refine A_getR dX7_isDue_11 flX7_18 rfl rfl ?_
    refine A_iload_n dX7_isDue_14 rfl ?_
    refine A_ialdN (j := s) dX7_isDue_15 rfl rfl hs (by decide) ?_
    rw [he]
    refine A_iload_n dX7_isDue_16 rfl ?_
    refine A_aload_n dX7_isDue_17 rfl ?_
    refine A_getR dX7_isDue_18 flX7_21 rfl rfl ?_
    refine A_iload_n dX7_isDue_21 rfl ?_
    refine A_ialdN (j := s) dX7_isDue_22 rfl rfl hs (by decide) ?_
    rw [hf]
    refine A_isub dX7_isDue_23 ?_
    rw [pk_sub b7]
    refine A_callN2 dX7_isDue_24 mlX7_28 (by decide) (Nat.le_of_ble_eq_true rfl) (c_goesInto (by omega) (by omega) (fun g1 g2 => ?_) (fun g0 => ?_))
    · refine Kn.s ?_
      refine A_if_eq (tgt := 34) dX7_isDue_27 (by decide) (fun h => absurd h (by decide +kernel)) (fun _ => ?_)
      refine A_iconst (v := nI 1) dX7_isDue_30 (by decide +kernel) ?_
      refine A_goto (tgt := 35) dX7_isDue_31 (by decide) ?_
      refine A_iret dX7_isDue_35 rfl (by decide +kernel) ?_
      exact h1 (by simp [b7, g2])
    · refine Kn.s ?_
      refine A_if_eq (tgt := 34) dX7_isDue_27 (by decide) (fun _ => ?_) (fun h => absurd h (by decide +kernel))
      refine A_iconst (v := nI 0) dX7_isDue_34 (by decide +kernel) ?_
      refine A_iret dX7_isDue_35 rfl (by decide +kernel) ?_
      exact h0 (by simp only [Bool.and_eq_false_iff, decide_eq_false_iff_not]; exact Or.inr (fun q => g0 ⟨h0e, q⟩))
def sitQ (μ : MI) (s t k : Nat) : Bool := decide (μ 13 k = nI s) && (decide (μ 14 k ≤ nI t) && decide (nI t ≤ μ 15 k))
theorem c_sitOn {s t m : Nat} {μ : MI} {ν : ML} {P : Po} (hm : μ 12 0 = nI m) (hm8 : m ≤ 10) (h1 : frogB μ s t = true → P (some (.int (nI 1))) μ ν) (h0 : frogB μ s t = false → P (some (.int (nI 0))) μ ν) : Ct mX3_sitOn 0 [.ref 12, .int (nI s), .int (nI t)] μ ν P := by
  have eq : frogB μ s t = anyB (sitQ μ s t) m := by
    unfold frogB
    rw [hm, N_nI (by omega)]
    rfl
  rw [eq] at h1 h0
  refine Ct.of (ls0 := [_, _, _, _]) (by decide) rfl (Nat.le_of_ble_eq_true rfl) rfl ?_
  have loop : ∀ (n i : Nat), m - i < n → i ≤ m → anyB (sitQ μ s t) i = false → AW mX3_sitOn (0, none) P 2 [some (.ref 12), some (.int (nI s)), some (.int (nI t)), some (.int (nI i))] [] μ ν := by
    intro n
    induction n with
    | zero => intro i h; omega
    | succ n ih =>
      intro i hn hi ha
      refine A_iload_n dX3_sitOn_2 rfl ?_
      refine A_aload_n dX3_sitOn_3 rfl ?_
      refine A_getI dX3_sitOn_4 flX3_21 rfl rfl ?_
      rw [hm]
      refine A_icmp_geN (tgt := 48) dX3_sitOn_7 (by decide) (by omega) (by omega) (fun b7 => ?_) (fun b7 => ?_)
      · refine A_iconst (v := nI 0) dX3_sitOn_48 (by decide +kernel) ?_
        refine A_iret dX3_sitOn_49 rfl (by decide +kernel) ?_
        exact h0 (by rw [show m = i by omega]; exact ha)
      · refine A_aload_n dX3_sitOn_10 rfl ?_
        refine A_getR dX3_sitOn_11 flX3_9 rfl rfl ?_
        refine A_iload_n dX3_sitOn_14 rfl ?_
        refine A_ialdN (j := i) dX3_sitOn_15 rfl rfl (by omega) (by decide) ?_
        refine A_iload_n dX3_sitOn_16 rfl ?_
        refine A_icmp_ne (tgt := 42) dX3_sitOn_17 (by decide) (fun b17 => ?_) (fun b17 => ?_)
        · refine A_iincN (ls1 := [_, _, _, _]) dX3_sitOn_42 rfl (by decide) rfl rfl ?_
          refine A_goto (tgt := 2) dX3_sitOn_45 (by decide) ?_
          exact ih (i + 1) (by omega) (by omega) (by rw [anyB, ha]; simp [sitQ, b17])
        · refine A_aload_n dX3_sitOn_20 rfl ?_
          refine A_getR dX3_sitOn_21 flX3_15 rfl rfl ?_
          refine A_iload_n dX3_sitOn_24 rfl ?_
          refine A_ialdN (j := i) dX3_sitOn_25 rfl rfl (by omega) (by decide) ?_
          refine A_iload_n dX3_sitOn_26 rfl ?_
          refine A_icmp_gt (tgt := 42) dX3_sitOn_27 (by decide) (fun b27 => ?_) (fun b27 => ?_)
          · refine A_iincN (ls1 := [_, _, _, _]) dX3_sitOn_42 rfl (by decide) rfl rfl ?_
            refine A_goto (tgt := 2) dX3_sitOn_45 (by decide) ?_
            exact ih (i + 1) (by omega) (by omega) (by rw [anyB, ha]; simp [sitQ, i_lt_n b27])
          · refine A_iload_n dX3_sitOn_30 rfl ?_
            refine A_aload_n dX3_sitOn_31 rfl ?_
            refine A_getR dX3_sitOn_32 flX3_18 rfl rfl ?_
            refine A_iload_n dX3_sitOn_35 rfl ?_
            refine A_ialdN (j := i) dX3_sitOn_36 rfl rfl (by omega) (by decide) ?_
            refine A_icmp_gt (tgt := 42) dX3_sitOn_37 (by decide) (fun b37 => ?_) (fun b37 => ?_)
            · refine A_iincN (ls1 := [_, _, _, _]) dX3_sitOn_42 rfl (by decide) rfl rfl ?_
              refine A_goto (tgt := 2) dX3_sitOn_45 (by decide) ?_
              exact ih (i + 1) (by omega) (by omega) (by rw [anyB, ha]; simp [sitQ, i_lt_n b37])
            · refine A_iconst (v := nI 1) dX3_sitOn_40 (by decide +kernel) ?_
              refine A_iret dX3_sitOn_41 rfl (by decide +kernel) ?_
              exact h1 (anyB_t (k := i) (by omega) (by simp [sitQ, b17, i_nlt b27, i_nlt b37]))
  refine A_iconst (v := nI 0) dX3_sitOn_0 (by decide +kernel) ?_
  refine A_istore_n (ls1 := [_, _, _, _]) dX3_sitOn_1 (by decide) rfl rfl ?_
  exact loop (m + 1) 0 (by omega) (by omega) rfl
theorem c_wetAt {t m : Nat} {μ : MI} {ν : ML} {P : Po} (hm : μ 16 0 = nI m) (hm8 : m ≤ 10) (hP : P (some (.int (wetP μ t))) μ ν) : Ct mX6_wetAt 1 [.ref 16, .int (nI t)] μ ν P := by
  unfold wetP at hP
  rw [hm, N_nI (by omega)] at hP
  refine Ct.of (ls0 := [_, _, _, _, _]) (by decide) rfl (Nat.le_of_ble_eq_true rfl) rfl ?_
  have loop : ∀ (n i : Nat), m - i < n → i ≤ m → AW mX6_wetAt (1, none) P 7 [some (.ref 16), some (.int (nI t)), some (.int (wetF (μ 17) (μ 18) (nI t) i).1), some (.int (wetF (μ 17) (μ 18) (nI t) i).2), some (.int (nI i))] [] μ ν := by
    intro n
    induction n with
    | zero => intro i h; omega
    | succ n ih =>
      intro i hn hi
      refine A_iload dX6_wetAt_7 rfl ?_
      refine A_aload_n dX6_wetAt_9 rfl ?_
      refine A_getI dX6_wetAt_10 flX6_18 rfl rfl ?_
      rw [hm]
      refine A_icmp_geN (tgt := 53) dX6_wetAt_13 (by decide) (by omega) (by omega) (fun b13 => ?_) (fun b13 => ?_)
      · refine A_iload_n dX6_wetAt_53 rfl ?_
        refine A_iret dX6_wetAt_54 rfl rfl ?_
        rw [show m = i by omega] at hP; exact hP
      · refine A_aload_n dX6_wetAt_16 rfl ?_
        refine A_getR dX6_wetAt_17 flX6_9 rfl rfl ?_
        refine A_iload dX6_wetAt_20 rfl ?_
        refine A_ialdN (j := i) dX6_wetAt_22 rfl rfl (by omega) (by decide) ?_
        refine A_iload_n dX6_wetAt_23 rfl ?_
        refine A_iload_n dX6_wetAt_24 rfl ?_
        refine A_callN3 dX6_wetAt_25 mlX6_22 (by decide) (Nat.le_of_ble_eq_true rfl) (c_within _ _ _ (fun g1 g2 => ?_) (fun g0 => ?_))
        · refine Kn.s ?_
          refine A_if_eq (tgt := 47) dX6_wetAt_28 (by decide) (fun h => absurd h (by decide +kernel)) (fun _ => ?_)
          refine A_aload_n dX6_wetAt_31 rfl ?_
          refine A_getR dX6_wetAt_32 flX6_9 rfl rfl ?_
          refine A_iload dX6_wetAt_35 rfl ?_
          refine A_ialdN (j := i) dX6_wetAt_37 rfl rfl (by omega) (by decide) ?_
          refine A_istore_n (ls1 := [_, _, _, _, _]) dX6_wetAt_38 (by decide) rfl rfl ?_
          refine A_aload_n dX6_wetAt_39 rfl ?_
          refine A_getR dX6_wetAt_40 flX6_15 rfl rfl ?_
          refine A_iload dX6_wetAt_43 rfl ?_
          refine A_ialdN (j := i) dX6_wetAt_45 rfl rfl (by omega) (by decide) ?_
          refine A_istore_n (ls1 := [_, _, _, _, _]) dX6_wetAt_46 (by decide) rfl rfl ?_
          refine A_iincN (ls1 := [_, _, _, _, _]) dX6_wetAt_47 rfl (by decide) rfl rfl ?_
          refine A_goto (tgt := 7) dX6_wetAt_50 (by decide) ?_
          have e : wetF (μ 17) (μ 18) (nI t) (i + 1) = (μ 17 i, μ 18 i) := if_pos ⟨g1, g2⟩
          have h9 := ih (i + 1) (by omega) (by omega)
          rw [e] at h9
          exact h9
        · refine Kn.s ?_
          refine A_if_eq (tgt := 47) dX6_wetAt_28 (by decide) (fun _ => ?_) (fun h => absurd h (by decide +kernel))
          refine A_iincN (ls1 := [_, _, _, _, _]) dX6_wetAt_47 rfl (by decide) rfl rfl ?_
          refine A_goto (tgt := 7) dX6_wetAt_50 (by decide) ?_
          have e : wetF (μ 17) (μ 18) (nI t) (i + 1) = wetF (μ 17) (μ 18) (nI t) i := if_neg g0
          have h9 := ih (i + 1) (by omega) (by omega)
          rw [e] at h9
          exact h9
  refine A_iconst (v := nI 0) dX6_wetAt_0 (by decide +kernel) ?_
  refine A_istore_n (ls1 := [_, _, _, _, _]) dX6_wetAt_1 (by decide) rfl rfl ?_
  refine A_iconst (v := nI 0) dX6_wetAt_2 (by decide +kernel) ?_
  refine A_istore_n (ls1 := [_, _, _, _, _]) dX6_wetAt_3 (by decide) rfl rfl ?_
  refine A_iconst (v := nI 0) dX6_wetAt_4 (by decide +kernel) ?_
  refine A_istore (ls1 := [_, _, _, _, _]) dX6_wetAt_5 (by decide) rfl rfl ?_
  exact loop (m + 1) 0 (by omega) (by omega)
/-- the twist's cells hold tw -/
def TW (w : Nat) (tw μ : MI) : Prop := μ w 0 = tw 0 0 ∧ (∀ s, s < 4 → μ (w + 1) s = tw 1 s ∧ μ (w + 2) s = tw 2 s) ∧ ∀ b, b < 8 → μ (w + 3) b = tw 3 b ∧ μ (w + 4) b = tw 4 b
def tw0 (p : Int32) : MI := fun k _ => if k = 0 then p else 0
theorem c_reset (p : Int32) {μ : MI} {ν : ML} {P : Po} (hp : p = nI 0 ∨ p = nI 1) (hP : ∀ μ', TW 24 (tw0 p) μ' → Fr 24 5 μ μ' → P none μ' ν) : Ct mX8_reset 0 [.ref 24, .int p] μ ν P := by
  refine Ct.of (ls0 := [_, _, _]) (by decide) rfl (Nat.le_of_ble_eq_true rfl) rfl ?_
  have loop2 : ∀ (n i : Nat) (μ1 : MI), 8 - i < n → i ≤ 8 → Fr 24 5 μ μ1 → μ1 24 0 = p → (∀ s, s < 4 → μ1 25 s = 0 ∧ μ1 26 s = 0) → (∀ b, b < i → μ1 27 b = 0 ∧ μ1 28 b = 0) → AW mX8_reset (0, none) P 34 [some (.ref 24), some (.int p), some (.int (nI i))] [] μ1 ν := by
    intro n
    induction n with
    | zero => intro i μ1 h; omega
    | succ n ih =>
      intro i μ1 hn hi hF h0 h1 h2
      refine A_iload_n dX8_reset_34 rfl ?_
      refine A_bipush (v := nI 8) dX8_reset_35 (by decide +kernel) ?_
      refine A_icmp_geN (tgt := 60) dX8_reset_37 (by decide) (by omega) (by omega) (fun b37 => ?_) (fun b37 => ?_)
      · refine A_vret dX8_reset_60 rfl ?_
        exact hP μ1 ⟨h0, h1, fun b hb => h2 b (by omega)⟩ hF
      · refine A_aload_n dX8_reset_40 rfl ?_
        refine A_getR dX8_reset_41 flX8_19 rfl rfl ?_
        refine A_iload_n dX8_reset_44 rfl ?_
        refine A_iconst (v := nI 0) dX8_reset_45 (by decide +kernel) ?_
        refine A_zastN (j := i) dX8_reset_46 rfl rfl b37 (by decide) rfl ?_
        refine A_aload_n dX8_reset_47 rfl ?_
        refine A_getR dX8_reset_48 flX8_22 rfl rfl ?_
        refine A_iload_n dX8_reset_51 rfl ?_
        refine A_iconst (v := nI 0) dX8_reset_52 (by decide +kernel) ?_
        refine A_zastN (j := i) dX8_reset_53 rfl rfl b37 (by decide) rfl ?_
        refine A_iincN (ls1 := [_, _, _]) dX8_reset_54 rfl (by decide) rfl rfl ?_
        refine A_goto (tgt := 34) dX8_reset_57 (by decide) ?_
        refine ih (i + 1) _ (by omega) (by omega) ((hF.tr (Fr.up (by omega) (by omega))).tr (Fr.up (by omega) (by omega))) ?_ (fun s hs => ?_) (fun b hb => ?_)
        · simp (disch := omega) only [up2_a]; exact h0
        · simp (disch := omega) only [up2_a]; exact h1 s hs
        · by_cases e : b = i
          · subst e
            simp (disch := omega) only [up2_a, up2_s]
            exact ⟨rfl, rfl⟩
          · simp (disch := omega) only [up2_a, up2_b]
            exact h2 b (by omega)
  have loop1 : ∀ (n i : Nat) (μ1 : MI), 4 - i < n → i ≤ 4 → Fr 24 5 μ μ1 → μ1 24 0 = p → (∀ s, s < i → μ1 25 s = 0 ∧ μ1 26 s = 0) → AW mX8_reset (0, none) P 7 [some (.ref 24), some (.int p), some (.int (nI i))] [] μ1 ν := by
    intro n
    induction n with
    | zero => intro i μ1 h; omega
    | succ n ih =>
      intro i μ1 hn hi hF h0 h1
      refine A_iload_n dX8_reset_7 rfl ?_
      refine A_iconst (v := nI 4) dX8_reset_8 (by decide +kernel) ?_
      refine A_icmp_geN (tgt := 32) dX8_reset_9 (by decide) (by omega) (by omega) (fun b9 => ?_) (fun b9 => ?_)
      · refine A_iconst (v := nI 0) dX8_reset_32 (by decide +kernel) ?_
        refine A_istore_n (ls1 := [_, _, _]) dX8_reset_33 (by decide) rfl rfl ?_
        exact loop2 9 0 μ1 (by omega) (by omega) hF h0 (fun s hs => h1 s (by omega)) (fun b hb => by omega)
      · refine A_aload_n dX8_reset_12 rfl ?_
        refine A_getR dX8_reset_13 flX8_9 rfl rfl ?_
        refine A_iload_n dX8_reset_16 rfl ?_
        refine A_iconst (v := nI 0) dX8_reset_17 (by decide +kernel) ?_
        refine A_iastN (j := i) dX8_reset_18 rfl rfl b9 (by decide) ?_
        refine A_aload_n dX8_reset_19 rfl ?_
        refine A_getR dX8_reset_20 flX8_15 rfl rfl ?_
        refine A_iload_n dX8_reset_23 rfl ?_
        refine A_iconst (v := nI 0) dX8_reset_24 (by decide +kernel) ?_
        refine A_zastN (j := i) dX8_reset_25 rfl rfl b9 (by decide) rfl ?_
        refine A_iincN (ls1 := [_, _, _]) dX8_reset_26 rfl (by decide) rfl rfl ?_
        refine A_goto (tgt := 7) dX8_reset_29 (by decide) ?_
        refine ih (i + 1) _ (by omega) (by omega) ((hF.tr (Fr.up (by omega) (by omega))).tr (Fr.up (by omega) (by omega))) ?_ (fun s hs => ?_)
        · simp (disch := omega) only [up2_a]; exact h0
        · by_cases e : s = i
          · subst e
            simp (disch := omega) only [up2_a, up2_s]
            exact ⟨rfl, rfl⟩
          · simp (disch := omega) only [up2_a, up2_b]
            exact h1 s (by omega)
  refine A_aload_n dX8_reset_0 rfl ?_
  refine A_iload_n dX8_reset_1 rfl ?_
  refine A_put dX8_reset_2 fpX8_25 rfl rfl (by rcases hp with rfl | rfl <;> decide +kernel) (by rcases hp with rfl | rfl <;> decide +kernel) ?_
  refine A_iconst (v := nI 0) dX8_reset_5 (by decide +kernel) ?_
  refine A_istore_n (ls1 := [_, _, _]) dX8_reset_6 (by decide) rfl rfl ?_
  exact loop1 5 0 _ (by omega) (by omega) (Fr.up (by omega) (by omega)) (up2_s _ _ _ _) (fun s hs => by omega)
theorem c_fail (f : Int32) {μ : MI} {ν : ML} {P : Po} (h1 : ∀ k, f = nI k → k < 4 → P none (up2 μ 26 k (nI 1)) ν) (h2 : ∀ k, f = nI (k + 10) → k < 8 → P none (up2 μ 27 k (nI 1)) ν) (h3 : ∀ k, f = nI (k + 20) → k < 8 → P none (up2 μ 28 k (nI 1)) ν) (h4 : (¬ (nI 0 ≤ f ∧ f ≤ nI 3)) → ¬ (nI 10 ≤ f ∧ f ≤ nI 17) → ¬ (nI 20 ≤ f ∧ f ≤ nI 27) → P none μ ν) : Ct mX8_fail 1 [.ref 24, .int f] μ ν P := by
  refine Ct.of (ls0 := [_, _]) (by decide) rfl (Nat.le_of_ble_eq_true rfl) rfl ?_
  refine A_iload_n dX8_fail_0 rfl ?_
  refine A_iconst (v := nI 0) dX8_fail_1 (by decide +kernel) ?_
  refine A_iconst (v := nI 3) dX8_fail_2 (by decide +kernel) ?_
  refine A_callN3 dX8_fail_3 mlX8_29 (by decide) (Nat.le_of_ble_eq_true rfl) (c_within _ _ _ (fun g1 g2 => ?_) (fun g3 => ?_))
  · refine Kn.s ?_
    refine A_if_eq (tgt := 19) dX8_fail_6 (by decide) (fun h => absurd h (by decide +kernel)) (fun _ => ?_)
    obtain ⟨k, hk, rfl⟩ := nI_of2 (M := nI 3) (n := 3) rfl (i_le_n g1) g2
    refine A_aload_n dX8_fail_9 rfl ?_
    refine A_getR dX8_fail_10 flX8_15 rfl rfl ?_
    refine A_iload_n dX8_fail_13 rfl ?_
    refine A_iconst (v := nI 1) dX8_fail_14 (by decide +kernel) ?_
    refine A_zastN (j := k) dX8_fail_15 rfl rfl (by omega) (by decide) rfl ?_
    refine A_goto (tgt := 64) dX8_fail_16 (by decide) ?_
    refine A_vret dX8_fail_64 rfl ?_
    exact h1 k rfl (by omega)
  · refine Kn.s ?_
    refine A_if_eq (tgt := 19) dX8_fail_6 (by decide) (fun _ => ?_) (fun h => absurd h (by decide +kernel))
    refine A_iload_n dX8_fail_19 rfl ?_
    refine A_bipush (v := nI 10) dX8_fail_20 (by decide +kernel) ?_
    refine A_bipush (v := nI 17) dX8_fail_22 (by decide +kernel) ?_
    refine A_callN3 dX8_fail_24 mlX8_29 (by decide) (Nat.le_of_ble_eq_true rfl) (c_within _ _ _ (fun g4 g5 => ?_) (fun g6 => ?_))
    · refine Kn.s ?_
      refine A_if_eq (tgt := 43) dX8_fail_27 (by decide) (fun h => absurd h (by decide +kernel)) (fun _ => ?_)
      obtain ⟨k0, hk, rfl⟩ := nI_of2 (M := nI 17) (n := 17) rfl (i_le_n (Int32.le_trans (by decide +kernel) g4)) g5
      have g4' := (nI_leI (by omega) (by omega)).mp g4
      obtain ⟨k, rfl⟩ : ∃ k, k0 = k + 10 := ⟨k0 - 10, by omega⟩
      refine A_aload_n dX8_fail_30 rfl ?_
      refine A_getR dX8_fail_31 flX8_19 rfl rfl ?_
      refine A_iload_n dX8_fail_34 rfl ?_
      refine A_bipush (v := nI 10) dX8_fail_35 (by decide +kernel) ?_
      refine A_isub dX8_fail_37 ?_
      rw [pk_sub (by omega), show k + 10 - 10 = k by omega]
      refine A_iconst (v := nI 1) dX8_fail_38 (by decide +kernel) ?_
      refine A_zastN (j := k) dX8_fail_39 rfl rfl (by omega) (by decide) rfl ?_
      refine A_goto (tgt := 64) dX8_fail_40 (by decide) ?_
      refine A_vret dX8_fail_64 rfl ?_
      exact h2 k rfl (by omega)
    · refine Kn.s ?_
      refine A_if_eq (tgt := 43) dX8_fail_27 (by decide) (fun _ => ?_) (fun h => absurd h (by decide +kernel))
      refine A_iload_n dX8_fail_43 rfl ?_
      refine A_bipush (v := nI 20) dX8_fail_44 (by decide +kernel) ?_
      refine A_bipush (v := nI 27) dX8_fail_46 (by decide +kernel) ?_
      refine A_callN3 dX8_fail_48 mlX8_29 (by decide) (Nat.le_of_ble_eq_true rfl) (c_within _ _ _ (fun g7 g8 => ?_) (fun g9 => ?_))
      · refine Kn.s ?_
        refine A_if_eq (tgt := 64) dX8_fail_51 (by decide) (fun h => absurd h (by decide +kernel)) (fun _ => ?_)
        obtain ⟨k0, hk, rfl⟩ := nI_of2 (M := nI 27) (n := 27) rfl (i_le_n (Int32.le_trans (by decide +kernel) g7)) g8
        have g7' := (nI_leI (by omega) (by omega)).mp g7
        obtain ⟨k, rfl⟩ : ∃ k, k0 = k + 20 := ⟨k0 - 20, by omega⟩
        refine A_aload_n dX8_fail_54 rfl ?_
        refine A_getR dX8_fail_55 flX8_22 rfl rfl ?_
        refine A_iload_n dX8_fail_58 rfl ?_
        refine A_bipush (v := nI 20) dX8_fail_59 (by decide +kernel) ?_
        refine A_isub dX8_fail_61 ?_
        rw [pk_sub (by omega), show k + 20 - 20 = k by omega]
        refine A_iconst (v := nI 1) dX8_fail_62 (by decide +kernel) ?_
        refine A_zastN (j := k) dX8_fail_63 rfl rfl (by omega) (by decide) rfl ?_
        refine A_vret dX8_fail_64 rfl ?_
        exact h3 k rfl (by omega)
      · refine Kn.s ?_
        refine A_if_eq (tgt := 64) dX8_fail_51 (by decide) (fun _ => ?_) (fun h => absurd h (by decide +kernel))
        refine A_vret dX8_fail_64 rfl ?_
        exact h4 g3 g6 g9
def beatB (c : MI) (n : Nat) : Bool := allB (fun s => decide (0 < N (c 10 s)) && decide (n % N (c 10 s) = 0)) (N (c 7 0)) && (decide (N (c 1 4) = 0) || decide (n % N (c 1 4) = 0))
theorem c_isBeat {n m dr : Nat} (hn : n < 10000) {μ : MI} {ν : ML} {P : Po} (hm : μ 7 0 = nI m) (hm4 : m ≤ 4) (he : ∀ s, s < m → sm (μ 10 s) 30) (hd : μ 1 4 = nI dr) (hd5 : dr ≤ 50) (h1 : beatB μ n = true → P (some (.int (nI 1))) μ ν) (h0 : beatB μ n = false → P (some (.int (nI 0))) μ ν) : Ct mX5_isBeat 1 [.ref 1, .int (nI n)] μ ν P := by
  have eq : beatB μ n = (allB (fun s => decide (0 < N (μ 10 s)) && decide (n % N (μ 10 s) = 0)) m && (decide (dr = 0) || decide (n % dr = 0))) := by
    unfold beatB
    rw [hm, hd, N_nI (by omega), N_nI (by omega)]
  rw [eq] at h1 h0
  refine Ct.of (ls0 := [_, _, _]) (by decide) rfl (Nat.le_of_ble_eq_true rfl) rfl ?_
  have loop : ∀ (k i : Nat), m - i < k → i ≤ m → allB (fun s => decide (0 < N (μ 10 s)) && decide (n % N (μ 10 s) = 0)) i = true → AW mX5_isBeat (1, none) P 2 [some (.ref 1), some (.int (nI n)), some (.int (nI i))] [] μ ν := by
    intro k
    induction k with
    | zero => intro i h; omega
    | succ k ih =>
      intro i hk hi ha
      refine A_iload_n dX5_isBeat_2 rfl ?_
      refine A_aload_n dX5_isBeat_3 rfl ?_
      refine A_getR dX5_isBeat_4 flX5_21 rfl rfl ?_
      refine A_getI dX5_isBeat_7 flX5_39 rfl rfl ?_
      rw [hm]
      refine A_icmp_geN (tgt := 37) dX5_isBeat_10 (by decide) (by omega) (by omega) (fun b10 => ?_) (fun b10 => ?_)
      · have e : i = m := by omega
        subst e
        refine A_aload_n dX5_isBeat_37 rfl ?_
        refine A_getI dX5_isBeat_38 flX5_51 rfl rfl ?_
        rw [hd]
        refine A_if_eq (tgt := 55) dX5_isBeat_41 (by decide) (fun b41 => ?_) (fun b41 => ?_)
        · refine A_iconst (v := nI 1) dX5_isBeat_55 (by decide +kernel) ?_
          refine A_goto (tgt := 60) dX5_isBeat_56 (by decide) ?_
          refine A_iret dX5_isBeat_60 rfl (by decide +kernel) ?_
          refine h1 ?_
          have e0 : dr = 0 := (nI_eq (a := dr) (b := 0) (by omega) (by omega)).mp b41
          simp [ha, e0]
        · refine A_aload_n dX5_isBeat_44 rfl ?_
          refine A_getI dX5_isBeat_45 flX5_51 rfl rfl ?_
          rw [hd]
          refine A_iload_n dX5_isBeat_48 rfl ?_
          refine A_callN2 dX5_isBeat_49 mlX5_47 (by decide) (Nat.le_of_ble_eq_true rfl) (c_goesInto (by omega) (by omega) (fun g1 g2 => ?_) (fun g0 => ?_))
          · refine Kn.s ?_
            refine A_if_eq (tgt := 59) dX5_isBeat_52 (by decide) (fun h => absurd h (by decide +kernel)) (fun _ => ?_)
            refine A_iconst (v := nI 1) dX5_isBeat_55 (by decide +kernel) ?_
            refine A_goto (tgt := 60) dX5_isBeat_56 (by decide) ?_
            refine A_iret dX5_isBeat_60 rfl (by decide +kernel) ?_
            exact h1 (by simp [ha, g2])
          · refine Kn.s ?_
            refine A_if_eq (tgt := 59) dX5_isBeat_52 (by decide) (fun _ => ?_) (fun h => absurd h (by decide +kernel))
            refine A_iconst (v := nI 0) dX5_isBeat_59 (by decide +kernel) ?_
            refine A_iret dX5_isBeat_60 rfl (by decide +kernel) ?_
            refine h0 ?_
            have e0 : ¬ dr = 0 := fun q => b41 (by rw [q]; rfl)
            have e1 : ¬ n % dr = 0 := fun q => g0 ⟨by omega, q⟩
            simp [e0, e1]
      · refine A_aload_n dX5_isBeat_13 rfl ?_
        refine A_getR dX5_isBeat_14 flX5_21 rfl rfl ?_
        refine A_getR dX5_isBeat_17 flX5_43 rfl rfl ?_
        refine A_iload_n dX5_isBeat_20 rfl ?_
        refine A_ialdN (j := i) dX5_isBeat_21 rfl rfl (by omega) (by decide) ?_
        rw [(he i b10).1]
        refine A_iload_n dX5_isBeat_22 rfl ?_
        have hs := (he i b10).2
        refine A_callN2 dX5_isBeat_23 mlX5_47 (by decide) (Nat.le_of_ble_eq_true rfl) (c_goesInto (by omega) (by omega) (fun g1 g2 => ?_) (fun g0 => ?_))
        · refine Kn.s ?_
          refine A_if_ne (tgt := 31) dX5_isBeat_26 (by decide) (fun _ => ?_) (fun h => absurd h (by decide +kernel))
          refine A_iincN (ls1 := [_, _, _]) dX5_isBeat_31 rfl (by decide) rfl rfl ?_
          refine A_goto (tgt := 2) dX5_isBeat_34 (by decide) ?_
          exact ih (i + 1) (by omega) (by omega) (by rw [allB, ha]; simp [g1, g2])
        · refine Kn.s ?_
          refine A_if_ne (tgt := 31) dX5_isBeat_26 (by decide) (fun h => absurd h (by decide +kernel)) (fun _ => ?_)
          refine A_iconst (v := nI 0) dX5_isBeat_29 (by decide +kernel) ?_
          refine A_iret dX5_isBeat_30 rfl (by decide +kernel) ?_
          refine h0 ?_
          rw [allB_f (k := i) b10 (by simp only [Bool.and_eq_false_iff, decide_eq_false_iff_not]; rcases Nat.eq_zero_or_pos (N (μ 10 i)) with q | q; exact Or.inl (by omega); exact Or.inr (fun q2 => g0 ⟨q, q2⟩))]
          rfl
  refine A_iconst (v := nI 0) dX5_isBeat_0 (by decide +kernel) ?_
  refine A_istore_n (ls1 := [_, _, _]) dX5_isBeat_1 (by decide) rfl rfl ?_
  exact loop (m + 1) 0 (by omega) (by omega) rfl
/-- a fault that there may be -/
def canF (nb ns k : Nat) : Bool := if k < 10 then decide (k < ns) else if k < 20 then decide (k - 10 < nb) else decide (k - 20 < nb)
theorem c_canFail {k nb ns : Nat} (hk : k < 30) {μ : MI} {ν : ML} {P : Po} (hb : μ 2 0 = nI nb) (hb8 : nb ≤ 8) (hs : μ 7 0 = nI ns) (hs4 : ns ≤ 4) (h1 : canF nb ns k = true → P (some (.int (nI 1))) μ ν) (h0 : canF nb ns k = false → P (some (.int (nI 0))) μ ν) : Ct mX5_canFail 1 [.ref 1, .int (nI k)] μ ν P := by
  have hin : ∀ {j n : Nat}, j < 30 → n ≤ 8 → (inR (nI j) n ↔ j < n) := by
    intro j n hj hn
    refine ⟨fun ⟨i, h, hi⟩ => ?_, fun h => ⟨j, rfl, h⟩⟩
    have := (nI_eq (a := j) (b := i) (by omega) (by omega)).mp h
    omega
  refine Ct.of (ls0 := [_, _]) (by decide) rfl (Nat.le_of_ble_eq_true rfl) rfl ?_
  refine A_iload_n dX5_canFail_0 rfl ?_
  refine A_bipush (v := nI 10) dX5_canFail_1 (by decide +kernel) ?_
  refine A_icmp_geN (tgt := 15) dX5_canFail_3 (by decide) (by omega) (by omega) (fun b3 => ?_) (fun b3 => ?_)
  · refine A_aload_n dX5_canFail_15 rfl ?_
    refine A_getR dX5_canFail_16 flX5_12 rfl rfl ?_
    refine A_iload_n dX5_canFail_19 rfl ?_
    refine A_bipush (v := nI 20) dX5_canFail_20 (by decide +kernel) ?_
    refine A_icmp_geN (tgt := 32) dX5_canFail_22 (by decide) (by omega) (by omega) (fun b22 => ?_) (fun b22 => ?_)
    · refine A_iload_n dX5_canFail_32 rfl ?_
      refine A_bipush (v := nI 20) dX5_canFail_33 (by decide +kernel) ?_
      refine A_isub dX5_canFail_35 ?_
      rw [pk_sub b22]
      refine A_callV1 dX5_canFail_36 mlX5_58 (by decide) rfl rfl (Nat.le_of_ble_eq_true rfl) (c_has _ hb hb8 (fun g => ?_) (fun g => ?_))
      · refine Kn.s ?_
        refine A_iret dX5_canFail_39 rfl (by decide +kernel) ?_
        exact h1 (by rw [hin (by omega) (by omega)] at g; simp [canF, show ¬ k < 10 by omega, show ¬ k < 20 by omega, g])
      · refine Kn.s ?_
        refine A_iret dX5_canFail_39 rfl (by decide +kernel) ?_
        exact h0 (by rw [hin (by omega) (by omega)] at g; simp [canF, show ¬ k < 10 by omega, show ¬ k < 20 by omega]; omega)
    · refine A_iload_n dX5_canFail_25 rfl ?_
      refine A_bipush (v := nI 10) dX5_canFail_26 (by decide +kernel) ?_
      refine A_isub dX5_canFail_28 ?_
      rw [pk_sub b3]
      refine A_goto (tgt := 36) dX5_canFail_29 (by decide) ?_
      refine A_callV1 dX5_canFail_36 mlX5_58 (by decide) rfl rfl (Nat.le_of_ble_eq_true rfl) (c_has _ hb hb8 (fun g => ?_) (fun g => ?_))
      · refine Kn.s ?_
        refine A_iret dX5_canFail_39 rfl (by decide +kernel) ?_
        exact h1 (by rw [hin (by omega) (by omega)] at g; simp [canF, show ¬ k < 10 by omega, b22, g])
      · refine Kn.s ?_
        refine A_iret dX5_canFail_39 rfl (by decide +kernel) ?_
        exact h0 (by rw [hin (by omega) (by omega)] at g; simp [canF, show ¬ k < 10 by omega, b22]; omega)
  · refine A_aload_n dX5_canFail_6 rfl ?_
    refine A_getR dX5_canFail_7 flX5_21 rfl rfl ?_
    refine A_iload_n dX5_canFail_10 rfl ?_
    refine A_callV1 dX5_canFail_11 mlX5_54 (by decide) rfl rfl (Nat.le_of_ble_eq_true rfl) (c_hasS _ hs hs4 (fun g => ?_) (fun g => ?_))
    · refine Kn.s ?_
      refine A_iret dX5_canFail_14 rfl (by decide +kernel) ?_
      exact h1 (by rw [hin (by omega) (by omega)] at g; simp [canF, b3, g])
    · refine Kn.s ?_
      refine A_iret dX5_canFail_14 rfl (by decide +kernel) ?_
      exact h0 (by rw [hin (by omega) (by omega)] at g; simp only [canF, b3, if_true]; simpa using g)
end
section
/-! the flow: its cells against a course's state, cell by cell -/
def setH (b : Nat) (v : Int32) (S : St) : St := mkS (un (sH S) b v) (sD S) (sC S) (sQ S) (sK S) (sL S)
def setD (b : Nat) (v : Nat) (S : St) : St := mkS (sH S) (un (sD S) b v) (sC S) (sQ S) (sK S) (sL S)
def setQ (i : Nat) (v : Int32) (S : St) : St := mkS (sH S) (sD S) (sC S) (un (sQ S) i v) (sK S) (sL S)
def setK (b : Nat) (v : Int32) (S : St) : St := mkS (sH S) (sD S) (sC S) (sQ S) (un (sK S) b v) (sL S)
def setL (b : Nat) (v : Int32) (S : St) : St := mkS (sH S) (sD S) (sC S) (sQ S) (sK S) (un (sL S) b v)
theorem RX.setH {f t b : Nat} {S : St} {μ : MI} {v : Int32} (h : RX f t S μ) (hb : b < 8) : RX f t (setH b v S) (up2 μ (f + 1) b v) := by
  refine ⟨?_, fun a ha => ?_, fun a ha => ?_⟩
  · simp (disch := omega) only [up2_a]; exact h.1
  · have h2 := h.2.1 a ha
    by_cases e : a = b
    · subst e
      simp (disch := omega) only [up2_a, up2_s]
      exact ⟨(un_s _ _ _).symm, h2.2⟩
    · simp (disch := omega) only [up2_a, up2_b]
      exact ⟨h2.1.trans (un_n _ _ e).symm, h2.2⟩
  · simp (disch := omega) only [up2_a]; exact h.2.2 a ha
theorem RX.setD {f t b n : Nat} {S : St} {μ : MI} (h : RX f t S μ) (hb : b < 8) (hn : n ≤ 20) : RX f t (setD b n S) (up2 μ (f + 2) b (nI n)) := by
  refine ⟨?_, fun a ha => ?_, fun a ha => ?_⟩
  · simp (disch := omega) only [up2_a]; exact h.1
  · have h2 := h.2.1 a ha
    by_cases e : a = b
    · subst e
      simp (disch := omega) only [up2_a, up2_s]
      exact ⟨h2.1, by show nI n = nI (un (sD S) a n a); rw [un_s], by show un (sD S) a n a ≤ 20; rw [un_s]; exact hn, h2.2.2.2⟩
    · simp (disch := omega) only [up2_a, up2_b]
      exact ⟨h2.1, by show _ = nI (un (sD S) b n a); rw [un_n _ _ e]; exact h2.2.1, by show un (sD S) b n a ≤ 20; rw [un_n _ _ e]; exact h2.2.2.1, h2.2.2.2⟩
  · simp (disch := omega) only [up2_a]; exact h.2.2 a ha
theorem RX.setK {f t b : Nat} {S : St} {μ : MI} {v : Int32} (h : RX f t S μ) (hb : b < 8) : RX f t (setK b v S) (up2 μ (f + 3) b v) := by
  refine ⟨?_, fun a ha => ?_, fun a ha => ?_⟩
  · simp (disch := omega) only [up2_a]; exact h.1
  · have h2 := h.2.1 a ha
    by_cases e : a = b
    · subst e
      simp (disch := omega) only [up2_a, up2_s]
      exact ⟨h2.1, h2.2.1, h2.2.2.1, (un_s _ _ _).symm, h2.2.2.2.2⟩
    · simp (disch := omega) only [up2_a, up2_b]
      exact ⟨h2.1, h2.2.1, h2.2.2.1, h2.2.2.2.1.trans (un_n _ _ e).symm, h2.2.2.2.2⟩
  · simp (disch := omega) only [up2_a]; exact h.2.2 a ha
theorem RX.setL {f t b : Nat} {S : St} {μ : MI} {v : Int32} (h : RX f t S μ) (hb : b < 8) : RX f t (setL b v S) (up2 μ (f + 4) b v) := by
  refine ⟨?_, fun a ha => ?_, fun a ha => ?_⟩
  · simp (disch := omega) only [up2_a]; exact h.1
  · have h2 := h.2.1 a ha
    by_cases e : a = b
    · subst e
      simp (disch := omega) only [up2_a, up2_s]
      exact ⟨h2.1, h2.2.1, h2.2.2.1, h2.2.2.2.1, (un_s _ _ _).symm⟩
    · simp (disch := omega) only [up2_a, up2_b]
      exact ⟨h2.1, h2.2.1, h2.2.2.1, h2.2.2.2.1, h2.2.2.2.2.trans (un_n _ _ e).symm⟩
  · simp (disch := omega) only [up2_a]; exact h.2.2 a ha
theorem RX.setQ {f t i : Nat} {S : St} {μ : MI} {v : Int32} (h : RX f t S μ) (hi : i < 3) : RX f t (setQ i v S) (up2 μ f (3 + i) v) := by
  obtain ⟨h1, h2, h3, h4⟩ := h.1
  refine ⟨?_, fun a ha => ?_, fun a ha => ?_⟩
  · have hu : ∀ k, k < 3 → up2 μ f (3 + i) v f (3 + k) = un (sQ S) i v k := by
      intro k hk
      by_cases e : k = i
      · subst e
        rw [up2_s, un_s]
      · rw [up2_b _ _ (by omega), un_n _ _ e]
        rcases (show k = 0 ∨ k = 1 ∨ k = 2 by omega) with rfl | rfl | rfl
        · exact h2
        · exact h3
        · exact h4
    exact ⟨by rw [up2_b _ _ (by omega)]; exact h1, hu 0 (by omega), hu 1 (by omega), hu 2 (by omega)⟩
  · simp (disch := omega) only [up2_a]; exact h.2.1 a ha
  · simp (disch := omega) only [up2_a]; exact h.2.2 a ha
theorem mod20 {t j i : Nat} (hj : j < 20) (hi : i < 20) : (t + j) % 20 = (t + i) % 20 ↔ j = i := by omega
theorem RX.addC {f t b j : Nat} {S : St} {μ : MI} {v : Int32} (h : RX f t S μ) (hb : b < 8) (h0 : 0 < j) (h20 : j ≤ 20) : RX f t (setC b j (sC S b j + v) S) (up2 μ (f + 6 + b) ((t + j) % 20) (μ (f + 6 + b) ((t + j) % 20) + v)) := by
  refine ⟨?_, fun a ha => ?_, fun a ha => ?_⟩
  · simp (disch := omega) only [up2_a]; exact h.1
  · simp (disch := omega) only [up2_a]; exact h.2.1 a ha
  · obtain ⟨h1, h2⟩ := h.2.2 a ha
    by_cases e : a = b
    · subst e
      by_cases hj : j = 20
      · subst hj
        have e20 : (t + 20) % 20 = t % 20 := by omega
        rw [e20]
        refine ⟨?_, fun i hi0 hi => ?_⟩
        · rw [up2_s]
          show _ = up2 (sC S) a 20 (sC S a 20 + v) a 0 + up2 (sC S) a 20 (sC S a 20 + v) a 20
          rw [up2_s, up2_b _ _ (by omega), h1]
          exact Int32.add_assoc _ _ _
        · rw [up2_b _ _ (by omega)]
          show _ = up2 (sC S) a 20 (sC S a 20 + v) a i
          rw [up2_b _ _ (by omega)]
          exact h2 i hi0 hi
      · refine ⟨?_, fun i hi0 hi => ?_⟩
        · rw [up2_b _ _ (by omega)]
          show _ = up2 (sC S) a j (sC S a j + v) a 0 + up2 (sC S) a j (sC S a j + v) a 20
          rw [up2_b _ _ (by omega), up2_b _ _ (by omega)]
          exact h1
        · show _ = up2 (sC S) a j (sC S a j + v) a i
          by_cases ei : i = j
          · subst ei
            rw [up2_s, up2_s, h2 i hi0 hi]
          · rw [up2_b _ _ (by omega), up2_b _ _ ei]
            exact h2 i hi0 hi
    · simp (disch := omega) only [up2_a]
      refine ⟨?_, fun i hi0 hi => ?_⟩
      · show _ = up2 (sC S) b j (sC S b j + v) a 0 + up2 (sC S) b j (sC S b j + v) a 20
        rw [up2_a _ _ e, up2_a _ _ e]
        exact h1
      · show _ = up2 (sC S) b j (sC S b j + v) a i
        rw [up2_a _ _ e]
        exact h2 i hi0 hi
theorem RX.clr {f t b : Nat} {S : St} {μ : MI} (h : RX f t S μ) (hb : b < 8) (hz : sC S b 20 = 0) : RX f t (setC b 0 0 S) (up2 μ (f + 6 + b) (t % 20) 0) := by
  refine ⟨?_, fun a ha => ?_, fun a ha => ?_⟩
  · simp (disch := omega) only [up2_a]; exact h.1
  · simp (disch := omega) only [up2_a]; exact h.2.1 a ha
  · obtain ⟨h1, h2⟩ := h.2.2 a ha
    by_cases e : a = b
    · subst e
      refine ⟨?_, fun i hi0 hi => ?_⟩
      · rw [up2_s]
        show _ = up2 (sC S) a 0 0 a 0 + up2 (sC S) a 0 0 a 20
        rw [up2_s, up2_b _ _ (by omega), hz]
        rfl
      · rw [up2_b _ _ (by omega)]
        show _ = up2 (sC S) a 0 0 a i
        rw [up2_b _ _ (by omega)]
        exact h2 i hi0 hi
    · simp (disch := omega) only [up2_a]
      refine ⟨?_, fun i hi0 hi => ?_⟩
      · show _ = up2 (sC S) b 0 0 a 0 + up2 (sC S) b 0 0 a 20
        rw [up2_a _ _ e, up2_a _ _ e]
        exact h1
      · show _ = up2 (sC S) b 0 0 a i
        rw [up2_a _ _ e]
        exact h2 i hi0 hi
theorem RX.shift {f t : Nat} {S : St} {μ : MI} (h : RX f t S μ) (h0 : ∀ b, b < 8 → sC S b 0 = 0) (h21 : ∀ b, b < 8 → sC S b 21 = 0) : RX f (t + 1) (shiftP S) (up2 μ f 2 (nI (t + 1))) := by
  obtain ⟨g1, g2, g3, g4⟩ := h.1
  refine ⟨?_, fun a ha => ?_, fun a ha => ?_⟩
  · exact ⟨up2_s _ _ _ _, by rw [up2_b _ _ (by omega)]; exact g2, by rw [up2_b _ _ (by omega)]; exact g3, by rw [up2_b _ _ (by omega)]; exact g4⟩
  · simp (disch := omega) only [up2_a]; exact h.2.1 a ha
  · obtain ⟨h1, h2⟩ := h.2.2 a ha
    simp (disch := omega) only [up2_a]
    refine ⟨?_, fun i hi0 hi => ?_⟩
    · show _ = sC S a 1 + sC S a 21
      rw [h21 a ha, h2 1 (by omega) (by omega)]
      exact (Int32.add_zero _).symm
    · show _ = sC S a (i + 1)
      by_cases e : i = 19
      · subst e
        rw [show (t + 1 + 19) % 20 = t % 20 by omega, h1, h0 a ha]
        exact Int32.zero_add _
      · rw [show t + 1 + i = t + (i + 1) by omega]
        exact h2 (i + 1) (by omega) (by omega)
theorem Fr.lt {f n a : Nat} {μ μ' : MI} (h : Fr f n μ μ') (ha : a < f) (j : Nat) : μ' a j = μ a j := h a (Or.inl ha) j
def pourX (f b : Nat) (v : Int32) (μ : MI) : MI := if μ (f + 2) b = 0 then up2 μ (f + 1) b (μ (f + 1) b + v) else up2 μ f 4 (μ f 4 + v)
theorem pourX_Fr (f b : Nat) (v : Int32) (μ : MI) : Fr f 14 μ (pourX f b v μ) := by
  unfold pourX
  split
  · exact Fr.up (by omega) (by omega)
  · exact Fr.up (by omega) (by omega)
theorem RX.pour {f t b : Nat} {S : St} {μ : MI} (h : RX f t S μ) (hb : b < 8) (v : Int32) : RX f t (pourP b v S) (pourX f b v μ) := by
  obtain ⟨h1, h2, h3, -⟩ := h.2.1 b hb
  unfold pourP pourX
  by_cases e : sD S b = 0
  · rw [if_pos e, if_pos (by rw [h2, e]; rfl), h1]
    exact h.setH hb
  · rw [if_neg e, if_neg (by rw [h2]; exact nI_ne0 (by omega) (by omega)), h.1.2.2.1]
    exact h.setQ (i := 1) (by omega)
theorem c_pour {f w b : Nat} (hF : FlowAt f w) (hb : b < 8) (v : Int32) {μ : MI} {ν : ML} {P : Po} (hP : P none (pourX f b v μ) ν) : Ct mX2_pour 0 [.ref f, .int (nI b), .int v] μ ν P := by
  refine Ct.of (ls0 := [_, _, _]) (by decide) rfl (Nat.le_of_ble_eq_true rfl) rfl ?_
  refine A_aload_n dX2_pour_0 rfl ?_
  refine A_getR dX2_pour_1 flX2_15 hF.l0 rfl ?_
  refine A_iload_n dX2_pour_4 rfl ?_
  refine A_ialdN (j := b) dX2_pour_5 hF.l2 rfl hb (by decide) ?_
  refine A_if_ne (tgt := 22) dX2_pour_6 (by decide) (fun b6 => ?_) (fun b6 => ?_)
  · refine A_aload_n dX2_pour_22 rfl ?_
    refine A_dup dX2_pour_23 rfl ?_
    refine A_getI dX2_pour_24 flX2_50 hF.l0 rfl ?_
    refine A_iload_n dX2_pour_27 rfl ?_
    refine A_iadd dX2_pour_28 ?_
    refine A_put dX2_pour_29 fpX2_50 hF.l0 rfl rfl rfl ?_
    refine A_vret dX2_pour_32 rfl ?_
    unfold pourX at hP; rw [if_neg b6] at hP; exact hP
  · refine A_aload_n dX2_pour_9 rfl ?_
    refine A_getR dX2_pour_10 flX2_9 hF.l0 rfl ?_
    refine A_iload_n dX2_pour_13 rfl ?_
    refine A_dup2 dX2_pour_14 rfl rfl ?_
    refine A_ialdN (j := b) dX2_pour_15 hF.l1 rfl hb (by decide) ?_
    refine A_iload_n dX2_pour_16 rfl ?_
    refine A_iadd dX2_pour_17 ?_
    refine A_iastN (j := b) dX2_pour_18 hF.l1 rfl hb (by decide) ?_
    refine A_goto (tgt := 32) dX2_pour_19 (by decide) ?_
    refine A_vret dX2_pour_32 rfl ?_
    unfold pourX at hP; rw [if_pos b6] at hP; exact hP
theorem c_isHeldBack {f w s t m : Nat} (hF : FlowAt f w) (hs : s < 4) {tw μ : MI} {ν : ML} {P : Po} (hT : TW w tw μ) (ht : μ f 2 = nI t) (hm : μ 12 0 = nI m) (hm8 : m ≤ 10) (h1 : heldB μ tw s t = true → P (some (.int (nI 1))) μ ν) (h0 : heldB μ tw s t = false → P (some (.int (nI 0))) μ ν) : Ct mX2_isHeldBack 1 [.ref f, .int (nI s)] μ ν P := by
  unfold heldB at h1 h0
  rw [← hT.1, ← (hT.2.1 s hs).2] at h1 h0
  refine Ct.of (ls0 := [_, _]) (by decide) rfl (Nat.le_of_ble_eq_true rfl) rfl ?_
  refine A_aload_n dX2_isHeldBack_0 rfl ?_
  refine A_getR dX2_isHeldBack_1 flX2_33 hF.l0 rfl ?_
  refine A_getR dX2_isHeldBack_4 flX2_129 hF.tw.l0 rfl ?_
  refine A_iload_n dX2_isHeldBack_7 rfl ?_
  refine A_zaldN (j := s) dX2_isHeldBack_8 hF.tw.l2 rfl hs (by decide) ?_
  refine A_if_ne (tgt := 40) dX2_isHeldBack_9 (by decide) (fun b9 => ?_) (fun b9 => ?_)
  · refine A_iconst (v := nI 1) dX2_isHeldBack_40 (by decide +kernel) ?_
    refine A_goto (tgt := 45) dX2_isHeldBack_41 (by decide) ?_
    refine A_iret dX2_isHeldBack_45 rfl (by decide +kernel) ?_
    exact h1 (by simp [b9])
  · refine A_aload_n dX2_isHeldBack_12 rfl ?_
    refine A_getR dX2_isHeldBack_13 flX2_33 hF.l0 rfl ?_
    refine A_getI dX2_isHeldBack_16 flX2_78 hF.tw.l0 rfl ?_
    refine A_if_ne (tgt := 44) dX2_isHeldBack_19 (by decide) (fun b19 => ?_) (fun b19 => ?_)
    · refine A_iconst (v := nI 0) dX2_isHeldBack_44 (by decide +kernel) ?_
      refine A_iret dX2_isHeldBack_45 rfl (by decide +kernel) ?_
      exact h0 (by simp [b9, b19])
    · refine A_aload_n dX2_isHeldBack_22 rfl ?_
      refine A_getR dX2_isHeldBack_23 flX2_29 hF.l0 rfl ?_
      refine A_getR dX2_isHeldBack_26 flX2_133 rfl rfl ?_
      refine A_iload_n dX2_isHeldBack_29 rfl ?_
      refine A_aload_n dX2_isHeldBack_30 rfl ?_
      refine A_getI dX2_isHeldBack_31 flX2_43 hF.l0 rfl ?_
      rw [ht]
      refine A_callV2 dX2_isHeldBack_34 mlX2_137 (by decide) rfl rfl (Nat.le_of_ble_eq_true rfl) (c_sitOn hm hm8 (fun g => ?_) (fun g => ?_))
      · refine Kn.s ?_
        refine A_if_eq (tgt := 44) dX2_isHeldBack_37 (by decide) (fun h => absurd h (by decide +kernel)) (fun _ => ?_)
        refine A_iconst (v := nI 1) dX2_isHeldBack_40 (by decide +kernel) ?_
        refine A_goto (tgt := 45) dX2_isHeldBack_41 (by decide) ?_
        refine A_iret dX2_isHeldBack_45 rfl (by decide +kernel) ?_
        exact h1 (by simp [b9, b19, g])
      · refine Kn.s ?_
        refine A_if_eq (tgt := 44) dX2_isHeldBack_37 (by decide) (fun _ => ?_) (fun h => absurd h (by decide +kernel))
        refine A_iconst (v := nI 0) dX2_isHeldBack_44 (by decide +kernel) ?_
        refine A_iret dX2_isHeldBack_45 rfl (by decide +kernel) ?_
        exact h0 (by simp [b9, b19, g])
theorem c_takeDrips {f w t : Nat} (hF : FlowAt f w) {S : St} {tw μ : MI} {ν : ML} {P : Po} (ht : t < 10000) (hC : WC μ) (hR : RX f t S μ) (hT : TW w tw μ) (hP : ∀ μ', RX f t (dripsP μ tw t (N (μ 7 0)) S) μ' → Fr f 14 μ μ' → P none μ' ν) : Ct mX2_takeDrips 2 [.ref f] μ ν P := by
  obtain ⟨⟨hnb, hB⟩, ⟨hns, hS⟩, hnf, ⟨hnw, hWe⟩, hdr⟩ := hC
  have hr := hF.rng
  have hns4 := hns.2
  have hnb8 := hnb.2
  refine Ct.of (ls0 := [_, _, _, _]) (by decide) rfl (Nat.le_of_ble_eq_true rfl) rfl ?_
  have loop : ∀ (n i : Nat) (μ1 : MI), N (μ 7 0) - i < n → i ≤ N (μ 7 0) → RX f t (dripsP μ tw t i S) μ1 → Fr f 14 μ μ1 → AW mX2_takeDrips (2, none) P 31 [some (.ref f), some (.int (if tw 0 0 = 0 then wetP μ t else 0)), some (.int (nI i)), none] [] μ1 ν := by
    intro n
    induction n with
    | zero => intro i μ1 h; omega
    | succ n ih =>
      intro i μ1 hn hi hR1 hF1
      have hlow : ∀ a j, a < 33 → μ1 a j = μ a j := fun a j h => hF1 a (Or.inl (by omega)) j
      have hT1 : TW w tw μ1 := ⟨by rw [hlow _ _ (by omega)]; exact hT.1, fun s hs => by rw [hlow _ _ (by omega), hlow _ _ (by omega)]; exact hT.2.1 s hs, fun b hb => by rw [hlow _ _ (by omega), hlow _ _ (by omega)]; exact hT.2.2 b hb⟩
      have hdue : ∀ s, dueB μ1 s t = dueB μ s t := fun s => by unfold dueB; rw [hlow _ _ (by omega), hlow _ _ (by omega)]
      have hheld : ∀ s, heldB μ1 tw s t = heldB μ tw s t := fun s => by
        unfold heldB frogB
        rw [hlow 12 _ (by omega), anyB_cong (fun k _ => by rw [hlow 13 _ (by omega), hlow 14 _ (by omega), hlow 15 _ (by omega)])]
      have hstep : dripsP μ tw t (i + 1) S = dripP μ tw t i (dripsP μ tw t i S) := rfl
      refine A_iload_n dX2_takeDrips_31 rfl ?_
      refine A_aload_n dX2_takeDrips_32 rfl ?_
      refine A_getR dX2_takeDrips_33 flX2_29 hF.l0 rfl ?_
      refine A_getR dX2_takeDrips_36 flX2_94 rfl rfl ?_
      refine A_getI dX2_takeDrips_39 flX2_98 rfl rfl ?_
      rw [(hlow 7 0 (by omega)), hns.1]
      refine A_icmp_geN (tgt := 133) dX2_takeDrips_42 (by decide) (by omega) (by omega) (fun b42 => ?_) (fun b42 => ?_)
      · refine A_vret dX2_takeDrips_133 rfl ?_
        exact hP μ1 (by rw [show N (μ 7 0) = i by omega]; exact hR1) hF1
      · obtain ⟨⟨hto, hto2⟩, ⟨hev, hev0⟩, hfi⟩ := hS i b42
        refine A_aload_n dX2_takeDrips_45 rfl ?_
        refine A_getR dX2_takeDrips_46 flX2_29 hF.l0 rfl ?_
        refine A_getR dX2_takeDrips_49 flX2_94 rfl rfl ?_
        refine A_iload_n dX2_takeDrips_52 rfl ?_
        refine A_aload_n dX2_takeDrips_53 rfl ?_
        refine A_getI dX2_takeDrips_54 flX2_43 hF.l0 rfl ?_
        rw [hR1.1.1]
        refine A_callV2 dX2_takeDrips_57 mlX2_103 (by decide) rfl rfl (Nat.le_of_ble_eq_true rfl) (c_isDue (by omega) ht (by rw [hlow _ _ (by omega)]; exact hfi.1) hfi.2 (by rw [hlow _ _ (by omega)]; exact hev.1) hev.2 hev0 (fun g1 => ?_) (fun g1 => ?_))
        · refine Kn.s ?_
          refine A_if_eq (tgt := 127) dX2_takeDrips_60 (by decide) (fun h => absurd h (by decide +kernel)) (fun _ => ?_)
          refine A_aload_n dX2_takeDrips_63 rfl ?_
          refine A_iload_n dX2_takeDrips_64 rfl ?_
          refine A_callV1 dX2_takeDrips_65 mlX2_106 (by decide) hF.l0 rfl (Nat.le_of_ble_eq_true rfl) (c_isHeldBack hF (by omega) hT1 hR1.1.1 (by rw [hlow _ _ (by omega)]; exact hnf.1) hnf.2 (fun g2 => ?_) (fun g2 => ?_))
          · refine Kn.s ?_
            refine A_if_ne (tgt := 127) dX2_takeDrips_68 (by decide) (fun _ => ?_) (fun h => absurd h (by decide +kernel))
            refine A_iincN (ls1 := [_, _, _, _]) dX2_takeDrips_127 rfl (by decide) rfl rfl ?_
            refine A_goto (tgt := 31) dX2_takeDrips_130 (by decide) ?_
            refine A_weak (ih (i + 1) μ1 (by omega) (by omega) ?_ hF1) (by repeat first | exact fw_0 | refine fw_s ?_ | refine fw_n ?_)
            rw [hstep]; unfold dripP; rw [if_neg (by rw [← hdue, ← hheld, g1, g2]; decide)]; exact hR1
          · refine Kn.s ?_
            refine A_if_ne (tgt := 127) dX2_takeDrips_68 (by decide) (fun h => absurd h (by decide +kernel)) (fun _ => ?_)
            refine A_iconst (v := nI 0) dX2_takeDrips_71 (by decide +kernel) ?_
            refine A_aload_n dX2_takeDrips_72 rfl ?_
            refine A_getR dX2_takeDrips_73 flX2_29 hF.l0 rfl ?_
            refine A_getR dX2_takeDrips_76 flX2_94 rfl rfl ?_
            refine A_getR dX2_takeDrips_79 flX2_110 rfl rfl ?_
            refine A_iload_n dX2_takeDrips_82 rfl ?_
            refine A_ialdN (j := i) dX2_takeDrips_83 rfl rfl (by omega) (by decide) ?_
            refine A_aload_n dX2_takeDrips_84 rfl ?_
            refine A_getR dX2_takeDrips_85 flX2_33 hF.l0 rfl ?_
            refine A_getR dX2_takeDrips_88 flX2_113 hF.tw.l0 rfl ?_
            refine A_iload_n dX2_takeDrips_91 rfl ?_
            refine A_ialdN (j := i) dX2_takeDrips_92 hF.tw.l1 rfl (by omega) (by decide) ?_
            refine A_iadd dX2_takeDrips_93 ?_
            refine A_iload_n dX2_takeDrips_94 rfl ?_
            refine A_iadd dX2_takeDrips_95 ?_
            refine A_max dX2_takeDrips_96 mlX2_116 (by decide) (Nat.le_of_ble_eq_true rfl) ?_
            rw [hlow 9 i (by omega), (hT1.2.1 i (by omega)).1]
            have ew : (if nI 0 < μ 9 i + tw 1 i + (if tw 0 0 = 0 then wetP μ t else 0) then μ 9 i + tw 1 i + (if tw 0 0 = 0 then wetP μ t else 0) else nI 0) = waterP μ tw t i := rfl
            rw [ew]
            refine A_istore_n (ls1 := [_, _, _, _]) dX2_takeDrips_99 (by decide) rfl rfl ?_
            refine A_aload_n dX2_takeDrips_100 rfl ?_
            refine A_dup dX2_takeDrips_101 rfl ?_
            refine A_getI dX2_takeDrips_102 flX2_47 hF.l0 rfl ?_
            refine A_iload_n dX2_takeDrips_105 rfl ?_
            refine A_iadd dX2_takeDrips_106 ?_
            refine A_put dX2_takeDrips_107 fpX2_47 hF.l0 rfl rfl rfl ?_
            refine A_aload_n dX2_takeDrips_110 rfl ?_
            refine A_aload_n dX2_takeDrips_111 rfl ?_
            refine A_getR dX2_takeDrips_112 flX2_29 hF.l0 rfl ?_
            refine A_getR dX2_takeDrips_115 flX2_94 rfl rfl ?_
            refine A_getR dX2_takeDrips_118 flX2_122 rfl rfl ?_
            refine A_iload_n dX2_takeDrips_121 rfl ?_
            refine A_ialdN (j := i) dX2_takeDrips_122 rfl rfl (by omega) (by decide) ?_
            rw [up2_a _ _ (by omega), hlow 8 i (by omega), hto.1]
            refine A_iload_n dX2_takeDrips_123 rfl ?_
            refine A_callV2 dX2_takeDrips_124 mlX2_125 (by decide) hF.l0 rfl (Nat.le_of_ble_eq_true rfl) (c_pour hF (by omega) _ ?_)
            refine Kn.v ?_
            refine A_iincN (ls1 := [_, _, _, _]) dX2_takeDrips_127 rfl (by decide) rfl rfl ?_
            refine A_goto (tgt := 31) dX2_takeDrips_130 (by decide) ?_
            refine A_weak (ih (i + 1) _ (by omega) (by omega) ?_ ((hF1.tr (Fr.up (by omega) (by omega))).tr (pourX_Fr f _ _ _))) (by repeat first | exact fw_0 | refine fw_s ?_ | refine fw_n ?_)
            rw [hstep]; unfold dripP; rw [if_pos (by rw [← hdue, ← hheld, g1, g2]; decide)]
            have h3 := hR1.setQ (i := 0) (v := sQ (dripsP μ tw t i S) 0 + waterP μ tw t i) (by omega)
            rw [hR1.1.2.1]
            exact h3.pour (b := N (μ 8 i)) (by omega) _
        · refine Kn.s ?_
          refine A_if_eq (tgt := 127) dX2_takeDrips_60 (by decide) (fun _ => ?_) (fun h => absurd h (by decide +kernel))
          refine A_iincN (ls1 := [_, _, _, _]) dX2_takeDrips_127 rfl (by decide) rfl rfl ?_
          refine A_goto (tgt := 31) dX2_takeDrips_130 (by decide) ?_
          refine A_weak (ih (i + 1) μ1 (by omega) (by omega) ?_ hF1) (by repeat first | exact fw_0 | refine fw_s ?_ | refine fw_n ?_)
          rw [hstep]; unfold dripP; rw [if_neg (by rw [← hdue, g1]; simp)]; exact hR1
  have hpl : μ w 0 = tw 0 0 := hT.1
  refine A_aload_n dX2_takeDrips_0 rfl ?_
  refine A_getR dX2_takeDrips_1 flX2_33 hF.l0 rfl ?_
  refine A_getI dX2_takeDrips_4 flX2_78 hF.tw.l0 rfl ?_
  refine A_if_eq (tgt := 14) dX2_takeDrips_7 (by decide) (fun b7 => ?_) (fun b7 => ?_)
  · refine A_aload_n dX2_takeDrips_14 rfl ?_
    refine A_getR dX2_takeDrips_15 flX2_29 hF.l0 rfl ?_
    refine A_getR dX2_takeDrips_18 flX2_84 rfl rfl ?_
    refine A_aload_n dX2_takeDrips_21 rfl ?_
    refine A_getI dX2_takeDrips_22 flX2_43 hF.l0 rfl ?_
    rw [hR.1.1]
    refine A_callV1 dX2_takeDrips_25 mlX2_88 (by decide) rfl rfl (Nat.le_of_ble_eq_true rfl) (c_wetAt hnw.1 hnw.2 ?_)
    refine Kn.s ?_
    refine A_istore_n (ls1 := [_, _, _, _]) dX2_takeDrips_28 (by decide) rfl rfl ?_
    refine A_iconst (v := nI 0) dX2_takeDrips_29 (by decide +kernel) ?_
    refine A_istore_n (ls1 := [_, _, _, _]) dX2_takeDrips_30 (by decide) rfl rfl ?_
    rw [hpl] at b7
    have h9 := loop (N (μ 7 0) + 1) 0 μ (by omega) (by omega) hR Fr.rf
    rw [if_pos b7] at h9
    exact A_weak h9 (by repeat first | exact fw_0 | refine fw_s ?_ | refine fw_n ?_)
  · refine A_iconst (v := nI 0) dX2_takeDrips_10 (by decide +kernel) ?_
    refine A_goto (tgt := 28) dX2_takeDrips_11 (by decide) ?_
    refine A_istore_n (ls1 := [_, _, _, _]) dX2_takeDrips_28 (by decide) rfl rfl ?_
    refine A_iconst (v := nI 0) dX2_takeDrips_29 (by decide +kernel) ?_
    refine A_istore_n (ls1 := [_, _, _, _]) dX2_takeDrips_30 (by decide) rfl rfl ?_
    rw [hpl] at b7
    have h9 := loop (N (μ 7 0) + 1) 0 μ (by omega) (by omega) hR Fr.rf
    rw [if_neg b7] at h9
    exact A_weak h9 (by repeat first | exact fw_0 | refine fw_s ?_ | refine fw_n ?_)
end
section
/-! the flow's tick -/
theorem pourP_C (b : Nat) (v : Int32) (S : St) : sC (pourP b v S) = sC S := by
  unfold pourP
  split <;> rfl
theorem dripP_C (c tw : MI) (t s : Nat) (S : St) : sC (dripP c tw t s S) = sC S := by
  unfold dripP
  split
  · rw [pourP_C]; rfl
  · rfl
theorem dripsP_C (c tw : MI) (t : Nat) (S : St) : ∀ k, sC (dripsP c tw t k S) = sC S
  | 0 => rfl
  | k + 1 => by rw [dripsP, dripP_C, dripsP_C c tw t S k]
theorem pipesP_C (S : St) (b j : Nat) : ∀ k, sC (pipesP k S) b j = if b < k ∧ j = 0 then 0 else sC S b j
  | 0 => by simp [pipesP]
  | k + 1 => by
    have ih := pipesP_C S b j k
    show up2 (sC (pourP k (sC (pipesP k S) k 0) (pipesP k S))) k 0 0 b j = _
    rw [pourP_C]
    by_cases e : b = k ∧ j = 0
    · obtain ⟨rfl, rfl⟩ := e
      rw [up2_s]
      simp
    · rw [up2_ne _ _ e, ih]
      by_cases e2 : b < k ∧ j = 0
      · rw [if_pos e2, if_pos ⟨by omega, e2.2⟩]
      · rw [if_neg e2, if_neg (by omega)]
theorem dryP_C (b : Nat) (S : St) : sC (dryP b S) = sC S := by
  unfold dryP
  split <;> rfl
theorem driesP_C (S : St) : ∀ k, sC (driesP k S) = sC S
  | 0 => rfl
  | k + 1 => by rw [driesP, dryP_C, driesP_C S k]
theorem wateredP_C (c tw : MI) (t : Nat) (S : St) (b j : Nat) : sC (wateredP c tw t S) b j = if b < N (c 2 0) ∧ j = 0 then 0 else sC S b j := by
  unfold wateredP
  split
  · rw [driesP_C, pipesP_C, dripsP_C]
  · rw [pipesP_C, dripsP_C]
theorem turnP_C {c tw : MI} {t b : Nat} {S : St} (hd : ¬ c 5 b < 0 → 0 < N (c 6 b) ∧ N (c 6 b) ≤ 20) {a j : Nat} (hj : j = 0 ∨ 20 < j) : sC (turnP c tw t b S) a j = sC S a j := by
  unfold turnP
  split
  · rfl
  · split
    · show sC (fallP c tw b S) a j = _
      unfold fallP
      split
      · rfl
      · next h =>
        have h2 : ¬ c 5 b < 0 := fun q => h (by unfold brookB; simp [q])
        have := hd h2
        exact up2_b _ _ (by omega)
    · rfl
theorem turnsP_C {c tw : MI} {t : Nat} {S : St} {a j : Nat} (hj : j = 0 ∨ 20 < j) : ∀ k, (∀ b, b < k → ¬ c 5 b < 0 → 0 < N (c 6 b) ∧ N (c 6 b) ≤ 20) → sC (turnsP c tw t k S) a j = sC S a j
  | 0, _ => rfl
  | k + 1, h => by rw [turnsP, turnP_C (h k (by omega)) hj, turnsP_C hj k (fun b hb => h b (by omega))]
theorem WC.pipe {c : MI} (h : WC c) {b : Nat} (hb : b < N (c 2 0)) (h5 : ¬ c 5 b < 0) : sm (c 5 b) 7 ∧ N (c 5 b) < N (c 2 0) ∧ sm (c 6 b) 20 ∧ 0 < N (c 6 b) := by
  rcases (h.1.2 b hb).2 with e | e
  · exact absurd (by rw [e]; decide +kernel) h5
  · exact e
/-- cells 0 .. 32 as in c -/
def Sm (c μ : MI) : Prop := ∀ a j, a < 33 → μ a j = c a j
theorem Sm.rf (c : MI) : Sm c c := fun _ _ _ => rfl
theorem Sm.fr {c μ μ' : MI} {f : Nat} (h : Sm c μ) (hf : 33 ≤ f) (hF : Fr f 14 μ μ') : Sm c μ' := fun a j ha => (hF a (Or.inl (by omega)) j).trans (h a j ha)
theorem c_takeFromPipes {f w t : Nat} (hF : FlowAt f w) {S : St} {c μ : MI} {ν : ML} {P : Po} (ht : t < 10000) (hC : WC c) (hc : Sm c μ) (hR : RX f t S μ) (hz : ∀ b, b < 8 → sC S b 20 = 0) (hP : ∀ μ', RX f t (pipesP (N (c 2 0)) S) μ' → Fr f 14 μ μ' → P none μ' ν) : Ct mX2_takeFromPipes 1 [.ref f] μ ν P := by
  have hnb := hC.1.1
  have hr := hF.rng
  have hnb8 := hnb.2
  refine Ct.of (ls0 := [_, _, _]) (by decide) rfl (Nat.le_of_ble_eq_true rfl) rfl ?_
  have loop : ∀ (n i : Nat) (μ1 : MI), N (c 2 0) - i < n → i ≤ N (c 2 0) → RX f t (pipesP i S) μ1 → Fr f 14 μ μ1 → AW mX2_takeFromPipes (1, none) P 10 [some (.ref f), some (.int (nI (t % 20))), some (.int (nI i))] [] μ1 ν := by
    intro n
    induction n with
    | zero => intro i μ1 h; omega
    | succ n ih =>
      intro i μ1 hn hi hR1 hF1
      have hlow := hc.fr hr.1 hF1
      have hz1 : i < 8 → sC (pipesP i S) i 20 = 0 := fun h8 => by rw [pipesP_C, if_neg (by omega)]; exact hz i h8
      refine A_iload_n dX2_takeFromPipes_10 rfl ?_
      refine A_aload_n dX2_takeFromPipes_11 rfl ?_
      refine A_getR dX2_takeFromPipes_12 flX2_29 hF.l0 rfl ?_
      refine A_getR dX2_takeFromPipes_15 flX2_142 rfl rfl ?_
      refine A_getI dX2_takeFromPipes_18 flX2_146 rfl rfl ?_
      rw [(hlow 2 0 (by omega)), hnb.1]
      refine A_icmp_geN (tgt := 52) dX2_takeFromPipes_21 (by decide) (by omega) (by omega) (fun b21 => ?_) (fun b21 => ?_)
      · refine A_vret dX2_takeFromPipes_52 rfl ?_
        exact hP μ1 (by rw [show N (c 2 0) = i by omega]; exact hR1) hF1
      · have hi8 : i < 8 := by omega
        have hm20 : t % 20 < 20 := Nat.mod_lt _ (by omega)
        refine A_aload_n dX2_takeFromPipes_24 rfl ?_
        refine A_iload_n dX2_takeFromPipes_25 rfl ?_
        refine A_aload_n dX2_takeFromPipes_26 rfl ?_
        refine A_getR dX2_takeFromPipes_27 flX2_26 hF.l0 rfl ?_
        refine A_iload_n dX2_takeFromPipes_30 rfl ?_
        refine A_aald (j := i) dX2_takeFromPipes_31 hF.l5 rfl hi8 (by decide) (row_get f hi8) ?_
        refine A_iload_n dX2_takeFromPipes_32 rfl ?_
        refine A_ialdN (j := t % 20) dX2_takeFromPipes_33 (hF.row hi8) rfl hm20 (by decide) ?_
        refine A_callV2 dX2_takeFromPipes_34 mlX2_125 (by decide) hF.l0 rfl (Nat.le_of_ble_eq_true rfl) (c_pour hF hi8 _ ?_)
        refine Kn.v ?_
        refine A_aload_n dX2_takeFromPipes_37 rfl ?_
        refine A_getR dX2_takeFromPipes_38 flX2_26 hF.l0 rfl ?_
        refine A_iload_n dX2_takeFromPipes_41 rfl ?_
        refine A_aald (j := i) dX2_takeFromPipes_42 hF.l5 rfl hi8 (by decide) (row_get f hi8) ?_
        refine A_iload_n dX2_takeFromPipes_43 rfl ?_
        refine A_iconst (v := nI 0) dX2_takeFromPipes_44 (by decide +kernel) ?_
        refine A_iastN (j := t % 20) dX2_takeFromPipes_45 (hF.row hi8) rfl hm20 (by decide) ?_
        refine A_iincN (ls1 := [_, _, _]) dX2_takeFromPipes_46 rfl (by decide) rfl rfl ?_
        refine A_goto (tgt := 10) dX2_takeFromPipes_49 (by decide) ?_
        refine ih (i + 1) _ (by omega) (by omega) ?_ ((hF1.tr (pourX_Fr f _ _ _)).tr (Fr.up (by omega) (by omega)))
        have hv : μ1 (f + 6 + i) (t % 20) = sC (pipesP i S) i 0 := by rw [(hR1.2.2 i hi8).1, hz1 hi8]; exact Int32.add_zero _
        rw [hv]
        exact (hR1.pour hi8 _).clr hi8 (by rw [pourP_C]; exact hz1 hi8)
  refine A_aload_n dX2_takeFromPipes_0 rfl ?_
  refine A_getI dX2_takeFromPipes_1 flX2_43 hF.l0 rfl ?_
  rw [hR.1.1]
  refine A_bipush (v := nI 20) dX2_takeFromPipes_4 (by decide +kernel) ?_
  refine A_iremN dX2_takeFromPipes_6 (by omega) (by omega) (by omega) ?_
  refine A_istore_n (ls1 := [_, _, _]) dX2_takeFromPipes_7 (by decide) rfl rfl ?_
  refine A_iconst (v := nI 0) dX2_takeFromPipes_8 (by decide +kernel) ?_
  refine A_istore_n (ls1 := [_, _, _]) dX2_takeFromPipes_9 (by decide) rfl rfl ?_
  exact loop (N (c 2 0) + 1) 0 μ (by omega) (by omega) hR Fr.rf
theorem c_dryUp {f w t : Nat} (hF : FlowAt f w) {S : St} {c μ : MI} {ν : ML} {P : Po} (hC : WC c) (hc : Sm c μ) (hR : RX f t S μ) (hP : ∀ μ', RX f t (driesP (N (c 2 0)) S) μ' → Fr f 14 μ μ' → P none μ' ν) : Ct mX2_dryUp 0 [.ref f] μ ν P := by
  have hnb := hC.1.1
  have hr := hF.rng
  have hnb8 := hnb.2
  refine Ct.of (ls0 := [_, _]) (by decide) rfl (Nat.le_of_ble_eq_true rfl) rfl ?_
  have loop : ∀ (n i : Nat) (μ1 : MI), N (c 2 0) - i < n → i ≤ N (c 2 0) → RX f t (driesP i S) μ1 → Fr f 14 μ μ1 → AW mX2_dryUp (0, none) P 2 [some (.ref f), some (.int (nI i))] [] μ1 ν := by
    intro n
    induction n with
    | zero => intro i μ1 h; omega
    | succ n ih =>
      intro i μ1 hn hi hR1 hF1
      have hlow := hc.fr hr.1 hF1
      have hstep : driesP (i + 1) S = dryP i (driesP i S) := rfl
      refine A_iload_n dX2_dryUp_2 rfl ?_
      refine A_aload_n dX2_dryUp_3 rfl ?_
      refine A_getR dX2_dryUp_4 flX2_29 hF.l0 rfl ?_
      refine A_getR dX2_dryUp_7 flX2_142 rfl rfl ?_
      refine A_getI dX2_dryUp_10 flX2_146 rfl rfl ?_
      rw [(hlow 2 0 (by omega)), hnb.1]
      refine A_icmp_geN (tgt := 60) dX2_dryUp_13 (by decide) (by omega) (by omega) (fun b13 => ?_) (fun b13 => ?_)
      · refine A_vret dX2_dryUp_60 rfl ?_
        exact hP μ1 (by rw [show N (c 2 0) = i by omega]; exact hR1) hF1
      · have hi8 : i < 8 := by omega
        obtain ⟨g1, g2, g3, -⟩ := hR1.2.1 i hi8
        refine A_aload_n dX2_dryUp_16 rfl ?_
        refine A_getR dX2_dryUp_17 flX2_15 hF.l0 rfl ?_
        refine A_iload_n dX2_dryUp_20 rfl ?_
        refine A_ialdN (j := i) dX2_dryUp_21 hF.l2 rfl hi8 (by decide) ?_
        refine A_if_ne (tgt := 54) dX2_dryUp_22 (by decide) (fun b22 => ?_) (fun b22 => ?_)
        · refine A_iincN (ls1 := [_, _]) dX2_dryUp_54 rfl (by decide) rfl rfl ?_
          refine A_goto (tgt := 2) dX2_dryUp_57 (by decide) ?_
          refine ih (i + 1) μ1 (by omega) (by omega) ?_ hF1
          rw [hstep]; unfold dryP; rw [if_neg (fun q => b22 (by rw [g2, q.1]; rfl))]; exact hR1
        · refine A_aload_n dX2_dryUp_25 rfl ?_
          refine A_getR dX2_dryUp_26 flX2_9 hF.l0 rfl ?_
          refine A_iload_n dX2_dryUp_29 rfl ?_
          refine A_ialdN (j := i) dX2_dryUp_30 hF.l1 rfl hi8 (by decide) ?_
          refine A_if_le (tgt := 54) dX2_dryUp_31 (by decide) (fun b31 => ?_) (fun b31 => ?_)
          · refine A_iincN (ls1 := [_, _]) dX2_dryUp_54 rfl (by decide) rfl rfl ?_
            refine A_goto (tgt := 2) dX2_dryUp_57 (by decide) ?_
            refine ih (i + 1) μ1 (by omega) (by omega) ?_ hF1
            rw [hstep]; unfold dryP; rw [if_neg (fun q => i_lt_n q.2 (by rw [← g1]; exact b31))]; exact hR1
          · refine A_aload_n dX2_dryUp_34 rfl ?_
            refine A_getR dX2_dryUp_35 flX2_9 hF.l0 rfl ?_
            refine A_iload_n dX2_dryUp_38 rfl ?_
            refine A_dup2 dX2_dryUp_39 rfl rfl ?_
            refine A_ialdN (j := i) dX2_dryUp_40 hF.l1 rfl hi8 (by decide) ?_
            refine A_iconst (v := nI 1) dX2_dryUp_41 (by decide +kernel) ?_
            refine A_isub dX2_dryUp_42 ?_
            refine A_iastN (j := i) dX2_dryUp_43 hF.l1 rfl hi8 (by decide) ?_
            refine A_aload_n dX2_dryUp_44 rfl ?_
            refine A_dup dX2_dryUp_45 rfl ?_
            refine A_getI dX2_dryUp_46 flX2_53 hF.l0 rfl ?_
            refine A_iconst (v := nI 1) dX2_dryUp_49 (by decide +kernel) ?_
            refine A_iadd dX2_dryUp_50 ?_
            refine A_put dX2_dryUp_51 fpX2_53 hF.l0 rfl rfl rfl ?_
            refine A_iincN (ls1 := [_, _]) dX2_dryUp_54 rfl (by decide) rfl rfl ?_
            refine A_goto (tgt := 2) dX2_dryUp_57 (by decide) ?_
            refine ih (i + 1) _ (by omega) (by omega) ?_ ((hF1.tr (Fr.up (by omega) (by omega))).tr (Fr.up (by omega) (by omega)))
            have e0 : sD (driesP i S) i = 0 := by
              rw [g2] at b22
              exact (nI_eq (a := sD (driesP i S) i) (b := 0) (by omega) (by omega)).mp b22
            rw [hstep]; unfold dryP; rw [if_pos ⟨e0, by rw [← g1]; exact i_nle b31⟩]
            have h3 := (hR1.setH (v := sH (driesP i S) i - 1) hi8).setQ (i := 2) (v := sQ (driesP i S) 2 + 1) (by omega)
            rw [up2_a _ _ (by omega), g1, hR1.1.2.2.2]
            exact h3
  refine A_iconst (v := nI 0) dX2_dryUp_0 (by decide +kernel) ?_
  refine A_istore_n (ls1 := [_, _]) dX2_dryUp_1 (by decide) rfl rfl ?_
  exact loop (N (c 2 0) + 1) 0 μ (by omega) (by omega) hR Fr.rf
theorem c_tip {f w t b : Nat} (hF : FlowAt f w) {S : St} {c tw μ : MI} {ν : ML} {P : Po} (ht : t < 10000) (hC : WC c) (hc : Sm c μ) (hT : TW w tw c) (hR : RX f t S μ) (hb : b < N (c 2 0)) (hP : ∀ μ', RX f t (tipP c tw t b S) μ' → Fr f 14 μ μ' → P none μ' ν) : Ct mX2_tip 1 [.ref f, .int (nI b)] μ ν P := by
  have hnb := hC.1.1
  have hr := hF.rng
  have hnb8 := hnb.2
  have hb8 : b < 8 := by omega
  obtain ⟨g1, g2, g3, g4, g5⟩ := hR.2.1 b hb8
  have hrest := (hC.1.2 b hb).1
  have hcut : μ (w + 4) b = tw 4 b := by rw [hc _ _ (by omega)]; exact (hT.2.2 b hb8).2
  have h5 : μ 5 b = c 5 b := hc _ _ (by omega)
  have h6 : μ 6 b = c 6 b := hc _ _ (by omega)
  have h4 : μ 4 b = c 4 b := hc _ _ (by omega)
  refine Ct.of (ls0 := [_, _, _]) (by decide) rfl (Nat.le_of_ble_eq_true rfl) rfl ?_
  refine A_aload_n dX2_tip_0 rfl ?_
  refine A_getR dX2_tip_1 flX2_29 hF.l0 rfl ?_
  refine A_getR dX2_tip_4 flX2_142 rfl rfl ?_
  refine A_getR dX2_tip_7 flX2_159 rfl rfl ?_
  refine A_iload_n dX2_tip_10 rfl ?_
  refine A_ialdN (j := b) dX2_tip_11 rfl rfl hb8 (by decide) ?_
  refine A_istore_n (ls1 := [_, _, _]) dX2_tip_12 (by decide) rfl rfl ?_
  refine A_aload_n dX2_tip_13 rfl ?_
  refine A_getR dX2_tip_14 flX2_33 hF.l0 rfl ?_
  refine A_getR dX2_tip_17 flX2_160 hF.tw.l0 rfl ?_
  refine A_iload_n dX2_tip_20 rfl ?_
  refine A_zaldN (j := b) dX2_tip_21 hF.tw.l4 rfl hb8 (by decide) ?_
  refine A_if_ne (tgt := 39) dX2_tip_22 (by decide) (fun b22 => ?_) (fun b22 => ?_)
  · refine A_aload_n dX2_tip_39 rfl ?_
    refine A_dup dX2_tip_40 rfl ?_
    refine A_getI dX2_tip_41 flX2_50 hF.l0 rfl ?_
    refine A_aload_n dX2_tip_44 rfl ?_
    refine A_getR dX2_tip_45 flX2_9 hF.l0 rfl ?_
    refine A_iload_n dX2_tip_48 rfl ?_
    refine A_ialdN (j := b) dX2_tip_49 hF.l1 rfl hb8 (by decide) ?_
    refine A_iadd dX2_tip_50 ?_
    refine A_put dX2_tip_51 fpX2_50 hF.l0 rfl rfl rfl ?_
    refine A_goto (tgt := 93) dX2_tip_54 (by decide) ?_
    refine A_aload_n dX2_tip_93 rfl ?_
    refine A_getR dX2_tip_94 flX2_9 hF.l0 rfl ?_
    refine A_iload_n dX2_tip_97 rfl ?_
    refine A_iconst (v := nI 0) dX2_tip_98 (by decide +kernel) ?_
    refine A_iastN (j := b) dX2_tip_99 hF.l1 rfl hb8 (by decide) ?_
    refine A_aload_n dX2_tip_100 rfl ?_
    refine A_getR dX2_tip_101 flX2_15 hF.l0 rfl ?_
    refine A_iload_n dX2_tip_104 rfl ?_
    refine A_aload_n dX2_tip_105 rfl ?_
    refine A_getR dX2_tip_106 flX2_29 hF.l0 rfl ?_
    refine A_getR dX2_tip_109 flX2_142 rfl rfl ?_
    refine A_getR dX2_tip_112 flX2_169 rfl rfl ?_
    refine A_iload_n dX2_tip_115 rfl ?_
    refine A_ialdN (j := b) dX2_tip_116 rfl rfl hb8 (by decide) ?_
    refine A_iastN (j := b) dX2_tip_117 hF.l2 rfl hb8 (by decide) ?_
    refine A_aload_n dX2_tip_118 rfl ?_
    refine A_getR dX2_tip_119 flX2_18 hF.l0 rfl ?_
    refine A_iload_n dX2_tip_122 rfl ?_
    refine A_dup2 dX2_tip_123 rfl rfl ?_
    refine A_ialdN (j := b) dX2_tip_124 hF.l3 rfl hb8 (by decide) ?_
    refine A_iconst (v := nI 1) dX2_tip_125 (by decide +kernel) ?_
    refine A_iadd dX2_tip_126 ?_
    refine A_iastN (j := b) dX2_tip_127 hF.l3 rfl hb8 (by decide) ?_
    refine A_aload_n dX2_tip_128 rfl ?_
    refine A_getR dX2_tip_129 flX2_21 hF.l0 rfl ?_
    refine A_iload_n dX2_tip_132 rfl ?_
    refine A_aload_n dX2_tip_133 rfl ?_
    refine A_getI dX2_tip_134 flX2_43 hF.l0 rfl ?_
    refine A_iastN (j := b) dX2_tip_137 hF.l4 rfl hb8 (by decide) ?_
    refine A_vret dX2_tip_138 rfl ?_
    refine hP _ ?_ ((((((Fr.up (by omega) (by omega)).tr (Fr.up (by omega) (by omega))).tr (Fr.up (by omega) (by omega))).tr (Fr.up (by omega) (by omega))).tr (Fr.up (by omega) (by omega))))
    have hbr : brookB c tw b = true := by unfold brookB; rw [← hcut]; simp [b22]
    have h9 := ((((hR.setQ (i := 1) (v := sQ S 1 + sH S b) (by omega)).setH (v := 0) hb8).setD (n := N (c 4 b)) hb8 hrest.2).setK (v := sK S b + 1) hb8).setL (v := nI t) hb8
    have e : tipP c tw t b S = setL b (nI t) (setK b (sK S b + 1) (setD b (N (c 4 b)) (setH b 0 (setQ 1 (sQ S 1 + sH S b) S)))) := by
      unfold tipP fallP
      rw [if_pos hbr]
      rfl
    rw [e]
    simp (disch := omega) only [up2_a, up2_b]
    rw [g1, hR.1.2.2.1, g4, h4, hR.1.1]
    rw [← hrest.1] at h9
    exact h9
  · refine A_aload_n dX2_tip_25 rfl ?_
    refine A_getR dX2_tip_26 flX2_29 hF.l0 rfl ?_
    refine A_getR dX2_tip_29 flX2_142 rfl rfl ?_
    refine A_iload_n dX2_tip_32 rfl ?_
    refine A_callV1 dX2_tip_33 mlX2_163 (by decide) rfl rfl (Nat.le_of_ble_eq_true rfl) (c_has _ ((hc 2 0 (by omega)).trans hnb.1) hnb8 (fun g => ?_) (fun g => ?_))
    · refine Kn.s ?_
      refine A_if_ne (tgt := 57) dX2_tip_36 (by decide) (fun _ => ?_) (fun h => absurd h (by decide +kernel))
      have h5n : ¬ c 5 b < 0 := by
        rw [← h5]
        obtain ⟨k, hk, hk2⟩ := g
        rw [hk]
        exact nI_pos (by omega)
      obtain ⟨q1, q2, q3, q4⟩ := hC.pipe hb h5n
      have q1' := q1.2
      have q3' := q3.2
      have hm20 : (t + N (c 6 b)) % 20 < 20 := Nat.mod_lt _ (by omega)
      refine A_aload_n dX2_tip_57 rfl ?_
      refine A_getR dX2_tip_58 flX2_26 hF.l0 rfl ?_
      refine A_iload_n dX2_tip_61 rfl ?_
      refine A_aald (j := N (c 5 b)) dX2_tip_62 hF.l5 (h5.trans q1.1) (by omega) (by decide) (row_get f (by omega)) ?_
      refine A_aload_n dX2_tip_63 rfl ?_
      refine A_getI dX2_tip_64 flX2_43 hF.l0 rfl ?_
      rw [hR.1.1]
      refine A_aload_n dX2_tip_67 rfl ?_
      refine A_getR dX2_tip_68 flX2_29 hF.l0 rfl ?_
      refine A_getR dX2_tip_71 flX2_142 rfl rfl ?_
      refine A_getR dX2_tip_74 flX2_166 rfl rfl ?_
      refine A_iload_n dX2_tip_77 rfl ?_
      refine A_ialdN (j := b) dX2_tip_78 rfl rfl hb8 (by decide) ?_
      rw [h6, q3.1]
      refine A_iaddN dX2_tip_79 ?_
      refine A_bipush (v := nI 20) dX2_tip_80 (by decide +kernel) ?_
      refine A_iremN dX2_tip_82 (by omega) (by omega) (by omega) ?_
      refine A_dup2 dX2_tip_83 rfl rfl ?_
      refine A_ialdN (j := (t + N (c 6 b)) % 20) dX2_tip_84 (hF.row (by omega)) rfl hm20 (by decide) ?_
      refine A_aload_n dX2_tip_85 rfl ?_
      refine A_getR dX2_tip_86 flX2_9 hF.l0 rfl ?_
      refine A_iload_n dX2_tip_89 rfl ?_
      refine A_ialdN (j := b) dX2_tip_90 hF.l1 rfl hb8 (by decide) ?_
      refine A_iadd dX2_tip_91 ?_
      refine A_iastN (j := (t + N (c 6 b)) % 20) dX2_tip_92 (hF.row (by omega)) rfl hm20 (by decide) ?_
      refine A_aload_n dX2_tip_93 rfl ?_
      refine A_getR dX2_tip_94 flX2_9 hF.l0 rfl ?_
      refine A_iload_n dX2_tip_97 rfl ?_
      refine A_iconst (v := nI 0) dX2_tip_98 (by decide +kernel) ?_
      refine A_iastN (j := b) dX2_tip_99 hF.l1 rfl hb8 (by decide) ?_
      refine A_aload_n dX2_tip_100 rfl ?_
      refine A_getR dX2_tip_101 flX2_15 hF.l0 rfl ?_
      refine A_iload_n dX2_tip_104 rfl ?_
      refine A_aload_n dX2_tip_105 rfl ?_
      refine A_getR dX2_tip_106 flX2_29 hF.l0 rfl ?_
      refine A_getR dX2_tip_109 flX2_142 rfl rfl ?_
      refine A_getR dX2_tip_112 flX2_169 rfl rfl ?_
      refine A_iload_n dX2_tip_115 rfl ?_
      refine A_ialdN (j := b) dX2_tip_116 rfl rfl hb8 (by decide) ?_
      refine A_iastN (j := b) dX2_tip_117 hF.l2 rfl hb8 (by decide) ?_
      refine A_aload_n dX2_tip_118 rfl ?_
      refine A_getR dX2_tip_119 flX2_18 hF.l0 rfl ?_
      refine A_iload_n dX2_tip_122 rfl ?_
      refine A_dup2 dX2_tip_123 rfl rfl ?_
      refine A_ialdN (j := b) dX2_tip_124 hF.l3 rfl hb8 (by decide) ?_
      refine A_iconst (v := nI 1) dX2_tip_125 (by decide +kernel) ?_
      refine A_iadd dX2_tip_126 ?_
      refine A_iastN (j := b) dX2_tip_127 hF.l3 rfl hb8 (by decide) ?_
      refine A_aload_n dX2_tip_128 rfl ?_
      refine A_getR dX2_tip_129 flX2_21 hF.l0 rfl ?_
      refine A_iload_n dX2_tip_132 rfl ?_
      refine A_aload_n dX2_tip_133 rfl ?_
      refine A_getI dX2_tip_134 flX2_43 hF.l0 rfl ?_
      refine A_iastN (j := b) dX2_tip_137 hF.l4 rfl hb8 (by decide) ?_
      refine A_vret dX2_tip_138 rfl ?_
      refine hP _ ?_ ((((((Fr.up (by omega) (by omega)).tr (Fr.up (by omega) (by omega))).tr (Fr.up (by omega) (by omega))).tr (Fr.up (by omega) (by omega))).tr (Fr.up (by omega) (by omega))))
      have hbr : brookB c tw b = false := by unfold brookB; rw [← hcut]; simp [b22, h5n]
      have h9 := ((((hR.addC (b := N (c 5 b)) (j := N (c 6 b)) (v := sH S b) (by omega) q4 q3').setH (v := 0) hb8).setD (n := N (c 4 b)) hb8 hrest.2).setK (v := sK S b + 1) hb8).setL (v := nI t) hb8
      have e : tipP c tw t b S = setL b (nI t) (setK b (sK S b + 1) (setD b (N (c 4 b)) (setH b 0 (setC (N (c 5 b)) (N (c 6 b)) (sC S (N (c 5 b)) (N (c 6 b)) + sH S b) S)))) := by
        unfold tipP fallP
        rw [if_neg (by rw [hbr]; decide)]
        rfl
      rw [e]
      simp (disch := omega) only [up2_a, up2_b]
      rw [g1, g4, h4, hR.1.1]
      rw [← hrest.1] at h9
      exact h9
    · refine Kn.s ?_
      refine A_if_ne (tgt := 57) dX2_tip_36 (by decide) (fun h => absurd h (by decide +kernel)) (fun _ => ?_)
      refine A_aload_n dX2_tip_39 rfl ?_
      refine A_dup dX2_tip_40 rfl ?_
      refine A_getI dX2_tip_41 flX2_50 hF.l0 rfl ?_
      refine A_aload_n dX2_tip_44 rfl ?_
      refine A_getR dX2_tip_45 flX2_9 hF.l0 rfl ?_
      refine A_iload_n dX2_tip_48 rfl ?_
      refine A_ialdN (j := b) dX2_tip_49 hF.l1 rfl hb8 (by decide) ?_
      refine A_iadd dX2_tip_50 ?_
      refine A_put dX2_tip_51 fpX2_50 hF.l0 rfl rfl rfl ?_
      refine A_goto (tgt := 93) dX2_tip_54 (by decide) ?_
      refine A_aload_n dX2_tip_93 rfl ?_
      refine A_getR dX2_tip_94 flX2_9 hF.l0 rfl ?_
      refine A_iload_n dX2_tip_97 rfl ?_
      refine A_iconst (v := nI 0) dX2_tip_98 (by decide +kernel) ?_
      refine A_iastN (j := b) dX2_tip_99 hF.l1 rfl hb8 (by decide) ?_
      refine A_aload_n dX2_tip_100 rfl ?_
      refine A_getR dX2_tip_101 flX2_15 hF.l0 rfl ?_
      refine A_iload_n dX2_tip_104 rfl ?_
      refine A_aload_n dX2_tip_105 rfl ?_
      refine A_getR dX2_tip_106 flX2_29 hF.l0 rfl ?_
      refine A_getR dX2_tip_109 flX2_142 rfl rfl ?_
      refine A_getR dX2_tip_112 flX2_169 rfl rfl ?_
      refine A_iload_n dX2_tip_115 rfl ?_
      refine A_ialdN (j := b) dX2_tip_116 rfl rfl hb8 (by decide) ?_
      refine A_iastN (j := b) dX2_tip_117 hF.l2 rfl hb8 (by decide) ?_
      refine A_aload_n dX2_tip_118 rfl ?_
      refine A_getR dX2_tip_119 flX2_18 hF.l0 rfl ?_
      refine A_iload_n dX2_tip_122 rfl ?_
      refine A_dup2 dX2_tip_123 rfl rfl ?_
      refine A_ialdN (j := b) dX2_tip_124 hF.l3 rfl hb8 (by decide) ?_
      refine A_iconst (v := nI 1) dX2_tip_125 (by decide +kernel) ?_
      refine A_iadd dX2_tip_126 ?_
      refine A_iastN (j := b) dX2_tip_127 hF.l3 rfl hb8 (by decide) ?_
      refine A_aload_n dX2_tip_128 rfl ?_
      refine A_getR dX2_tip_129 flX2_21 hF.l0 rfl ?_
      refine A_iload_n dX2_tip_132 rfl ?_
      refine A_aload_n dX2_tip_133 rfl ?_
      refine A_getI dX2_tip_134 flX2_43 hF.l0 rfl ?_
      refine A_iastN (j := b) dX2_tip_137 hF.l4 rfl hb8 (by decide) ?_
      refine A_vret dX2_tip_138 rfl ?_
      refine hP _ ?_ ((((((Fr.up (by omega) (by omega)).tr (Fr.up (by omega) (by omega))).tr (Fr.up (by omega) (by omega))).tr (Fr.up (by omega) (by omega))).tr (Fr.up (by omega) (by omega))))
      have h5n : c 5 b < 0 := by
        rcases (hC.1.2 b hb).2 with e | e
        · rw [e]; decide +kernel
        · exact absurd ⟨N (c 5 b), h5.trans e.1.1, e.2.1⟩ g
      have hbr : brookB c tw b = true := by unfold brookB; simp [h5n]
      have h9 := ((((hR.setQ (i := 1) (v := sQ S 1 + sH S b) (by omega)).setH (v := 0) hb8).setD (n := N (c 4 b)) hb8 hrest.2).setK (v := sK S b + 1) hb8).setL (v := nI t) hb8
      have e : tipP c tw t b S = setL b (nI t) (setK b (sK S b + 1) (setD b (N (c 4 b)) (setH b 0 (setQ 1 (sQ S 1 + sH S b) S)))) := by
        unfold tipP fallP
        rw [if_pos hbr]
        rfl
      rw [e]
      simp (disch := omega) only [up2_a, up2_b]
      rw [g1, hR.1.2.2.1, g4, h4, hR.1.1]
      rw [← hrest.1] at h9
      exact h9
end
section
/-! the flow's tick, on: all buckets, the step, the beginning; likeness of two flows -/
theorem nI_or_bit {a i : Nat} (hi : i < 8) (ha : a < 2 ^ i) : nI a ||| (nI 1 <<< (nI i &&& 31)) = nI (a + 2 ^ i) := by
  have e : ∀ i, i < 8 → nI 1 <<< (nI i &&& 31) = nI (2 ^ i) := by decide +kernel
  rw [e i hi]
  have h2 : nI a ||| nI (2 ^ i) = nI (a ||| 2 ^ i) := by
    apply Int32.toBitVec_inj.mp
    show BitVec.ofNat 32 a ||| BitVec.ofNat 32 (2 ^ i) = BitVec.ofNat 32 (a ||| 2 ^ i)
    exact (BitVec.ofNat_or ..).symm
  rw [h2]
  congr 1
  have h3 := Nat.two_pow_add_eq_or_of_lt ha 1
  rw [Nat.mul_one] at h3
  rw [Nat.or_comm, ← h3, Nat.add_comm]
theorem c_tipAll {f w t : Nat} (hF : FlowAt f w) {S : St} {c tw μ : MI} {ν : ML} {P : Po} (ht : t < 10000) (hC : WC c) (hc : Sm c μ) (hT : TW w tw c) (hR : RX f t S μ) (hP : ∀ μ', RX f t (turnsP c tw t (N (c 2 0)) S) μ' → Fr f 14 μ μ' → P (some (.int (nI (bitsN (fun b => knB c tw b (turnsP c tw t b S)) (N (c 2 0)))))) μ' ν) : Ct mX2_tipAll 2 [.ref f] μ ν P := by
  have hnb := hC.1.1
  have hr := hF.rng
  have hnb8 := hnb.2
  refine Ct.of (ls0 := [_, _, _]) (by decide) rfl (Nat.le_of_ble_eq_true rfl) rfl ?_
  have loop : ∀ (n i : Nat) (μ1 : MI), N (c 2 0) - i < n → i ≤ N (c 2 0) → RX f t (turnsP c tw t i S) μ1 → Fr f 14 μ μ1 → AW mX2_tipAll (2, none) P 4 [some (.ref f), some (.int (nI (bitsN (fun b => knB c tw b (turnsP c tw t b S)) i))), some (.int (nI i))] [] μ1 ν := by
    intro n
    induction n with
    | zero => intro i μ1 h; omega
    | succ n ih =>
      intro i μ1 hn hi hR1 hF1
      have hlow := hc.fr hr.1 hF1
      have hstep : turnsP c tw t (i + 1) S = turnP c tw t i (turnsP c tw t i S) := rfl
      have hbits : ∀ q : Bool, knB c tw i (turnsP c tw t i S) = q → bitsN (fun b => knB c tw b (turnsP c tw t b S)) (i + 1) = bitsN (fun b => knB c tw b (turnsP c tw t b S)) i + (if q then 2 ^ i else 0) := fun q h => by rw [bitsN, h]
      refine A_iload_n dX2_tipAll_4 rfl ?_
      refine A_aload_n dX2_tipAll_5 rfl ?_
      refine A_getR dX2_tipAll_6 flX2_29 hF.l0 rfl ?_
      refine A_getR dX2_tipAll_9 flX2_142 rfl rfl ?_
      refine A_getI dX2_tipAll_12 flX2_146 rfl rfl ?_
      rw [(hlow 2 0 (by omega)), hnb.1]
      refine A_icmp_geN (tgt := 90) dX2_tipAll_15 (by decide) (by omega) (by omega) (fun b15 => ?_) (fun b15 => ?_)
      · refine A_iload_n dX2_tipAll_90 rfl ?_
        refine A_iret dX2_tipAll_91 rfl rfl ?_
        have e : N (c 2 0) = i := by omega
        rw [e] at hP
        exact hP μ1 hR1 hF1
      · have hi8 : i < 8 := by omega
        obtain ⟨g1, g2, g3, -⟩ := hR1.2.1 i hi8
        have hmu : μ1 (w + 3) i = tw 3 i := by rw [hlow _ _ (by omega)]; exact (hT.2.2 i hi8).1
        have h3 : μ1 3 i = c 3 i := hlow 3 i (by omega)
        refine A_aload_n dX2_tipAll_18 rfl ?_
        refine A_getR dX2_tipAll_19 flX2_15 hF.l0 rfl ?_
        refine A_iload_n dX2_tipAll_22 rfl ?_
        refine A_ialdN (j := i) dX2_tipAll_23 hF.l2 rfl hi8 (by decide) ?_
        rw [g2]
        refine A_if_le (tgt := 40) dX2_tipAll_24 (by decide) (fun b24 => ?_) (fun b24 => ?_)
        · refine A_aload_n dX2_tipAll_40 rfl ?_
          refine A_getR dX2_tipAll_41 flX2_9 hF.l0 rfl ?_
          refine A_iload_n dX2_tipAll_44 rfl ?_
          refine A_ialdN (j := i) dX2_tipAll_45 hF.l1 rfl hi8 (by decide) ?_
          refine A_aload_n dX2_tipAll_46 rfl ?_
          refine A_getR dX2_tipAll_47 flX2_29 hF.l0 rfl ?_
          refine A_getR dX2_tipAll_50 flX2_142 rfl rfl ?_
          refine A_getR dX2_tipAll_53 flX2_149 rfl rfl ?_
          refine A_iload_n dX2_tipAll_56 rfl ?_
          refine A_ialdN (j := i) dX2_tipAll_57 rfl rfl hi8 (by decide) ?_
          refine A_icmp_lt (tgt := 84) dX2_tipAll_58 (by decide) (fun b58 => ?_) (fun b58 => ?_)
          · refine A_iincN (ls1 := [_, _, _]) dX2_tipAll_84 rfl (by decide) rfl rfl ?_
            refine A_goto (tgt := 4) dX2_tipAll_87 (by decide) ?_
            have hd0 : sD (turnsP c tw t i S) i = 0 := by
              rcases Nat.eq_zero_or_pos (sD (turnsP c tw t i S) i) with q | q
              · exact q
              · exact absurd b24 (nI_nle q (by omega))
            have hk : knB c tw i (turnsP c tw t i S) = false := by unfold knB; rw [← g1, ← h3]; simp [i_lt_n b58]
            have h9 := ih (i + 1) μ1 (by omega) (by omega) (by rw [hstep]; unfold turnP; rw [if_neg (by omega), if_neg (by rw [hk]; decide)]; exact hR1) hF1
            rw [hbits false hk] at h9
            exact h9
          · refine A_aload_n dX2_tipAll_61 rfl ?_
            refine A_getR dX2_tipAll_62 flX2_33 hF.l0 rfl ?_
            refine A_getR dX2_tipAll_65 flX2_152 hF.tw.l0 rfl ?_
            refine A_iload_n dX2_tipAll_68 rfl ?_
            refine A_zaldN (j := i) dX2_tipAll_69 hF.tw.l3 rfl hi8 (by decide) ?_
            refine A_if_ne (tgt := 84) dX2_tipAll_70 (by decide) (fun b70 => ?_) (fun b70 => ?_)
            · refine A_iincN (ls1 := [_, _, _]) dX2_tipAll_84 rfl (by decide) rfl rfl ?_
              refine A_goto (tgt := 4) dX2_tipAll_87 (by decide) ?_
              have hd0 : sD (turnsP c tw t i S) i = 0 := by
                rcases Nat.eq_zero_or_pos (sD (turnsP c tw t i S) i) with q | q
                · exact q
                · exact absurd b24 (nI_nle q (by omega))
              have hk : knB c tw i (turnsP c tw t i S) = false := by unfold knB; rw [← hmu]; simp [b70]
              have h9 := ih (i + 1) μ1 (by omega) (by omega) (by rw [hstep]; unfold turnP; rw [if_neg (by omega), if_neg (by rw [hk]; decide)]; exact hR1) hF1
              rw [hbits false hk] at h9
              exact h9
            · refine A_aload_n dX2_tipAll_73 rfl ?_
              refine A_iload_n dX2_tipAll_74 rfl ?_
              refine A_callV1 dX2_tipAll_75 mlX2_155 (by decide) hF.l0 rfl (Nat.le_of_ble_eq_true rfl) (c_tip hF ht hC hlow hT hR1 (by omega) (fun μ2 hR2 hF2 => ?_))
              refine Kn.v ?_
              refine A_iload_n dX2_tipAll_78 rfl ?_
              refine A_iconst (v := nI 1) dX2_tipAll_79 (by decide +kernel) ?_
              refine A_iload_n dX2_tipAll_80 rfl ?_
              refine A_ishl dX2_tipAll_81 ?_
              refine A_ior dX2_tipAll_82 ?_
              refine A_istore_n (ls1 := [_, _, _]) dX2_tipAll_83 (by decide) rfl rfl ?_
              refine A_iincN (ls1 := [_, _, _]) dX2_tipAll_84 rfl (by decide) rfl rfl ?_
              refine A_goto (tgt := 4) dX2_tipAll_87 (by decide) ?_
              have hd0 : sD (turnsP c tw t i S) i = 0 := by
                rcases Nat.eq_zero_or_pos (sD (turnsP c tw t i S) i) with q | q
                · exact q
                · exact absurd b24 (nI_nle q (by omega))
              have hk : knB c tw i (turnsP c tw t i S) = true := by unfold knB; rw [← hmu, ← g1, ← h3]; simp [b70, hd0, i_nlt b58]
              have h9 := ih (i + 1) μ2 (by omega) (by omega) (by rw [hstep]; unfold turnP; rw [if_neg (by omega), if_pos hk]; exact hR2) (hF1.tr hF2)
              rw [hbits true hk] at h9
              rw [nI_or_bit hi8 (bitsN_lt _ _)]
              exact h9
        · refine A_aload_n dX2_tipAll_27 rfl ?_
          refine A_getR dX2_tipAll_28 flX2_15 hF.l0 rfl ?_
          refine A_iload_n dX2_tipAll_31 rfl ?_
          refine A_dup2 dX2_tipAll_32 rfl rfl ?_
          refine A_ialdN (j := i) dX2_tipAll_33 hF.l2 rfl hi8 (by decide) ?_
          rw [g2]
          refine A_iconst (v := nI 1) dX2_tipAll_34 (by decide +kernel) ?_
          refine A_isub dX2_tipAll_35 ?_
          refine A_iastN (j := i) dX2_tipAll_36 hF.l2 rfl hi8 (by decide) ?_
          refine A_goto (tgt := 84) dX2_tipAll_37 (by decide) ?_
          refine A_iincN (ls1 := [_, _, _]) dX2_tipAll_84 rfl (by decide) rfl rfl ?_
          refine A_goto (tgt := 4) dX2_tipAll_87 (by decide) ?_
          have hd0 : 0 < sD (turnsP c tw t i S) i := Nat.pos_of_ne_zero (fun e => b24 (by rw [e]; decide +kernel))
          have hk : knB c tw i (turnsP c tw t i S) = false := by unfold knB; simp [show ¬ sD (turnsP c tw t i S) i = 0 by omega]
          have h9 := ih (i + 1) _ (by omega) (by omega) (by rw [hstep]; unfold turnP; rw [if_pos hd0]; exact hR1.setD (n := sD (turnsP c tw t i S) i - 1) hi8 (by omega)) (hF1.tr (Fr.up (by omega) (by omega)))
          rw [hbits false hk] at h9
          rw [pk_sub (by omega)]
          exact h9
  refine A_iconst (v := nI 0) dX2_tipAll_0 (by decide +kernel) ?_
  refine A_istore_n (ls1 := [_, _, _]) dX2_tipAll_1 (by decide) rfl rfl ?_
  refine A_iconst (v := nI 0) dX2_tipAll_2 (by decide +kernel) ?_
  refine A_istore_n (ls1 := [_, _, _]) dX2_tipAll_3 (by decide) rfl rfl ?_
  exact loop (N (c 2 0) + 1) 0 μ (by omega) (by omega) hR Fr.rf
/-- a state ahead of a tick: nothing comes later than 20 ticks on, nothing to buckets that there are not -/
def GC (nb : Nat) (S : St) : Prop := (∀ b j, b < 8 → 20 ≤ j → sC S b j = 0) ∧ ∀ b, nb ≤ b → b < 8 → ∀ j, sC S b j = 0
theorem c_step {f w t : Nat} (hF : FlowAt f w) {S : St} {tw μ : MI} {ν : ML} {P : Po} (ht : t < 9000) (hC : WC μ) (hT : TW w tw μ) (hR : RX f t S μ) (hG : GC (N (μ 2 0)) S) (hP : ∀ μ', RX f (t + 1) (stepP μ tw t S) μ' → Fr f 14 μ μ' → P (some (.int (nI (bitsN (setP μ tw t S) (N (μ 2 0)))))) μ' ν) : Ct mX2_step 3 [.ref f] μ ν P := by
  have hr := hF.rng
  have hnb8 := hC.1.1.2
  have hdr := hC.2.2.2.2
  have hdr5 := hdr.2
  refine Ct.of (ls0 := [_, _]) (by decide) rfl (Nat.le_of_ble_eq_true rfl) rfl ?_
  have hz : ∀ b, b < 8 → sC (dripsP μ tw t (N (μ 7 0)) S) b 20 = 0 := fun b hb => by rw [dripsP_C]; exact hG.1 b 20 hb (by omega)
  have hdel : ∀ b, b < N (μ 2 0) → ¬ μ 5 b < 0 → 0 < N (μ 6 b) ∧ N (μ 6 b) ≤ 20 := fun b hb h => ⟨(hC.pipe hb h).2.2.2, (hC.pipe hb h).2.2.1.2⟩
  have h0 : ∀ b, b < 8 → sC (turnsP μ tw t (N (μ 2 0)) (wateredP μ tw t S)) b 0 = 0 := fun b hb => by
    rw [turnsP_C (Or.inl rfl) _ hdel, wateredP_C]
    by_cases e : b < N (μ 2 0)
    · rw [if_pos ⟨e, rfl⟩]
    · rw [if_neg (by omega)]; exact hG.2 b (by omega) hb 0
  have h21 : ∀ b, b < 8 → sC (turnsP μ tw t (N (μ 2 0)) (wateredP μ tw t S)) b 21 = 0 := fun b hb => by
    rw [turnsP_C (Or.inr (by omega)) _ hdel, wateredP_C, if_neg (by omega)]
    exact hG.1 b 21 hb (by omega)
  have hend : ∀ (μ4 : MI), RX f t (turnsP μ tw t (N (μ 2 0)) (wateredP μ tw t S)) μ4 → Fr f 14 μ μ4 → P (some (.int (nI (bitsN (setP μ tw t S) (N (μ 2 0)))))) (up2 μ4 f 2 (nI (t + 1))) ν :=
    fun μ4 hR4 hF4 => hP _ (hR4.shift h0 h21) (hF4.tr (Fr.up (by omega) (by omega)))
  refine A_aload_n dX2_step_0 rfl ?_
  refine A_callV0 dX2_step_1 mlX2_56 (by decide) hF.l0 rfl (Nat.le_of_ble_eq_true rfl) (c_takeDrips hF (by omega) hC hR hT (fun μ1 hR1 hF1 => ?_))
  refine Kn.v ?_
  refine A_aload_n dX2_step_4 rfl ?_
  refine A_callV0 dX2_step_5 mlX2_59 (by decide) hF.l0 rfl (Nat.le_of_ble_eq_true rfl) (c_takeFromPipes hF (by omega) hC ((Sm.rf μ).fr hr.1 hF1) hR1 hz (fun μ2 hR2 hF2 => ?_))
  refine Kn.v ?_
  have hF12 := hF1.tr hF2
  have hlow2 := (Sm.rf μ).fr hr.1 hF12
  refine A_aload_n dX2_step_8 rfl ?_
  refine A_getR dX2_step_9 flX2_29 hF.l0 rfl ?_
  refine A_getI dX2_step_12 flX2_62 rfl rfl ?_
  rw [(hlow2 1 4 (by omega)), hdr.1]
  refine A_aload_n dX2_step_15 rfl ?_
  refine A_getI dX2_step_16 flX2_43 hF.l0 rfl ?_
  rw [hR2.1.1]
  refine A_callN2 dX2_step_19 mlX2_67 (by decide) (Nat.le_of_ble_eq_true rfl) (c_goesInto (by omega) (by omega) (fun g1 g2 => ?_) (fun g0 => ?_))
  · refine Kn.s ?_
    refine A_if_eq (tgt := 29) dX2_step_22 (by decide) (fun h => absurd h (by decide +kernel)) (fun _ => ?_)
    refine A_aload_n dX2_step_25 rfl ?_
    refine A_callV0 dX2_step_26 mlX2_71 (by decide) hF.l0 rfl (Nat.le_of_ble_eq_true rfl) (c_dryUp hF hC hlow2 hR2 (fun μ3 hR3 hF3 => ?_))
    refine Kn.v ?_
    refine A_aload_n dX2_step_29 rfl ?_
    refine A_callV0 dX2_step_30 mlX2_74 (by decide) hF.l0 rfl (Nat.le_of_ble_eq_true rfl) (c_tipAll hF (by omega) hC ((Sm.rf μ).fr hr.1 (hF12.tr hF3)) hT hR3 (fun μ4 hR4 hF4 => ?_))
    refine Kn.s ?_
    refine A_istore_n (ls1 := [_, _]) dX2_step_33 (by decide) rfl rfl ?_
    refine A_aload_n dX2_step_34 rfl ?_
    refine A_dup dX2_step_35 rfl ?_
    refine A_getI dX2_step_36 flX2_43 hF.l0 rfl ?_
    rw [hR4.1.1]
    refine A_iconst (v := nI 1) dX2_step_39 (by decide +kernel) ?_
    refine A_iaddN dX2_step_40 ?_
    refine A_put dX2_step_41 fpX2_43 hF.l0 rfl rfl rfl ?_
    refine A_iload_n dX2_step_44 rfl ?_
    refine A_iret dX2_step_45 rfl rfl ?_
    have e : wateredP μ tw t S = driesP (N (μ 2 0)) (pipesP (N (μ 2 0)) (dripsP μ tw t (N (μ 7 0)) S)) := if_pos (by unfold dryT; simp [g1, g2])
    rw [← e] at hR4 ⊢
    exact hend μ4 hR4 ((hF12.tr hF3).tr hF4)
  · refine Kn.s ?_
    refine A_if_eq (tgt := 29) dX2_step_22 (by decide) (fun _ => ?_) (fun h => absurd h (by decide +kernel))
    refine A_aload_n dX2_step_29 rfl ?_
    refine A_callV0 dX2_step_30 mlX2_74 (by decide) hF.l0 rfl (Nat.le_of_ble_eq_true rfl) (c_tipAll hF (by omega) hC hlow2 hT hR2 (fun μ4 hR4 hF4 => ?_))
    refine Kn.s ?_
    refine A_istore_n (ls1 := [_, _]) dX2_step_33 (by decide) rfl rfl ?_
    refine A_aload_n dX2_step_34 rfl ?_
    refine A_dup dX2_step_35 rfl ?_
    refine A_getI dX2_step_36 flX2_43 hF.l0 rfl ?_
    rw [hR4.1.1]
    refine A_iconst (v := nI 1) dX2_step_39 (by decide +kernel) ?_
    refine A_iaddN dX2_step_40 ?_
    refine A_put dX2_step_41 fpX2_43 hF.l0 rfl rfl rfl ?_
    refine A_iload_n dX2_step_44 rfl ?_
    refine A_iret dX2_step_45 rfl rfl ?_
    have e : wateredP μ tw t S = pipesP (N (μ 2 0)) (dripsP μ tw t (N (μ 7 0)) S) := if_neg (fun q => g0 (by unfold dryT at q; simpa using q))
    rw [← e] at hR4 ⊢
    exact hend μ4 hR4 (hF12.tr hF4)
end
section
/-! the same was told: the same course; the beginning; runs -/
theorem CX.row {c μ : MI} (h : CX c μ) {a : Nat} (h1 : 1 ≤ a) (h2 : a ≤ 18) : μ a = c a := funext (fun j => h a h1 h2 j)
theorem CX.fr {c μ μ' : MI} {lo n : Nat} (h : CX c μ) (hl : 19 ≤ lo) (hF : Fr lo n μ μ') : CX c μ' := fun k h1 h2 j => (hF k (Or.inl (by omega)) j).trans (h k h1 h2 j)
theorem WC.cx {c μ : MI} (h : WC c) (hc : CX c μ) : WC μ := by
  unfold WC at h ⊢
  rw [hc.row (a := 2) (by omega) (by omega), hc.row (a := 4) (by omega) (by omega), hc.row (a := 5) (by omega) (by omega), hc.row (a := 6) (by omega) (by omega), hc.row (a := 7) (by omega) (by omega), hc.row (a := 8) (by omega) (by omega), hc.row (a := 10) (by omega) (by omega), hc.row (a := 11) (by omega) (by omega), hc.row (a := 12) (by omega) (by omega), hc.row (a := 16) (by omega) (by omega), hc.row (a := 17) (by omega) (by omega), hc.row (a := 1) (by omega) (by omega)]
  exact h
theorem dripP_cx {c μ tw : MI} (hc : CX c μ) (t s : Nat) (S : St) : dripP μ tw t s S = dripP c tw t s S := by
  unfold dripP dueB heldB frogB waterP wetP
  rw [hc.row (a := 8) (by omega) (by omega), hc.row (a := 9) (by omega) (by omega), hc.row (a := 10) (by omega) (by omega), hc.row (a := 11) (by omega) (by omega), hc.row (a := 12) (by omega) (by omega), hc.row (a := 13) (by omega) (by omega), hc.row (a := 14) (by omega) (by omega), hc.row (a := 15) (by omega) (by omega), hc.row (a := 16) (by omega) (by omega), hc.row (a := 17) (by omega) (by omega), hc.row (a := 18) (by omega) (by omega)]
theorem dripsP_cx {c μ tw : MI} (hc : CX c μ) (t : Nat) (S : St) : ∀ k, dripsP μ tw t k S = dripsP c tw t k S
  | 0 => rfl
  | k + 1 => by rw [dripsP, dripsP, dripP_cx hc, dripsP_cx hc t S k]
theorem knB_cx {c μ tw : MI} (hc : CX c μ) (b : Nat) (S : St) : knB μ tw b S = knB c tw b S := by
  unfold knB
  rw [hc.row (a := 3) (by omega) (by omega)]
theorem turnP_cx {c μ tw : MI} (hc : CX c μ) (t b : Nat) (S : St) : turnP μ tw t b S = turnP c tw t b S := by
  unfold turnP tipP fallP brookB knB
  rw [hc.row (a := 3) (by omega) (by omega), hc.row (a := 4) (by omega) (by omega), hc.row (a := 5) (by omega) (by omega), hc.row (a := 6) (by omega) (by omega)]
theorem turnsP_cx {c μ tw : MI} (hc : CX c μ) (t : Nat) (S : St) : ∀ k, turnsP μ tw t k S = turnsP c tw t k S
  | 0 => rfl
  | k + 1 => by rw [turnsP, turnsP, turnP_cx hc, turnsP_cx hc t S k]
theorem wateredP_cx {c μ tw : MI} (hc : CX c μ) (t : Nat) (S : St) : wateredP μ tw t S = wateredP c tw t S := by
  unfold wateredP dryT
  rw [hc.row (a := 1) (by omega) (by omega), hc.row (a := 2) (by omega) (by omega), hc.row (a := 7) (by omega) (by omega), dripsP_cx hc]
theorem stepP_cx {c μ tw : MI} (hc : CX c μ) (t : Nat) (S : St) : stepP μ tw t S = stepP c tw t S := by
  unfold stepP
  rw [hc.row (a := 2) (by omega) (by omega), turnsP_cx hc, wateredP_cx hc]
theorem setP_cx {c μ tw : MI} (hc : CX c μ) (t : Nat) (S : St) : setP μ tw t S = setP c tw t S := by
  funext b
  unfold setP
  rw [knB_cx hc, turnsP_cx hc, wateredP_cx hc]
theorem runP_cx {c μ tw : MI} (hc : CX c μ) : ∀ t, runP μ tw t = runP c tw t
  | 0 => rfl
  | t + 1 => by rw [runP, runP, runP_cx hc t, stepP_cx hc]
theorem knockN_cx {c μ tw : MI} (hc : CX c μ) (t : Nat) : knockN μ tw t = knockN c tw t := by
  unfold knockN
  rw [hc.row (a := 2) (by omega) (by omega), runP_cx hc, setP_cx hc]
/-! what comes, ahead of a tick -/
theorem turnP_C2 {c tw : MI} {t b : Nat} {S : St} {a j : Nat} (h : ¬ c 5 b < 0 → N (c 5 b) ≠ a) : sC (turnP c tw t b S) a j = sC S a j := by
  unfold turnP
  split
  · rfl
  · split
    · show sC (fallP c tw b S) a j = _
      unfold fallP
      split
      · rfl
      · next h3 =>
        have h2 : ¬ c 5 b < 0 := fun q => h3 (by unfold brookB; simp [q])
        exact up2_a _ _ (fun e => h h2 e.symm)
    · rfl
theorem turnsP_C2 {c tw : MI} {t : Nat} {S : St} {a j : Nat} : ∀ k, (∀ b, b < k → ¬ c 5 b < 0 → N (c 5 b) ≠ a) → sC (turnsP c tw t k S) a j = sC S a j
  | 0, _ => rfl
  | k + 1, h => by rw [turnsP, turnP_C2 (h k (by omega)), turnsP_C2 k (fun b hb => h b (by omega))]
theorem GC_step {c tw : MI} (hC : WC c) {t : Nat} {S : St} (h : GC (N (c 2 0)) S) : GC (N (c 2 0)) (stepP c tw t S) := by
  have hdel : ∀ b, b < N (c 2 0) → ¬ c 5 b < 0 → 0 < N (c 6 b) ∧ N (c 6 b) ≤ 20 := fun b hb h => ⟨(hC.pipe hb h).2.2.2, (hC.pipe hb h).2.2.1.2⟩
  refine ⟨fun b j hb hj => ?_, fun b hnb hb j => ?_⟩
  · show sC (turnsP c tw t (N (c 2 0)) (wateredP c tw t S)) b (j + 1) = 0
    rw [turnsP_C (Or.inr (by omega)) _ hdel, wateredP_C, if_neg (by omega)]
    exact h.1 b (j + 1) hb (by omega)
  · show sC (turnsP c tw t (N (c 2 0)) (wateredP c tw t S)) b (j + 1) = 0
    rw [turnsP_C2 _ (fun k hk h5 => by have := (hC.pipe hk h5).2.1; omega), wateredP_C, if_neg (by omega)]
    exact h.2 b hnb hb (j + 1)
theorem GC_S0 (nb : Nat) : GC nb S0 := ⟨fun _ _ _ _ => rfl, fun _ _ _ _ => rfl⟩
theorem GC_run {c tw : MI} (hC : WC c) : ∀ t, GC (N (c 2 0)) (runP c tw t)
  | 0 => GC_S0 _
  | t + 1 => GC_step hC (GC_run hC t)
/-- the step, over what was told as in c -/
theorem c_stepC {f w t : Nat} (hF : FlowAt f w) {S : St} {c tw μ : MI} {ν : ML} {P : Po} (ht : t < 9000) (hC : WC c) (hc : CX c μ) (hT : TW w tw μ) (hR : RX f t S μ) (hG : GC (N (c 2 0)) S) (hP : ∀ μ', RX f (t + 1) (stepP c tw t S) μ' → Fr f 14 μ μ' → P (some (.int (nI (bitsN (setP c tw t S) (N (c 2 0)))))) μ' ν) : Ct mX2_step 3 [.ref f] μ ν P := by
  have e2 : μ 2 0 = c 2 0 := hc 2 (by omega) (by omega) 0
  refine c_step hF ht (hC.cx hc) hT hR (by rw [e2]; exact hG) (fun μ' h1 h2 => ?_)
  rw [e2, setP_cx hc]
  rw [stepP_cx hc] at h1
  exact hP μ' h1 h2
theorem TW.fr {w : Nat} {tw μ μ' : MI} {lo n : Nat} (h : TW w tw μ) (hl : w + 5 ≤ lo) (hF : Fr lo n μ μ') : TW w tw μ' :=
  ⟨(hF w (Or.inl (by omega)) 0).trans h.1, fun s hs => ⟨(hF (w + 1) (Or.inl (by omega)) s).trans (h.2.1 s hs).1, (hF (w + 2) (Or.inl (by omega)) s).trans (h.2.1 s hs).2⟩, fun b hb => ⟨(hF (w + 3) (Or.inl (by omega)) b).trans (h.2.2 b hb).1, (hF (w + 4) (Or.inl (by omega)) b).trans (h.2.2 b hb).2⟩⟩
theorem RX.fr {f t : Nat} {S : St} {μ μ' : MI} {lo n : Nat} (h : RX f t S μ) (hl : f + 14 ≤ lo ∨ lo + n ≤ f) (hF : Fr lo n μ μ') : RX f t S μ' := by
  have e : ∀ a, a < 14 → ∀ j, μ' (f + a) j = μ (f + a) j := fun a ha j => hF (f + a) (by omega) j
  refine ⟨⟨(e 0 (by omega) 2).trans h.1.1, (e 0 (by omega) 3).trans h.1.2.1, (e 0 (by omega) 4).trans h.1.2.2.1, (e 0 (by omega) 5).trans h.1.2.2.2⟩, fun b hb => ?_, fun b hb => ?_⟩
  · obtain ⟨h1, h2, h3, h4, h5⟩ := h.2.1 b hb
    exact ⟨(e 1 (by omega) b).trans h1, (e 2 (by omega) b).trans h2, h3, (e 3 (by omega) b).trans h4, (e 4 (by omega) b).trans h5⟩
  · obtain ⟨h1, h2⟩ := h.2.2 b hb
    have e2 : ∀ j, μ' (f + 6 + b) j = μ (f + 6 + b) j := fun j => hF (f + 6 + b) (by omega) j
    exact ⟨(e2 _).trans h1, fun j h0 h20 => (e2 _).trans (h2 j h0 h20)⟩
theorem Fr.fill {lo n a m : Nat} {μ : MI} {x : Int32} (h1 : lo ≤ a) (h2 : a < lo + n) : Fr lo n μ (fillX μ a m x) := fun b hb j => fillX_a μ x j (by omega)
theorem c_begin {f w : Nat} (hF : FlowAt f w) {μ : MI} {ν : ML} {P : Po} (hP : ∀ μ', RX f 0 S0 μ' → Fr f 14 μ μ' → P none μ' ν) : Ct mX2_begin 1 [.ref f] μ ν P := by
  refine Ct.of (ls0 := [_, _]) (by decide) rfl (Nat.le_of_ble_eq_true rfl) rfl ?_
  have loop : ∀ (n i : Nat) (μ1 : MI), 8 - i < n → i ≤ 8 → Fr f 14 μ μ1 → (μ1 f 2 = nI 0 ∧ μ1 f 3 = 0 ∧ μ1 f 4 = 0 ∧ μ1 f 5 = 0) → (∀ b, b < 8 → μ1 (f + 1) b = 0 ∧ μ1 (f + 2) b = nI 0 ∧ μ1 (f + 3) b = 0 ∧ μ1 (f + 4) b = -1) → (∀ b, b < i → ∀ j, j < 20 → μ1 (f + 6 + b) j = 0) → AW mX2_begin (1, none) P 54 [some (.ref f), some (.int (nI i))] [] μ1 ν := by
    intro n
    induction n with
    | zero => intro i μ1 h; omega
    | succ n ih =>
      intro i μ1 hn hi hF1 h1 h2 h3
      refine A_iload_n dX2_begin_54 rfl ?_
      refine A_bipush (v := nI 8) dX2_begin_55 (by decide +kernel) ?_
      refine A_icmp_geN (tgt := 76) dX2_begin_57 (by decide) (by omega) (by omega) (fun b57 => ?_) (fun b57 => ?_)
      · refine A_vret dX2_begin_76 rfl ?_
        refine hP μ1 ⟨h1, fun b hb => ?_, fun b hb => ?_⟩ hF1
        · obtain ⟨q1, q2, q3, q4⟩ := h2 b hb
          exact ⟨q1, q2, Nat.zero_le _, q3, q4⟩
        · refine ⟨(h3 b (by omega) _ (by omega)).trans (show (0 : Int32) = (0 : Int32) + 0 by decide +kernel), fun j h0 h20 => h3 b (by omega) _ (by omega)⟩
      · refine A_aload_n dX2_begin_60 rfl ?_
        refine A_getR dX2_begin_61 flX2_26 hF.l0 rfl ?_
        refine A_iload_n dX2_begin_64 rfl ?_
        refine A_aald (j := i) dX2_begin_65 hF.l5 rfl b57 (by decide) (row_get f b57) ?_
        refine A_iconst (v := nI 0) dX2_begin_66 (by decide +kernel) ?_
        refine A_callS2 dX2_begin_67 mlX2_37 (by decide) (Nat.le_of_ble_eq_true rfl) (c_fill _ (hF.row b57) (by omega) ?_)
        refine Kn.v ?_
        refine A_iincN (ls1 := [_, _]) dX2_begin_70 rfl (by decide) rfl rfl ?_
        refine A_goto (tgt := 54) dX2_begin_73 (by decide) ?_
        refine ih (i + 1) _ (by omega) (by omega) (hF1.tr (Fr.fill (by omega) (by omega))) ?_ (fun b hb => ?_) (fun b hb j hj => ?_)
        · simp (disch := omega) only [fillX_a]; exact h1
        · simp (disch := omega) only [fillX_a]; exact h2 b hb
        · by_cases e : b = i
          · subst e
            exact fillX_in _ _ hj
          · rw [fillX_a _ _ _ (by omega)]
            exact h3 b (by omega) j hj
  refine A_aload_n dX2_begin_0 rfl ?_
  refine A_iconst (v := nI 0) dX2_begin_1 (by decide +kernel) ?_
  refine A_put dX2_begin_2 fpX2_43 hF.l0 rfl rfl rfl ?_
  refine A_aload_n dX2_begin_5 rfl ?_
  refine A_iconst (v := nI 0) dX2_begin_6 (by decide +kernel) ?_
  refine A_put dX2_begin_7 fpX2_47 hF.l0 rfl rfl rfl ?_
  refine A_aload_n dX2_begin_10 rfl ?_
  refine A_iconst (v := nI 0) dX2_begin_11 (by decide +kernel) ?_
  refine A_put dX2_begin_12 fpX2_50 hF.l0 rfl rfl rfl ?_
  refine A_aload_n dX2_begin_15 rfl ?_
  refine A_iconst (v := nI 0) dX2_begin_16 (by decide +kernel) ?_
  refine A_put dX2_begin_17 fpX2_53 hF.l0 rfl rfl rfl ?_
  refine A_aload_n dX2_begin_20 rfl ?_
  refine A_getR dX2_begin_21 flX2_9 hF.l0 rfl ?_
  refine A_iconst (v := nI 0) dX2_begin_24 (by decide +kernel) ?_
  refine A_callS2 dX2_begin_25 mlX2_37 (by decide) (Nat.le_of_ble_eq_true rfl) (c_fill _ hF.l1 (by omega) ?_)
  refine Kn.v ?_
  refine A_aload_n dX2_begin_28 rfl ?_
  refine A_getR dX2_begin_29 flX2_15 hF.l0 rfl ?_
  refine A_iconst (v := nI 0) dX2_begin_32 (by decide +kernel) ?_
  refine A_callS2 dX2_begin_33 mlX2_37 (by decide) (Nat.le_of_ble_eq_true rfl) (c_fill _ hF.l2 (by omega) ?_)
  refine Kn.v ?_
  refine A_aload_n dX2_begin_36 rfl ?_
  refine A_getR dX2_begin_37 flX2_18 hF.l0 rfl ?_
  refine A_iconst (v := nI 0) dX2_begin_40 (by decide +kernel) ?_
  refine A_callS2 dX2_begin_41 mlX2_37 (by decide) (Nat.le_of_ble_eq_true rfl) (c_fill _ hF.l3 (by omega) ?_)
  refine Kn.v ?_
  refine A_aload_n dX2_begin_44 rfl ?_
  refine A_getR dX2_begin_45 flX2_21 hF.l0 rfl ?_
  refine A_iconst (v := (-1)) dX2_begin_48 (by decide +kernel) ?_
  refine A_callS2 dX2_begin_49 mlX2_37 (by decide) (Nat.le_of_ble_eq_true rfl) (c_fill _ hF.l4 (by omega) ?_)
  refine Kn.v ?_
  refine A_iconst (v := nI 0) dX2_begin_52 (by decide +kernel) ?_
  refine A_istore_n (ls1 := [_, _]) dX2_begin_53 (by decide) rfl rfl ?_
  refine loop 9 0 _ (by omega) (by omega) ((((((((Fr.up (by omega) (by omega)).tr (Fr.up (by omega) (by omega))).tr (Fr.up (by omega) (by omega))).tr (Fr.up (by omega) (by omega))).tr (Fr.fill (by omega) (by omega))).tr (Fr.fill (by omega) (by omega))).tr (Fr.fill (by omega) (by omega))).tr (Fr.fill (by omega) (by omega))) ?_ (fun b hb => ?_) (fun b hb => by omega)
  · refine ⟨?_, ?_, ?_, ?_⟩ <;> (simp (disch := omega) only [fillX_a, up2_b, up2_s] <;> rfl)
  · refine ⟨?_, ?_, ?_, ?_⟩ <;> (simp (disch := omega) only [fillX_a, fillX_in] <;> rfl)
/-- the twist's cells and a flow's changed, no others -/
def Fq (f : Nat) (μ μ' : MI) : Prop := ∀ a, (a < 24 ∨ 29 ≤ a) → (a < f ∨ f + 14 ≤ a) → ∀ j, μ' a j = μ a j
theorem Fq.of {f : Nat} {μ μ' μ'' : MI} (h : Fr 24 5 μ μ') (h2 : Fr f 14 μ' μ'') : Fq f μ μ'' := fun a h3 h4 j => (h2 a h4 j).trans (h a h3 j)
theorem Fq.tr {f : Nat} {μ μ' μ'' : MI} (h : Fq f μ μ') (h2 : Fr f 14 μ' μ'') : Fq f μ μ'' := fun a h3 h4 j => (h2 a h4 j).trans (h a h3 h4 j)
theorem Fq.cx {f : Nat} {c μ μ' : MI} (hc : CX c μ) (hf : 29 ≤ f) (h : Fq f μ μ') : CX c μ' := fun k h1 h2 j => (h k (Or.inl (by omega)) (Or.inl (by omega)) j).trans (hc k h1 h2 j)
theorem c_runPlain {f n : Nat} (hF : FlowAt f 24) (hn : n < 3000) {c μ : MI} {ν : ML} {P : Po} (hC : WC c) (hc : CX c μ) (hP : ∀ μ', RX f n (runP c (tw0 (nI 1)) n) μ' → TW 24 (tw0 (nI 1)) μ' → Fq f μ μ' → P none μ' ν) : Ct mX9_runPlain 4 [.ref 0, .ref f, .int (nI n)] μ ν P := by
  have hr := hF.rng
  refine Ct.of (ls0 := [_, _, _, _]) (by decide) rfl (Nat.le_of_ble_eq_true rfl) rfl ?_
  have loop : ∀ (k i : Nat) (μ1 : MI), n - i < k → i ≤ n → Fq f μ μ1 → TW 24 (tw0 (nI 1)) μ1 → RX f i (runP c (tw0 (nI 1)) i) μ1 → AW mX9_runPlain (4, none) P 14 [some (.ref 0), some (.ref f), some (.int (nI n)), some (.int (nI i))] [] μ1 ν := by
    intro k
    induction k with
    | zero => intro i μ1 h; omega
    | succ k ih =>
      intro i μ1 hk hi hF1 hT1 hR1
      refine A_iload_n dX9_runPlain_14 rfl ?_
      refine A_iload_n dX9_runPlain_15 rfl ?_
      refine A_icmp_geN (tgt := 30) dX9_runPlain_16 (by decide) (by omega) (by omega) (fun b16 => ?_) (fun b16 => ?_)
      · refine A_vret dX9_runPlain_30 rfl ?_
        rw [show n = i by omega] at hP
        exact hP μ1 hR1 hT1 hF1
      · refine A_aload_n dX9_runPlain_19 rfl ?_
        refine A_callV0 dX9_runPlain_20 mlX9_163 (by decide) hF.l0 rfl (Nat.le_of_ble_eq_true rfl) (c_stepC hF (by omega) hC (hF1.cx hc (by omega)) hT1 hR1 (GC_run hC i) (fun μ2 hR2 hF2 => ?_))
        refine Kn.s ?_
        refine A_pop dX9_runPlain_23 rfl ?_
        refine A_iincN (ls1 := [_, _, _, _]) dX9_runPlain_24 rfl (by decide) rfl rfl ?_
        refine A_goto (tgt := 14) dX9_runPlain_27 (by decide) ?_
        exact ih (i + 1) μ2 (by omega) (by omega) (hF1.tr hF2) (hT1.fr (by omega) hF2) hR2
  refine A_aload_n dX9_runPlain_0 rfl ?_
  refine A_getR dX9_runPlain_1 flX9_28 rfl rfl ?_
  refine A_iconst (v := nI 1) dX9_runPlain_4 (by decide +kernel) ?_
  refine A_callV1 dX9_runPlain_5 mlX9_177 (by decide) rfl rfl (Nat.le_of_ble_eq_true rfl) (c_reset _ (Or.inr rfl) (fun μ1 hT1 hF1 => ?_))
  refine Kn.v ?_
  refine A_aload_n dX9_runPlain_8 rfl ?_
  refine A_callV0 dX9_runPlain_9 mlX9_172 (by decide) hF.l0 rfl (Nat.le_of_ble_eq_true rfl) (c_begin hF (fun μ2 hR2 hF2 => ?_))
  refine Kn.v ?_
  refine A_iconst (v := nI 0) dX9_runPlain_12 (by decide +kernel) ?_
  refine A_istore_n (ls1 := [_, _, _, _]) dX9_runPlain_13 (by decide) rfl rfl ?_
  exact loop (n + 1) 0 μ2 (by omega) (by omega) (Fq.of hF1 hF2) (hT1.fr (by omega) hF2) hR2
end
section
/-! bits; Integer.bitCount; likeness of flows; the round -/
def popN (k : Nat) : Nat → Nat
  | 0 => 0
  | m + 1 => popN k m + k / 2 ^ m % 2
def cntB (K : Nat → Bool) : Nat → Nat
  | 0 => 0
  | n + 1 => cntB K n + (if K n then 1 else 0)
theorem cntB_cong {K L : Nat → Bool} : ∀ {n : Nat}, (∀ k, k < n → K k = L k) → cntB K n = cntB L n
  | 0, _ => rfl
  | n + 1, h => by rw [cntB, cntB, cntB_cong (fun k hk => h k (by omega)), h n (by omega)]
theorem cntB_le (K : Nat → Bool) : ∀ n, cntB K n ≤ n
  | 0 => Nat.le_refl 0
  | n + 1 => by
    have := cntB_le K n
    rw [cntB]
    split <;> omega
theorem bitsN_div (K : Nat → Bool) (n b : Nat) : bitsN K n / 2 ^ b % 2 = if b < n ∧ K b = true then 1 else 0 := by
  have h := bitsN_bit K n b
  rw [Nat.testBit_eq_decide_div_mod_eq] at h
  by_cases e : b < n ∧ K b = true
  · rw [if_pos e]
    rw [show (decide (b < n) && K b) = true by simp [e.1, e.2]] at h
    exact of_decide_eq_true h
  · rw [if_neg e]
    rw [show (decide (b < n) && K b) = false by
      rw [Bool.and_eq_false_iff]
      by_cases h1 : b < n
      · exact Or.inr (by cases h2 : K b with | false => rfl | true => exact absurd ⟨h1, h2⟩ e)
      · exact Or.inl (by simp [h1])] at h
    have := of_decide_eq_false h
    omega
theorem popN_bits (K : Nat → Bool) (n : Nat) : ∀ m, popN (bitsN K n) m = cntB (fun b => decide (b < n) && K b) m
  | 0 => rfl
  | m + 1 => by
    rw [popN, cntB, popN_bits K n m, bitsN_div]
    congr 1
    by_cases e : m < n ∧ K m = true
    · rw [if_pos e, if_pos (by simp [e.1, e.2])]
    · rw [if_neg e, if_neg (by simpa using e)]
theorem cntB_ext (K : Nat → Bool) (n : Nat) : ∀ m, cntB (fun b => decide (b < n) && K b) (n + m) = cntB K n
  | 0 => cntB_cong (fun k hk => by simp [show k < n from hk])
  | m + 1 => by
    rw [← Nat.add_assoc, cntB, cntB_ext K n m]
    simp [show ¬ n + m < n by omega]
theorem popN_8 (K : Nat → Bool) {n : Nat} (h : n ≤ 8) : popN (bitsN K n) 8 = cntB K n := by
  have e := cntB_ext K n (8 - n)
  rw [show n + (8 - n) = 8 by omega] at e
  rw [popN_bits, e]
theorem ushr_bit (K : Nat → Bool) {n b : Nat} (hn : n ≤ 8) (hb : b < 8) : ((nI (bitsN K n)).toUInt32 >>> ((nI b).toUInt32 &&& Int32.toUInt32 31)).toInt32 &&& nI 1 = nI (if b < n ∧ K b = true then 1 else 0) := by
  have hl : bitsN K n < 256 := Nat.lt_of_lt_of_le (bitsN_lt K n) (Nat.pow_le_pow_right (by omega) hn)
  rw [nx_ush (by omega) (by omega), nx_and, Nat.and_one_is_mod, Nat.shiftRight_eq_div_pow, bitsN_div]
theorem sshr_bit (K : Nat → Bool) {n b : Nat} (hn : n ≤ 8) (hb : b < 8) : (nI (bitsN K n) >>> (nI b &&& 31)) &&& nI 1 = nI (if b < n ∧ K b = true then 1 else 0) := by
  have hl : bitsN K n < 256 := Nat.lt_of_lt_of_le (bitsN_lt K n) (Nat.pow_le_pow_right (by omega) hn)
  have hs : ∀ b, b < 8 → ((nI b &&& 31).toBitVec.smod 32).toNat = b := by decide +kernel
  rw [pk_shrN (by omega) _ b (hs b hb), nx_and, Nat.and_one_is_mod, bitsN_div]
def ush (x : Int32) (n : Nat) : Int32 := (x.toUInt32 >>> ((nI n).toUInt32 &&& Int32.toUInt32 31)).toInt32
def ib1 (x : Int32) : Int32 := x - (ush x 1 &&& 1431655765)
def ib2 (x : Int32) : Int32 := (x &&& 858993459) + (ush x 2 &&& 858993459)
def ib3 (x : Int32) : Int32 := (x + ush x 4) &&& 252645135
def ib4 (x : Int32) : Int32 := x + ush x 8
def ib5 (x : Int32) : Int32 := x + ush x 16
def ibc (x : Int32) : Int32 := ib5 (ib4 (ib3 (ib2 (ib1 x)))) &&& nI 63
theorem ibc_ok : ∀ k, k < 256 → ibc (nI k) = nI (popN k 8) := by decide +kernel
theorem c_ibc {k : Nat} (hk : k < 256) {μ : MI} {ν : ML} {P : Po} (hP : P (some (.int (nI (popN k 8)))) μ ν) : Ct mJ6_bitCount_0f7a4 0 [.int (nI k)] μ ν P := by
  rw [← ibc_ok k hk] at hP
  refine Ct.of (ls0 := [_]) (by decide) rfl (Nat.le_of_ble_eq_true rfl) rfl ?_
  refine A_iload_n dJ6_bitCount_0f7a4_0 rfl ?_
  refine A_iload_n dJ6_bitCount_0f7a4_1 rfl ?_
  refine A_iconst (v := nI 1) dJ6_bitCount_0f7a4_2 (by decide +kernel) ?_
  refine A_iushr dJ6_bitCount_0f7a4_3 ?_
  refine A_ldcw dJ6_bitCount_0f7a4_4 kcJ6_265 ?_
  refine A_iand dJ6_bitCount_0f7a4_7 ?_
  refine A_isub dJ6_bitCount_0f7a4_8 ?_
  refine A_istore_n (ls1 := [_]) dJ6_bitCount_0f7a4_9 (by decide) rfl rfl ?_
  refine A_iload_n dJ6_bitCount_0f7a4_10 rfl ?_
  refine A_ldcw dJ6_bitCount_0f7a4_11 kcJ6_266 ?_
  refine A_iand dJ6_bitCount_0f7a4_14 ?_
  refine A_iload_n dJ6_bitCount_0f7a4_15 rfl ?_
  refine A_iconst (v := nI 2) dJ6_bitCount_0f7a4_16 (by decide +kernel) ?_
  refine A_iushr dJ6_bitCount_0f7a4_17 ?_
  refine A_ldcw dJ6_bitCount_0f7a4_18 kcJ6_266 ?_
  refine A_iand dJ6_bitCount_0f7a4_21 ?_
  refine A_iadd dJ6_bitCount_0f7a4_22 ?_
  refine A_istore_n (ls1 := [_]) dJ6_bitCount_0f7a4_23 (by decide) rfl rfl ?_
  refine A_iload_n dJ6_bitCount_0f7a4_24 rfl ?_
  refine A_iload_n dJ6_bitCount_0f7a4_25 rfl ?_
  refine A_iconst (v := nI 4) dJ6_bitCount_0f7a4_26 (by decide +kernel) ?_
  refine A_iushr dJ6_bitCount_0f7a4_27 ?_
  refine A_iadd dJ6_bitCount_0f7a4_28 ?_
  refine A_ldcw dJ6_bitCount_0f7a4_29 kcJ6_267 ?_
  refine A_iand dJ6_bitCount_0f7a4_32 ?_
  refine A_istore_n (ls1 := [_]) dJ6_bitCount_0f7a4_33 (by decide) rfl rfl ?_
  refine A_iload_n dJ6_bitCount_0f7a4_34 rfl ?_
  refine A_iload_n dJ6_bitCount_0f7a4_35 rfl ?_
  refine A_bipush (v := nI 8) dJ6_bitCount_0f7a4_36 (by decide +kernel) ?_
  refine A_iushr dJ6_bitCount_0f7a4_38 ?_
  refine A_iadd dJ6_bitCount_0f7a4_39 ?_
  refine A_istore_n (ls1 := [_]) dJ6_bitCount_0f7a4_40 (by decide) rfl rfl ?_
  refine A_iload_n dJ6_bitCount_0f7a4_41 rfl ?_
  refine A_iload_n dJ6_bitCount_0f7a4_42 rfl ?_
  refine A_bipush (v := nI 16) dJ6_bitCount_0f7a4_43 (by decide +kernel) ?_
  refine A_iushr dJ6_bitCount_0f7a4_45 ?_
  refine A_iadd dJ6_bitCount_0f7a4_46 ?_
  refine A_istore_n (ls1 := [_]) dJ6_bitCount_0f7a4_47 (by decide) rfl rfl ?_
  refine A_iload_n dJ6_bitCount_0f7a4_48 rfl ?_
  refine A_bipush (v := nI 63) dJ6_bitCount_0f7a4_49 (by decide +kernel) ?_
  refine A_iand dJ6_bitCount_0f7a4_51 ?_
  refine A_iret dJ6_bitCount_0f7a4_52 rfl rfl ?_
  exact hP
theorem RX.com {f t b j : Nat} {S : St} {μ : MI} (h : RX f t S μ) (hb : b < 8) (hz : sC S b 20 = 0) (hj : j < 20) : μ (f + 6 + b) ((t + j) % 20) = sC S b j := by
  obtain ⟨h1, h2⟩ := h.2.2 b hb
  rcases Nat.eq_zero_or_pos j with rfl | q
  · rw [show t + 0 = t from rfl, h1, hz]
    exact Int32.add_zero _
  · exact h2 j q hj
def comB (S T : St) (b : Nat) : Bool := allB (fun i => decide (sC S b i = sC T b i)) 20
def likeB (nb : Nat) (S T : St) : Bool := allB (fun b => decide (sH S b = sH T b) && (decide (sD S b = sD T b) && comB S T b)) nb
theorem c_hasComing {f g w x t u b : Nat} (hF : FlowAt f w) (hG : FlowAt g x) (ht : t < 10000) (hu : u < 10000) (hb : b < 8) {S T : St} {μ : MI} {ν : ML} {P : Po} (hS : RX f t S μ) (hT : RX g u T μ) (hz : sC S b 20 = 0) (hz2 : sC T b 20 = 0) (h1 : comB S T b = true → P (some (.int (nI 1))) μ ν) (h0 : comB S T b = false → P (some (.int (nI 0))) μ ν) : Ct mX2_hasComing 0 [.ref f, .int (nI b), .ref g] μ ν P := by
  refine Ct.of (ls0 := [_, _, _, _]) (by decide) rfl (Nat.le_of_ble_eq_true rfl) rfl ?_
  have loop : ∀ (n i : Nat), 20 - i < n → i ≤ 20 → allB (fun i => decide (sC S b i = sC T b i)) i = true → AW mX2_hasComing (0, none) P 2 [some (.ref f), some (.int (nI b)), some (.ref g), some (.int (nI i))] [] μ ν := by
    intro n
    induction n with
    | zero => intro i h; omega
    | succ n ih =>
      intro i hn hi ha
      refine A_iload_n dX2_hasComing_2 rfl ?_
      refine A_bipush (v := nI 20) dX2_hasComing_3 (by decide +kernel) ?_
      refine A_icmp_geN (tgt := 51) dX2_hasComing_5 (by decide) (by omega) (by omega) (fun b5 => ?_) (fun b5 => ?_)
      · refine A_iconst (v := nI 1) dX2_hasComing_51 (by decide +kernel) ?_
        refine A_iret dX2_hasComing_52 rfl (by decide +kernel) ?_
        exact h1 (by rw [show i = 20 by omega] at ha; exact ha)
      · have hm1 : (t + i) % 20 < 20 := Nat.mod_lt _ (by omega)
        have hm2 : (u + i) % 20 < 20 := Nat.mod_lt _ (by omega)
        refine A_aload_n dX2_hasComing_8 rfl ?_
        refine A_getR dX2_hasComing_9 flX2_26 hF.l0 rfl ?_
        refine A_iload_n dX2_hasComing_12 rfl ?_
        refine A_aald (j := b) dX2_hasComing_13 hF.l5 rfl hb (by decide) (row_get f hb) ?_
        refine A_aload_n dX2_hasComing_14 rfl ?_
        refine A_getI dX2_hasComing_15 flX2_43 hF.l0 rfl ?_
        rw [hS.1.1]
        refine A_iload_n dX2_hasComing_18 rfl ?_
        refine A_iaddN dX2_hasComing_19 ?_
        refine A_bipush (v := nI 20) dX2_hasComing_20 (by decide +kernel) ?_
        refine A_iremN dX2_hasComing_22 (by omega) (by omega) (by omega) ?_
        refine A_ialdN (j := (t + i) % 20) dX2_hasComing_23 (hF.row hb) rfl hm1 (by decide) ?_
        rw [hS.com hb hz b5]
        refine A_aload_n dX2_hasComing_24 rfl ?_
        refine A_getR dX2_hasComing_25 flX2_26 hG.l0 rfl ?_
        refine A_iload_n dX2_hasComing_28 rfl ?_
        refine A_aald (j := b) dX2_hasComing_29 hG.l5 rfl hb (by decide) (row_get g hb) ?_
        refine A_aload_n dX2_hasComing_30 rfl ?_
        refine A_getI dX2_hasComing_31 flX2_43 hG.l0 rfl ?_
        rw [hT.1.1]
        refine A_iload_n dX2_hasComing_34 rfl ?_
        refine A_iaddN dX2_hasComing_35 ?_
        refine A_bipush (v := nI 20) dX2_hasComing_36 (by decide +kernel) ?_
        refine A_iremN dX2_hasComing_38 (by omega) (by omega) (by omega) ?_
        refine A_ialdN (j := (u + i) % 20) dX2_hasComing_39 (hG.row hb) rfl hm2 (by decide) ?_
        rw [hT.com hb hz2 b5]
        refine A_icmp_eq (tgt := 45) dX2_hasComing_40 (by decide) (fun b40 => ?_) (fun b40 => ?_)
        · refine A_iincN (ls1 := [_, _, _, _]) dX2_hasComing_45 rfl (by decide) rfl rfl ?_
          refine A_goto (tgt := 2) dX2_hasComing_48 (by decide) ?_
          exact ih (i + 1) (by omega) (by omega) (by rw [allB, ha]; simp [b40])
        · refine A_iconst (v := nI 0) dX2_hasComing_43 (by decide +kernel) ?_
          refine A_iret dX2_hasComing_44 rfl (by decide +kernel) ?_
          exact h0 (allB_f (k := i) b5 (by simpa using b40))
  refine A_iconst (v := nI 0) dX2_hasComing_0 (by decide +kernel) ?_
  refine A_istore_n (ls1 := [_, _, _, _]) dX2_hasComing_1 (by decide) rfl rfl ?_
  exact loop 21 0 (by omega) (by omega) rfl
theorem c_isLike {f g w x t u : Nat} (hF : FlowAt f w) (hG : FlowAt g x) (ht : t < 10000) (hu : u < 10000) {S T : St} {c μ : MI} {ν : ML} {P : Po} (hC : WC c) (hc : CX c μ) (hS : RX f t S μ) (hT : RX g u T μ) (hz : GC (N (c 2 0)) S) (hz2 : GC (N (c 2 0)) T) (h1 : likeB (N (c 2 0)) S T = true → P (some (.int (nI 1))) μ ν) (h0 : likeB (N (c 2 0)) S T = false → P (some (.int (nI 0))) μ ν) : Ct mX2_isLike 1 [.ref f, .ref g] μ ν P := by
  have hnb := hC.1.1
  have hnb8 := hnb.2
  refine Ct.of (ls0 := [_, _, _]) (by decide) rfl (Nat.le_of_ble_eq_true rfl) rfl ?_
  have loop : ∀ (n i : Nat), N (c 2 0) - i < n → i ≤ N (c 2 0) → allB (fun b => decide (sH S b = sH T b) && (decide (sD S b = sD T b) && comB S T b)) i = true → AW mX2_isLike (1, none) P 2 [some (.ref f), some (.ref g), some (.int (nI i))] [] μ ν := by
    intro n
    induction n with
    | zero => intro i h; omega
    | succ n ih =>
      intro i hn hi ha
      refine A_iload_n dX2_isLike_2 rfl ?_
      refine A_aload_n dX2_isLike_3 rfl ?_
      refine A_getR dX2_isLike_4 flX2_29 hF.l0 rfl ?_
      refine A_getR dX2_isLike_7 flX2_142 rfl rfl ?_
      refine A_getI dX2_isLike_10 flX2_146 rfl rfl ?_
      rw [(hc 2 (by omega) (by omega) 0), hnb.1]
      refine A_icmp_geN (tgt := 63) dX2_isLike_13 (by decide) (by omega) (by omega) (fun b13 => ?_) (fun b13 => ?_)
      · refine A_iconst (v := nI 1) dX2_isLike_63 (by decide +kernel) ?_
        refine A_iret dX2_isLike_64 rfl (by decide +kernel) ?_
        exact h1 (by rw [show i = N (c 2 0) by omega] at ha; exact ha)
      · have hi8 : i < 8 := by omega
        obtain ⟨g1, g2, g3, -⟩ := hS.2.1 i hi8
        obtain ⟨k1, k2, k3, -⟩ := hT.2.1 i hi8
        refine A_aload_n dX2_isLike_16 rfl ?_
        refine A_getR dX2_isLike_17 flX2_9 hF.l0 rfl ?_
        refine A_iload_n dX2_isLike_20 rfl ?_
        refine A_ialdN (j := i) dX2_isLike_21 hF.l1 rfl hi8 (by decide) ?_
        rw [g1]
        refine A_aload_n dX2_isLike_22 rfl ?_
        refine A_getR dX2_isLike_23 flX2_9 hG.l0 rfl ?_
        refine A_iload_n dX2_isLike_26 rfl ?_
        refine A_ialdN (j := i) dX2_isLike_27 hG.l1 rfl hi8 (by decide) ?_
        rw [k1]
        refine A_icmp_ne (tgt := 55) dX2_isLike_28 (by decide) (fun b28 => ?_) (fun b28 => ?_)
        · refine A_iconst (v := nI 0) dX2_isLike_55 (by decide +kernel) ?_
          refine A_iret dX2_isLike_56 rfl (by decide +kernel) ?_
          exact h0 (allB_f (k := i) b13 (by simp [b28]))
        · refine A_aload_n dX2_isLike_31 rfl ?_
          refine A_getR dX2_isLike_32 flX2_15 hF.l0 rfl ?_
          refine A_iload_n dX2_isLike_35 rfl ?_
          refine A_ialdN (j := i) dX2_isLike_36 hF.l2 rfl hi8 (by decide) ?_
          rw [g2]
          refine A_aload_n dX2_isLike_37 rfl ?_
          refine A_getR dX2_isLike_38 flX2_15 hG.l0 rfl ?_
          refine A_iload_n dX2_isLike_41 rfl ?_
          refine A_ialdN (j := i) dX2_isLike_42 hG.l2 rfl hi8 (by decide) ?_
          rw [k2]
          refine A_icmp_neN (tgt := 55) dX2_isLike_43 (by decide) (by omega) (by omega) (fun b43 => ?_) (fun b43 => ?_)
          · refine A_iconst (v := nI 0) dX2_isLike_55 (by decide +kernel) ?_
            refine A_iret dX2_isLike_56 rfl (by decide +kernel) ?_
            exact h0 (allB_f (k := i) b13 (by simp [b43]))
          · refine A_aload_n dX2_isLike_46 rfl ?_
            refine A_iload_n dX2_isLike_47 rfl ?_
            refine A_aload_n dX2_isLike_48 rfl ?_
            refine A_callV2 dX2_isLike_49 mlX2_176 (by decide) hF.l0 rfl (Nat.le_of_ble_eq_true rfl) (c_hasComing hF hG ht hu hi8 hS hT (hz.1 i 20 hi8 (by omega)) (hz2.1 i 20 hi8 (by omega)) (fun q => ?_) (fun q => ?_))
            · refine Kn.s ?_
              refine A_if_ne (tgt := 57) dX2_isLike_52 (by decide) (fun _ => ?_) (fun h => absurd h (by decide +kernel))
              refine A_iincN (ls1 := [_, _, _]) dX2_isLike_57 rfl (by decide) rfl rfl ?_
              refine A_goto (tgt := 2) dX2_isLike_60 (by decide) ?_
              exact ih (i + 1) (by omega) (by omega) (by rw [allB, ha]; simp [b28, b43, q])
            · refine Kn.s ?_
              refine A_if_ne (tgt := 57) dX2_isLike_52 (by decide) (fun h => absurd h (by decide +kernel)) (fun _ => ?_)
              refine A_iconst (v := nI 0) dX2_isLike_55 (by decide +kernel) ?_
              refine A_iret dX2_isLike_56 rfl (by decide +kernel) ?_
              exact h0 (allB_f (k := i) b13 (by simp [q]))
  refine A_iconst (v := nI 0) dX2_isLike_0 (by decide +kernel) ?_
  refine A_istore_n (ls1 := [_, _, _]) dX2_isLike_1 (by decide) rfl rfl ?_
  exact loop (N (c 2 0) + 1) 0 (by omega) (by omega) rfl
/-- the class's scratch alone changed: the twist, the blame, the two trial flows -/
def Sc (μ μ' : MI) : Prop := ∀ a, (a < 24 ∨ (29 ≤ a ∧ a ≠ 32 ∧ a < 47) ∨ 75 ≤ a) → ∀ j, μ' a j = μ a j
theorem Sc.rf (μ : MI) : Sc μ μ := fun _ _ _ => rfl
theorem Sc.tr {μ μ' μ'' : MI} (h : Sc μ μ') (h2 : Sc μ' μ'') : Sc μ μ'' := fun a ha j => (h2 a ha j).trans (h a ha j)
theorem Sc.fr {μ μ' : MI} {lo n : Nat} (hF : Fr lo n μ μ') (h : (24 ≤ lo ∧ lo + n ≤ 29) ∨ (47 ≤ lo ∧ lo + n ≤ 75)) : Sc μ μ' := fun a ha j => hF a (by omega) j
theorem Sc.fq {μ μ' : MI} {f : Nat} (hF : Fq f μ μ') (h : 47 ≤ f ∧ f ≤ 61) : Sc μ μ' := fun a ha j => hF a (by omega) (by omega) j
theorem Sc.cx {c μ μ' : MI} (hc : CX c μ) (h : Sc μ μ') : CX c μ' := fun k h1 h2 j => (h k (Or.inl (by omega)) j).trans (hc k h1 h2 j)
abbrev plP : MI := tw0 (nI 1)
/-- the course comes again after n ticks, seen from tick 1000 on -/
def goodL (c : MI) (n : Nat) : Bool := beatB c n && likeB (N (c 2 0)) (runP c plP (1000 + n)) (runP c plP 1000)
theorem beatB_cx {c μ : MI} (hc : CX c μ) (n : Nat) : beatB μ n = beatB c n := by
  unfold beatB
  rw [hc.row (a := 1) (by omega) (by omega), hc.row (a := 7) (by omega) (by omega), hc.row (a := 10) (by omega) (by omega)]
theorem RX.ext {f t : Nat} {S : St} {μ μ' : MI} (h : RX f t S μ) (e : ∀ a, a < 14 → ∀ j, μ' (f + a) j = μ (f + a) j) : RX f t S μ' := by
  refine ⟨⟨(e 0 (by omega) 2).trans h.1.1, (e 0 (by omega) 3).trans h.1.2.1, (e 0 (by omega) 4).trans h.1.2.2.1, (e 0 (by omega) 5).trans h.1.2.2.2⟩, fun b hb => ?_, fun b hb => ?_⟩
  · obtain ⟨h1, h2, h3, h4, h5⟩ := h.2.1 b hb
    exact ⟨(e 1 (by omega) b).trans h1, (e 2 (by omega) b).trans h2, h3, (e 3 (by omega) b).trans h4, (e 4 (by omega) b).trans h5⟩
  · obtain ⟨h1, h2⟩ := h.2.2 b hb
    have e2 : ∀ j, μ' (f + 6 + b) j = μ (f + 6 + b) j := fun j => by
      have := e (6 + b) (by omega) j
      rwa [← Nat.add_assoc] at this
    exact ⟨(e2 _).trans h1, fun j h0 h20 => (e2 _).trans (h2 j h0 h20)⟩
theorem RX.fq {f g t : Nat} {S : St} {μ μ' : MI} (h : RX f t S μ) (hl : f + 14 ≤ g ∨ g + 14 ≤ f) (hf : 29 ≤ f) (hF : Fq g μ μ') : RX f t S μ' := h.ext (fun a ha j => hF (f + a) (by omega) (by omega) j)
theorem RX.sc {t : Nat} {S : St} {μ μ' : MI} (h : RX 33 t S μ) (hF : Sc μ μ') : RX 33 t S μ' := h.ext (fun a ha j => hF (33 + a) (by omega) j)
theorem c_roundLength {c μ : MI} {ν : ML} {P : Po} (hC : WC c) (hc : CX c μ) (h1 : ∀ n μ', 1 ≤ n → n ≤ 1000 → goodL c n = true → (∀ m, 1 ≤ m → m < n → goodL c m = false) → Sc μ μ' → P (some (.int (nI n))) μ' ν) (h0 : ∀ μ', (∀ m, 1 ≤ m → m ≤ 1000 → goodL c m = false) → Sc μ μ' → P (some (.int (-1))) μ' ν) : Ct mX9_roundLength 5 [.ref 0] μ ν P := by
  refine Ct.of (ls0 := [_, _]) (by decide) rfl (Nat.le_of_ble_eq_true rfl) rfl ?_
  have hns := hC.2.1.1
  have hdr := hC.2.2.2.2
  have loop : ∀ (k i : Nat) (μ1 : MI), 1001 - i < k → 1 ≤ i → i ≤ 1001 → Sc μ μ1 → TW 24 plP μ1 → RX 47 1000 (runP c plP 1000) μ1 → RX 61 (1000 + (i - 1)) (runP c plP (1000 + (i - 1))) μ1 → (∀ m, 1 ≤ m → m < i → goodL c m = false) → AW mX9_roundLength (5, none) P 24 [some (.ref 0), some (.int (nI i))] [] μ1 ν := by
    intro k
    induction k with
    | zero => intro i μ1 h; omega
    | succ k ih =>
      intro i μ1 hk hi1 hi hS1 hT1 hR1 hR2 hg
      have hc1 := hS1.cx hc
      have hstep : runP c plP (1000 + i) = stepP c plP (1000 + (i - 1)) (runP c plP (1000 + (i - 1))) := by
        rw [show 1000 + i = 1000 + (i - 1) + 1 by omega]
        rfl
      refine A_iload_n dX9_roundLength_24 rfl ?_
      refine A_sipush (v := nI 1000) dX9_roundLength_25 (by decide +kernel) ?_
      refine A_icmp_gtN (tgt := 72) dX9_roundLength_28 (by decide) (by omega) (by omega) (fun b28 => ?_) (fun b28 => ?_)
      · refine A_iconst (v := (-1)) dX9_roundLength_72 (by decide +kernel) ?_
        refine A_iret dX9_roundLength_73 rfl rfl ?_
        exact h0 μ1 (fun m hm hm2 => hg m hm (by omega)) hS1
      · refine A_aload_n dX9_roundLength_31 rfl ?_
        refine A_getR dX9_roundLength_32 flX9_35 rfl rfl ?_
        refine A_callV0 dX9_roundLength_35 mlX9_163 (by decide) rfl rfl (Nat.le_of_ble_eq_true rfl) (c_stepC flow_61 (by omega) hC hc1 hT1 hR2 (GC_run hC _) (fun μ2 hR3 hF2 => ?_))
        refine Kn.s ?_
        refine A_pop dX9_roundLength_38 rfl ?_
        have hc2 := hc1.fr (by omega) hF2
        have hR4 := hR1.fr (Or.inl (by omega)) hF2
        rw [← hstep, show 1000 + (i - 1) + 1 = 1000 + i by omega] at hR3
        refine A_aload_n dX9_roundLength_39 rfl ?_
        refine A_getR dX9_roundLength_40 flX9_12 rfl rfl ?_
        refine A_iload_n dX9_roundLength_43 rfl ?_
        refine A_callV1 dX9_roundLength_44 mlX9_242 (by decide) rfl rfl (Nat.le_of_ble_eq_true rfl) (c_isBeat (by omega) ((hc2 7 (by omega) (by omega) 0).trans hns.1) hns.2 (fun s hs => by rw [hc2 10 (by omega) (by omega) s]; exact (hC.2.1.2 s hs).2.1.1) ((hc2 1 (by omega) (by omega) 4).trans hdr.1) hdr.2 (fun q => ?_) (fun q => ?_))
        · refine Kn.s ?_
          refine A_if_eq (tgt := 66) dX9_roundLength_47 (by decide) (fun h => absurd h (by decide +kernel)) (fun _ => ?_)
          refine A_aload_n dX9_roundLength_50 rfl ?_
          refine A_getR dX9_roundLength_51 flX9_35 rfl rfl ?_
          refine A_aload_n dX9_roundLength_54 rfl ?_
          refine A_getR dX9_roundLength_55 flX9_32 rfl rfl ?_
          refine A_callV1 dX9_roundLength_58 mlX9_245 (by decide) rfl rfl (Nat.le_of_ble_eq_true rfl) (c_isLike flow_61 flow_47 (by omega) (by omega) hC hc2 hR3 hR4 (GC_run hC _) (GC_run hC _) (fun q2 => ?_) (fun q2 => ?_))
          · refine Kn.s ?_
            refine A_if_eq (tgt := 66) dX9_roundLength_61 (by decide) (fun h => absurd h (by decide +kernel)) (fun _ => ?_)
            refine A_iload_n dX9_roundLength_64 rfl ?_
            refine A_iret dX9_roundLength_65 rfl rfl ?_
            exact h1 i μ2 hi1 (by omega) (by unfold goodL; rw [← beatB_cx hc2, q, q2]; rfl) hg (hS1.tr (Sc.fr hF2 (Or.inr (by omega))))
          · refine Kn.s ?_
            refine A_if_eq (tgt := 66) dX9_roundLength_61 (by decide) (fun _ => ?_) (fun h => absurd h (by decide +kernel))
            refine A_iincN (ls1 := [_, _]) dX9_roundLength_66 rfl (by decide) rfl rfl ?_
            refine A_goto (tgt := 24) dX9_roundLength_69 (by decide) ?_
            refine ih (i + 1) μ2 (by omega) (by omega) (by omega) (hS1.tr (Sc.fr hF2 (Or.inr (by omega)))) (hT1.fr (by omega) hF2) hR4 (by rw [show i + 1 - 1 = i by omega]; exact hR3) (fun m hm hm2 => ?_)
            by_cases e : m = i
            · subst e; unfold goodL; rw [q2]; simp
            · exact hg m hm (by omega)
        · refine Kn.s ?_
          refine A_if_eq (tgt := 66) dX9_roundLength_47 (by decide) (fun _ => ?_) (fun h => absurd h (by decide +kernel))
          refine A_iincN (ls1 := [_, _]) dX9_roundLength_66 rfl (by decide) rfl rfl ?_
          refine A_goto (tgt := 24) dX9_roundLength_69 (by decide) ?_
          refine ih (i + 1) μ2 (by omega) (by omega) (by omega) (hS1.tr (Sc.fr hF2 (Or.inr (by omega)))) (hT1.fr (by omega) hF2) hR4 (by rw [show i + 1 - 1 = i by omega]; exact hR3) (fun m hm hm2 => ?_)
          by_cases e : m = i
          · subst e; unfold goodL; rw [← beatB_cx hc2, q]; simp
          · exact hg m hm (by omega)
  refine A_aload_n dX9_roundLength_0 rfl ?_
  refine A_aload_n dX9_roundLength_1 rfl ?_
  refine A_getR dX9_roundLength_2 flX9_32 rfl rfl ?_
  refine A_sipush (v := nI 1000) dX9_roundLength_5 (by decide +kernel) ?_
  refine A_callV2 dX9_roundLength_8 mlX9_238 (by decide) rfl rfl (Nat.le_of_ble_eq_true rfl) (c_runPlain flow_47 (by omega) hC hc (fun μ1 hR1 hT1 hF1 => ?_))
  refine Kn.v ?_
  refine A_aload_n dX9_roundLength_11 rfl ?_
  refine A_aload_n dX9_roundLength_12 rfl ?_
  refine A_getR dX9_roundLength_13 flX9_35 rfl rfl ?_
  refine A_sipush (v := nI 1000) dX9_roundLength_16 (by decide +kernel) ?_
  refine A_callV2 dX9_roundLength_19 mlX9_238 (by decide) rfl rfl (Nat.le_of_ble_eq_true rfl) (c_runPlain flow_61 (by omega) hC (hF1.cx hc (by omega)) (fun μ2 hR2 hT2 hF2 => ?_))
  refine Kn.v ?_
  refine A_iconst (v := nI 1) dX9_roundLength_22 (by decide +kernel) ?_
  refine A_istore_n (ls1 := [_, _]) dX9_roundLength_23 (by decide) rfl rfl ?_
  exact loop 1001 1 μ2 (by omega) (by omega) (by omega) ((Sc.fq hF1 (by omega)).tr (Sc.fq hF2 (by omega))) hT2 (hR1.fq (Or.inl (by omega)) (by omega) hF2) hR2 (fun m h2 h3 => by omega)
def likeA (c : MI) (L a : Nat) : Bool := likeB (N (c 2 0)) (runP c plP (a + L)) (runP c plP a)
theorem c_roundStart {L : Nat} (hL : L ≤ 1000) {c μ : MI} {ν : ML} {P : Po} (hC : WC c) (hc : CX c μ) (h1 : ∀ a μ', 31 ≤ a → a < 1000 → likeA c L a = true → (∀ m, 31 ≤ m → m < a → likeA c L m = false) → Sc μ μ' → P (some (.int (nI a))) μ' ν) (h0 : ∀ μ', (∀ m, 31 ≤ m → m < 1000 → likeA c L m = false) → Sc μ μ' → P (some (.int (nI 1000))) μ' ν) : Ct mX9_roundStart 5 [.ref 0, .int (nI L)] μ ν P := by
  refine Ct.of (ls0 := [_, _, _]) (by decide) rfl (Nat.le_of_ble_eq_true rfl) rfl ?_
  have loop : ∀ (k i : Nat) (μ1 : MI), 1000 - i < k → 31 ≤ i → i ≤ 1000 → Sc μ μ1 → TW 24 plP μ1 → RX 47 i (runP c plP i) μ1 → RX 61 (i + L) (runP c plP (i + L)) μ1 → (∀ m, 31 ≤ m → m < i → likeA c L m = false) → AW mX9_roundStart (5, none) P 25 [some (.ref 0), some (.int (nI L)), some (.int (nI i))] [] μ1 ν := by
    intro k
    induction k with
    | zero => intro i μ1 h; omega
    | succ k ih =>
      intro i μ1 hk hi1 hi hS1 hT1 hR1 hR2 hg
      have hc1 := hS1.cx hc
      refine A_iload_n dX9_roundStart_25 rfl ?_
      refine A_sipush (v := nI 1000) dX9_roundStart_26 (by decide +kernel) ?_
      refine A_icmp_geN (tgt := 70) dX9_roundStart_29 (by decide) (by omega) (by omega) (fun b29 => ?_) (fun b29 => ?_)
      · refine A_sipush (v := nI 1000) dX9_roundStart_70 (by decide +kernel) ?_
        refine A_iret dX9_roundStart_73 rfl rfl ?_
        exact h0 μ1 (fun m hm hm2 => hg m hm (by omega)) hS1
      · refine A_aload_n dX9_roundStart_32 rfl ?_
        refine A_getR dX9_roundStart_33 flX9_35 rfl rfl ?_
        refine A_aload_n dX9_roundStart_36 rfl ?_
        refine A_getR dX9_roundStart_37 flX9_32 rfl rfl ?_
        refine A_callV1 dX9_roundStart_40 mlX9_245 (by decide) rfl rfl (Nat.le_of_ble_eq_true rfl) (c_isLike flow_61 flow_47 (by omega) (by omega) hC hc1 hR2 hR1 (GC_run hC _) (GC_run hC _) (fun q2 => ?_) (fun q2 => ?_))
        · refine Kn.s ?_
          refine A_if_eq (tgt := 48) dX9_roundStart_43 (by decide) (fun h => absurd h (by decide +kernel)) (fun _ => ?_)
          refine A_iload_n dX9_roundStart_46 rfl ?_
          refine A_iret dX9_roundStart_47 rfl rfl ?_
          exact h1 i μ1 hi1 (by omega) q2 hg hS1
        · refine Kn.s ?_
          refine A_if_eq (tgt := 48) dX9_roundStart_43 (by decide) (fun _ => ?_) (fun h => absurd h (by decide +kernel))
          refine A_aload_n dX9_roundStart_48 rfl ?_
          refine A_getR dX9_roundStart_49 flX9_32 rfl rfl ?_
          refine A_callV0 dX9_roundStart_52 mlX9_163 (by decide) rfl rfl (Nat.le_of_ble_eq_true rfl) (c_stepC flow_47 (by omega) hC hc1 hT1 hR1 (GC_run hC _) (fun μ2 hR3 hF2 => ?_))
          refine Kn.s ?_
          refine A_pop dX9_roundStart_55 rfl ?_
          refine A_aload_n dX9_roundStart_56 rfl ?_
          refine A_getR dX9_roundStart_57 flX9_35 rfl rfl ?_
          refine A_callV0 dX9_roundStart_60 mlX9_163 (by decide) rfl rfl (Nat.le_of_ble_eq_true rfl) (c_stepC flow_61 (by omega) hC (hc1.fr (by omega) hF2) (hT1.fr (by omega) hF2) (hR2.fr (Or.inr (by omega)) hF2) (GC_run hC _) (fun μ3 hR4 hF3 => ?_))
          refine Kn.s ?_
          refine A_pop dX9_roundStart_63 rfl ?_
          refine A_iincN (ls1 := [_, _, _]) dX9_roundStart_64 rfl (by decide) rfl rfl ?_
          refine A_goto (tgt := 25) dX9_roundStart_67 (by decide) ?_
          refine ih (i + 1) μ3 (by omega) (by omega) (by omega) ((hS1.tr (Sc.fr hF2 (Or.inr (by omega)))).tr (Sc.fr hF3 (Or.inr (by omega)))) ((hT1.fr (by omega) hF2).fr (by omega) hF3) (hR3.fr (Or.inl (by omega)) hF3) (by rw [show i + 1 + L = i + L + 1 by omega]; exact hR4) (fun m hm hm2 => ?_)
          by_cases e : m = i
          · subst e; exact q2
          · exact hg m hm (by omega)
  refine A_aload_n dX9_roundStart_0 rfl ?_
  refine A_aload_n dX9_roundStart_1 rfl ?_
  refine A_getR dX9_roundStart_2 flX9_32 rfl rfl ?_
  refine A_bipush (v := nI 31) dX9_roundStart_5 (by decide +kernel) ?_
  refine A_callV2 dX9_roundStart_7 mlX9_238 (by decide) rfl rfl (Nat.le_of_ble_eq_true rfl) (c_runPlain flow_47 (by omega) hC hc (fun μ1 hR1 hT1 hF1 => ?_))
  refine Kn.v ?_
  refine A_aload_n dX9_roundStart_10 rfl ?_
  refine A_aload_n dX9_roundStart_11 rfl ?_
  refine A_getR dX9_roundStart_12 flX9_35 rfl rfl ?_
  refine A_bipush (v := nI 31) dX9_roundStart_15 (by decide +kernel) ?_
  refine A_iload_n dX9_roundStart_17 rfl ?_
  refine A_iaddN dX9_roundStart_18 ?_
  refine A_callV2 dX9_roundStart_19 mlX9_238 (by decide) rfl rfl (Nat.le_of_ble_eq_true rfl) (c_runPlain flow_61 (by omega) hC (hF1.cx hc (by omega)) (fun μ2 hR2 hT2 hF2 => ?_))
  refine Kn.v ?_
  refine A_bipush (v := nI 31) dX9_roundStart_22 (by decide +kernel) ?_
  refine A_istore_n (ls1 := [_, _, _]) dX9_roundStart_24 (by decide) rfl rfl ?_
  exact loop 970 31 μ2 (by omega) (by omega) (by omega) ((Sc.fq hF1 (by omega)).tr (Sc.fq hF2 (by omega))) hT2 (hR1.fq (Or.inl (by omega)) (by omega) hF2) hR2 (fun m h2 h3 => by omega)
theorem c_round (what : Int32) {c μ : MI} {ν : ML} {P : Po} (hC : WC c) (hc : CX c μ) (hx : ¬ (nI 0 ≤ what ∧ what ≤ nI 1) → P (some (.int (-1002))) μ ν) (h0 : ∀ μ', nI 0 ≤ what → what ≤ nI 1 → (∀ m, 1 ≤ m → m ≤ 1000 → goodL c m = false) → Sc μ μ' → P (some (.int (-1))) μ' ν) (h1 : ∀ n μ', what = nI 1 → 1 ≤ n → n ≤ 1000 → goodL c n = true → (∀ m, 1 ≤ m → m < n → goodL c m = false) → Sc μ μ' → P (some (.int (nI n))) μ' ν)
    (h2 : ∀ n a μ', what = nI 0 → 1 ≤ n → n ≤ 1000 → goodL c n = true → (∀ m, 1 ≤ m → m < n → goodL c m = false) → 31 ≤ a → a ≤ 1000 → (a < 1000 → likeA c n a = true) → (∀ m, 31 ≤ m → m < a → likeA c n m = false) → Sc μ μ' → P (some (.int (nI a))) μ' ν) : Ct mX9_round 6 [.ref 0, .int what] μ ν P := by
  refine Ct.of (ls0 := [_, _, _]) (by decide) rfl (Nat.le_of_ble_eq_true rfl) rfl ?_
  refine A_iload_n dX9_round_0 rfl ?_
  refine A_iconst (v := nI 0) dX9_round_1 (by decide +kernel) ?_
  refine A_iconst (v := nI 1) dX9_round_2 (by decide +kernel) ?_
  refine A_callS3 dX9_round_3 mlX9_52 (by decide) (Nat.le_of_ble_eq_true rfl) (c_within _ _ _ (fun g1 g2 => ?_) (fun g3 => ?_))
  · refine Kn.s ?_
    refine A_if_ne (tgt := 13) dX9_round_6 (by decide) (fun _ => ?_) (fun h => absurd h (by decide +kernel))
    refine A_aload_n dX9_round_13 rfl ?_
    refine A_callV0 dX9_round_14 mlX9_181 (by decide) rfl rfl (Nat.le_of_ble_eq_true rfl) (c_roundLength hC hc (fun n μ1 q1 q2 q3 q4 q5 => ?_) (fun μ1 q3 q5 => ?_))
    · refine Kn.s ?_
      refine A_istore_n (ls1 := [_, _, _]) dX9_round_17 (by decide) rfl rfl ?_
      refine A_iload_n dX9_round_18 rfl ?_
      refine A_iconst (v := (-1)) dX9_round_19 (by decide +kernel) ?_
      refine A_icmp_eq (tgt := 28) dX9_round_20 (by decide) (fun b20 => absurd b20 (fun e => nI_pos' (n := n) (by omega) |> fun h => by rw [e] at h; exact absurd h (by decide +kernel))) (fun b20 => ?_)
      refine A_iload_n dX9_round_23 rfl ?_
      refine A_iconst (v := nI 1) dX9_round_24 (by decide +kernel) ?_
      refine A_icmp_ne (tgt := 32) dX9_round_25 (by decide) (fun b25 => ?_) (fun b25 => ?_)
      · have ew : what = nI 0 := by
          obtain ⟨j, hj, rfl⟩ := nI_of2 (M := nI 1) (n := 1) rfl (i_le_n g1) g2
          rcases (show j = 0 ∨ j = 1 by omega) with rfl | rfl
          · rfl
          · exact absurd rfl b25
        refine A_aload_n dX9_round_32 rfl ?_
        refine A_iload_n dX9_round_33 rfl ?_
        refine A_callV1 dX9_round_34 mlX9_184 (by decide) rfl rfl (Nat.le_of_ble_eq_true rfl) (c_roundStart q2 hC (q5.cx hc) (fun a μ2 k1 k2 k3 k4 k5 => ?_) (fun μ2 k4 k5 => ?_))
        · refine Kn.s ?_
          refine A_iret dX9_round_37 rfl rfl ?_
          exact h2 n a μ2 ew q1 q2 q3 q4 k1 (by omega) (fun _ => k3) k4 (q5.tr k5)
        · refine Kn.s ?_
          refine A_iret dX9_round_37 rfl rfl ?_
          exact h2 n 1000 μ2 ew q1 q2 q3 q4 (by omega) (by omega) (fun h => by omega) k4 (q5.tr k5)
      · refine A_iload_n dX9_round_28 rfl ?_
        refine A_goto (tgt := 37) dX9_round_29 (by decide) ?_
        refine A_iret dX9_round_37 rfl rfl ?_
        exact h1 n μ1 b25 q1 q2 q3 q4 q5
    · refine Kn.s ?_
      refine A_istore_n (ls1 := [_, _, _]) dX9_round_17 (by decide) rfl rfl ?_
      refine A_iload_n dX9_round_18 rfl ?_
      refine A_iconst (v := (-1)) dX9_round_19 (by decide +kernel) ?_
      refine A_icmp_eq (tgt := 28) dX9_round_20 (by decide) (fun _ => ?_) (fun h => absurd h (by decide +kernel))
      refine A_iload_n dX9_round_28 rfl ?_
      refine A_goto (tgt := 37) dX9_round_29 (by decide) ?_
      refine A_iret dX9_round_37 rfl rfl ?_
      exact h0 μ1 g1 g2 q3 q5
  · refine Kn.s ?_
    refine A_if_ne (tgt := 13) dX9_round_6 (by decide) (fun h => absurd h (by decide +kernel)) (fun _ => ?_)
    refine A_sipush (v := (-1002)) dX9_round_9 (by decide +kernel) ?_
    refine A_iret dX9_round_12 rfl rfl ?_
    exact hx g3
end
section
/-! the class's face: what is told, counted, ticked, run -/
theorem sw_of (x : Int32) {n : Nat} (hn : n < 2 ^ 31) : (∃ k : Nat, k < n ∧ x = nI k) ∨ (x.toInt < 0 ∨ ((n : Int) - 1) < x.toInt) := by
  by_cases h0 : x < 0
  · exact Or.inr (Or.inl (by rw [Int32.lt_iff_toInt_lt] at h0; exact h0))
  · obtain ⟨j, hj, rfl⟩ := nI_of h0
    by_cases h : j < n
    · exact Or.inl ⟨j, h, rfl⟩
    · exact Or.inr (Or.inr (by rw [nI_toInt hj]; omega))
abbrev okB (s r : Int32) : Prop := (nI 1 ≤ s ∧ s ≤ nI 100) ∧ (nI 0 ≤ r ∧ r ≤ nI 20)
theorem c_bucket (x y : Int32) {m : Nat} {μ : MI} {ν : ML} {P : Po} (hm : μ 2 0 = nI m) (hm8 : m ≤ 8) (hx : ¬ okB x y → P (some (.int (-1002))) μ ν) (hf : okB x y → m = 8 → P (some (.int (-1004))) μ ν) (ha : okB x y → m < 8 → P (some (.int (nI m))) (up2 (up2 (up2 (up2 μ 3 m x) 4 m y) 5 m (-1)) 2 0 (nI (m + 1))) ν) : Ct mX9_bucket 1 [.ref 0, .int x, .int y] μ ν P := by
  refine Ct.of (ls0 := [_, _, _]) (by decide) rfl (Nat.le_of_ble_eq_true rfl) rfl ?_
  refine A_iload_n dX9_bucket_0 rfl ?_
  refine A_iconst (v := nI 1) dX9_bucket_1 (by decide +kernel) ?_
  refine A_bipush (v := nI 100) dX9_bucket_2 (by decide +kernel) ?_
  refine A_callS3 dX9_bucket_4 mlX9_52 (by decide) (Nat.le_of_ble_eq_true rfl) (c_within _ _ _ (fun g1 g2 => ?_) (fun g3 => ?_))
  · refine Kn.s ?_
    refine A_if_eq (tgt := 20) dX9_bucket_7 (by decide) (fun h => absurd h (by decide +kernel)) (fun _ => ?_)
    refine A_iload_n dX9_bucket_10 rfl ?_
    refine A_iconst (v := nI 0) dX9_bucket_11 (by decide +kernel) ?_
    refine A_bipush (v := nI 20) dX9_bucket_12 (by decide +kernel) ?_
    refine A_callS3 dX9_bucket_14 mlX9_52 (by decide) (Nat.le_of_ble_eq_true rfl) (c_within _ _ _ (fun g4 g5 => ?_) (fun g6 => ?_))
    · refine Kn.s ?_
      refine A_if_ne (tgt := 24) dX9_bucket_17 (by decide) (fun _ => ?_) (fun h => absurd h (by decide +kernel))
      refine A_aload_n dX9_bucket_24 rfl ?_
      refine A_getR dX9_bucket_25 flX9_12 rfl rfl ?_
      refine A_getR dX9_bucket_28 flX9_56 rfl rfl ?_
      refine A_iload_n dX9_bucket_31 rfl ?_
      refine A_iload_n dX9_bucket_32 rfl ?_
      refine A_callV2 dX9_bucket_33 mlX9_60 (by decide) rfl rfl (Nat.le_of_ble_eq_true rfl) (c_bucketsAdd _ _ hm hm8 (fun q => ?_) (fun q => ?_))
      · refine Kn.s ?_
        refine A_iret dX9_bucket_36 rfl rfl ?_
        exact hf ⟨⟨g1, g2⟩, g4, g5⟩ q
      · refine Kn.s ?_
        refine A_iret dX9_bucket_36 rfl rfl ?_
        exact ha ⟨⟨g1, g2⟩, g4, g5⟩ q
    · refine Kn.s ?_
      refine A_if_ne (tgt := 24) dX9_bucket_17 (by decide) (fun h => absurd h (by decide +kernel)) (fun _ => ?_)
      refine A_sipush (v := (-1002)) dX9_bucket_20 (by decide +kernel) ?_
      refine A_iret dX9_bucket_23 rfl rfl ?_
      exact hx (fun q => g6 q.2)
  · refine Kn.s ?_
    refine A_if_eq (tgt := 20) dX9_bucket_7 (by decide) (fun _ => ?_) (fun h => absurd h (by decide +kernel))
    refine A_sipush (v := (-1002)) dX9_bucket_20 (by decide +kernel) ?_
    refine A_iret dX9_bucket_23 rfl rfl ?_
    exact hx (fun q => g3 q.1)
abbrev okD (d : Int32) : Prop := nI 1 ≤ d ∧ d ≤ nI 20
theorem c_pipe (b to dl : Int32) {m : Nat} {μ : MI} {ν : ML} {P : Po} (hm : μ 2 0 = nI m) (hm8 : m ≤ 8) (hu : (¬ inR b m ∨ (¬ to = -1 ∧ ¬ inR to m)) → P (some (.int (-1001))) μ ν) (ho : ¬ okD dl → inR b m → (to = -1 ∨ inR to m) → P (some (.int (-1002))) μ ν) (ha : ∀ k, okD dl → b = nI k → k < m → (to = -1 ∨ inR to m) → P (some (.int (nI 1))) (up2 (up2 μ 5 k to) 6 k dl) ν) : Ct mX9_pipe 1 [.ref 0, .int b, .int to, .int dl] μ ν P := by
  refine Ct.of (ls0 := [_, _, _, _]) (by decide) rfl (Nat.le_of_ble_eq_true rfl) rfl ?_
  refine A_aload_n dX9_pipe_0 rfl ?_
  refine A_getR dX9_pipe_1 flX9_12 rfl rfl ?_
  refine A_getR dX9_pipe_4 flX9_56 rfl rfl ?_
  refine A_iload_n dX9_pipe_7 rfl ?_
  refine A_callV1 dX9_pipe_8 mlX9_66 (by decide) rfl rfl (Nat.le_of_ble_eq_true rfl) (c_has _ hm hm8 (fun g1 => ?_) (fun g1 => ?_))
  · refine Kn.s ?_
    refine A_if_eq (tgt := 33) dX9_pipe_11 (by decide) (fun h => absurd h (by decide +kernel)) (fun _ => ?_)
    refine A_iload_n dX9_pipe_14 rfl ?_
    refine A_iconst (v := (-1)) dX9_pipe_15 (by decide +kernel) ?_
    refine A_icmp_eq (tgt := 37) dX9_pipe_16 (by decide) (fun b16 => ?_) (fun b16 => ?_)
    · refine A_iload_n dX9_pipe_37 rfl ?_
      refine A_iconst (v := nI 1) dX9_pipe_38 (by decide +kernel) ?_
      refine A_bipush (v := nI 20) dX9_pipe_39 (by decide +kernel) ?_
      refine A_callS3 dX9_pipe_41 mlX9_52 (by decide) (Nat.le_of_ble_eq_true rfl) (c_within _ _ _ (fun g3 g4 => ?_) (fun g5 => ?_))
      · refine Kn.s ?_
        refine A_if_ne (tgt := 51) dX9_pipe_44 (by decide) (fun _ => ?_) (fun h => absurd h (by decide +kernel))
        obtain ⟨k, rfl, hk⟩ := g1
        refine A_aload_n dX9_pipe_51 rfl ?_
        refine A_getR dX9_pipe_52 flX9_12 rfl rfl ?_
        refine A_getR dX9_pipe_55 flX9_56 rfl rfl ?_
        refine A_iload_n dX9_pipe_58 rfl ?_
        refine A_iload_n dX9_pipe_59 rfl ?_
        refine A_iload_n dX9_pipe_60 rfl ?_
        refine A_callV3 dX9_pipe_61 mlX9_70 (by decide) rfl rfl (Nat.le_of_ble_eq_true rfl) (c_lead (by omega) _ _ ?_)
        refine Kn.v ?_
        refine A_iconst (v := nI 1) dX9_pipe_64 (by decide +kernel) ?_
        refine A_iret dX9_pipe_65 rfl rfl ?_
        exact ha k ⟨g3, g4⟩ rfl hk (Or.inl b16)
      · refine Kn.s ?_
        refine A_if_ne (tgt := 51) dX9_pipe_44 (by decide) (fun h => absurd h (by decide +kernel)) (fun _ => ?_)
        refine A_sipush (v := (-1002)) dX9_pipe_47 (by decide +kernel) ?_
        refine A_iret dX9_pipe_50 rfl rfl ?_
        exact ho g5 g1 (Or.inl b16)
    · refine A_aload_n dX9_pipe_19 rfl ?_
      refine A_getR dX9_pipe_20 flX9_12 rfl rfl ?_
      refine A_getR dX9_pipe_23 flX9_56 rfl rfl ?_
      refine A_iload_n dX9_pipe_26 rfl ?_
      refine A_callV1 dX9_pipe_27 mlX9_66 (by decide) rfl rfl (Nat.le_of_ble_eq_true rfl) (c_has _ hm hm8 (fun g2 => ?_) (fun g2 => ?_))
      · refine Kn.s ?_
        refine A_if_ne (tgt := 37) dX9_pipe_30 (by decide) (fun _ => ?_) (fun h => absurd h (by decide +kernel))
        refine A_iload_n dX9_pipe_37 rfl ?_
        refine A_iconst (v := nI 1) dX9_pipe_38 (by decide +kernel) ?_
        refine A_bipush (v := nI 20) dX9_pipe_39 (by decide +kernel) ?_
        refine A_callS3 dX9_pipe_41 mlX9_52 (by decide) (Nat.le_of_ble_eq_true rfl) (c_within _ _ _ (fun g3 g4 => ?_) (fun g5 => ?_))
        · refine Kn.s ?_
          refine A_if_ne (tgt := 51) dX9_pipe_44 (by decide) (fun _ => ?_) (fun h => absurd h (by decide +kernel))
          obtain ⟨k, rfl, hk⟩ := g1
          refine A_aload_n dX9_pipe_51 rfl ?_
          refine A_getR dX9_pipe_52 flX9_12 rfl rfl ?_
          refine A_getR dX9_pipe_55 flX9_56 rfl rfl ?_
          refine A_iload_n dX9_pipe_58 rfl ?_
          refine A_iload_n dX9_pipe_59 rfl ?_
          refine A_iload_n dX9_pipe_60 rfl ?_
          refine A_callV3 dX9_pipe_61 mlX9_70 (by decide) rfl rfl (Nat.le_of_ble_eq_true rfl) (c_lead (by omega) _ _ ?_)
          refine Kn.v ?_
          refine A_iconst (v := nI 1) dX9_pipe_64 (by decide +kernel) ?_
          refine A_iret dX9_pipe_65 rfl rfl ?_
          exact ha k ⟨g3, g4⟩ rfl hk (Or.inr g2)
        · refine Kn.s ?_
          refine A_if_ne (tgt := 51) dX9_pipe_44 (by decide) (fun h => absurd h (by decide +kernel)) (fun _ => ?_)
          refine A_sipush (v := (-1002)) dX9_pipe_47 (by decide +kernel) ?_
          refine A_iret dX9_pipe_50 rfl rfl ?_
          exact ho g5 g1 (Or.inr g2)
      · refine Kn.s ?_
        refine A_if_ne (tgt := 37) dX9_pipe_30 (by decide) (fun h => absurd h (by decide +kernel)) (fun _ => ?_)
        refine A_sipush (v := (-1001)) dX9_pipe_33 (by decide +kernel) ?_
        refine A_iret dX9_pipe_36 rfl rfl ?_
        exact hu (Or.inr ⟨b16, g2⟩)
  · refine Kn.s ?_
    refine A_if_eq (tgt := 33) dX9_pipe_11 (by decide) (fun _ => ?_) (fun h => absurd h (by decide +kernel))
    refine A_sipush (v := (-1001)) dX9_pipe_33 (by decide +kernel) ?_
    refine A_iret dX9_pipe_36 rfl rfl ?_
    exact hu (Or.inl g1)
abbrev okS4 (v e f : Int32) : Prop := (nI 0 ≤ v ∧ v ≤ nI 20) ∧ (nI 1 ≤ e ∧ e ≤ nI 30) ∧ (nI 0 ≤ f ∧ f ≤ nI 30)
theorem c_spout (to v e f : Int32) {m n : Nat} {μ : MI} {ν : ML} {P : Po} (hm : μ 2 0 = nI m) (hm8 : m ≤ 8) (hn : μ 7 0 = nI n) (hn4 : n ≤ 4) (hu : ¬ inR to m → P (some (.int (-1001))) μ ν) (ho : inR to m → ¬ okS4 v e f → P (some (.int (-1002))) μ ν) (hf : inR to m → okS4 v e f → n = 4 → P (some (.int (-1004))) μ ν) (ha : inR to m → okS4 v e f → n < 4 → P (some (.int (nI n))) (up2 (up2 (up2 (up2 (up2 μ 8 n to) 9 n v) 10 n e) 11 n f) 7 0 (nI (n + 1))) ν) : Ct mX9_spout 1 [.ref 0, .int to, .int v, .int e, .int f] μ ν P := by
  refine Ct.of (ls0 := [_, _, _, _, _]) (by decide) rfl (Nat.le_of_ble_eq_true rfl) rfl ?_
  refine A_aload_n dX9_spout_0 rfl ?_
  refine A_getR dX9_spout_1 flX9_12 rfl rfl ?_
  refine A_getR dX9_spout_4 flX9_56 rfl rfl ?_
  refine A_iload_n dX9_spout_7 rfl ?_
  refine A_callV1 dX9_spout_8 mlX9_66 (by decide) rfl rfl (Nat.le_of_ble_eq_true rfl) (c_has _ hm hm8 (fun g1 => ?_) (fun g1 => ?_))
  · refine Kn.s ?_
    refine A_if_ne (tgt := 18) dX9_spout_11 (by decide) (fun _ => ?_) (fun h => absurd h (by decide +kernel))
    refine A_iload_n dX9_spout_18 rfl ?_
    refine A_iconst (v := nI 0) dX9_spout_19 (by decide +kernel) ?_
    refine A_bipush (v := nI 20) dX9_spout_20 (by decide +kernel) ?_
    refine A_callS3 dX9_spout_22 mlX9_52 (by decide) (Nat.le_of_ble_eq_true rfl) (c_within _ _ _ (fun g2 g3 => ?_) (fun g4 => ?_))
    · refine Kn.s ?_
      refine A_if_eq (tgt := 49) dX9_spout_25 (by decide) (fun h => absurd h (by decide +kernel)) (fun _ => ?_)
      refine A_iload_n dX9_spout_28 rfl ?_
      refine A_iconst (v := nI 1) dX9_spout_29 (by decide +kernel) ?_
      refine A_bipush (v := nI 30) dX9_spout_30 (by decide +kernel) ?_
      refine A_callS3 dX9_spout_32 mlX9_52 (by decide) (Nat.le_of_ble_eq_true rfl) (c_within _ _ _ (fun g5 g6 => ?_) (fun g7 => ?_))
      · refine Kn.s ?_
        refine A_if_eq (tgt := 49) dX9_spout_35 (by decide) (fun h => absurd h (by decide +kernel)) (fun _ => ?_)
        refine A_iload dX9_spout_38 rfl ?_
        refine A_iconst (v := nI 0) dX9_spout_40 (by decide +kernel) ?_
        refine A_bipush (v := nI 30) dX9_spout_41 (by decide +kernel) ?_
        refine A_callS3 dX9_spout_43 mlX9_52 (by decide) (Nat.le_of_ble_eq_true rfl) (c_within _ _ _ (fun g8 g9 => ?_) (fun ga => ?_))
        · refine Kn.s ?_
          refine A_if_ne (tgt := 53) dX9_spout_46 (by decide) (fun _ => ?_) (fun h => absurd h (by decide +kernel))
          refine A_aload_n dX9_spout_53 rfl ?_
          refine A_getR dX9_spout_54 flX9_12 rfl rfl ?_
          refine A_getR dX9_spout_57 flX9_74 rfl rfl ?_
          refine A_iload_n dX9_spout_60 rfl ?_
          refine A_iload_n dX9_spout_61 rfl ?_
          refine A_iload_n dX9_spout_62 rfl ?_
          refine A_iload dX9_spout_63 rfl ?_
          refine A_callV4 dX9_spout_65 mlX9_78 (by decide) rfl rfl (Nat.le_of_ble_eq_true rfl) (c_spoutsAdd _ _ _ _ hn hn4 (fun q => ?_) (fun q => ?_))
          · refine Kn.s ?_
            refine A_iret dX9_spout_68 rfl rfl ?_
            exact hf g1 ⟨⟨g2, g3⟩, ⟨g5, g6⟩, g8, g9⟩ q
          · refine Kn.s ?_
            refine A_iret dX9_spout_68 rfl rfl ?_
            exact ha g1 ⟨⟨g2, g3⟩, ⟨g5, g6⟩, g8, g9⟩ q
        · refine Kn.s ?_
          refine A_if_ne (tgt := 53) dX9_spout_46 (by decide) (fun h => absurd h (by decide +kernel)) (fun _ => ?_)
          refine A_sipush (v := (-1002)) dX9_spout_49 (by decide +kernel) ?_
          refine A_iret dX9_spout_52 rfl rfl ?_
          exact ho g1 (fun q => ga q.2.2)
      · refine Kn.s ?_
        refine A_if_eq (tgt := 49) dX9_spout_35 (by decide) (fun _ => ?_) (fun h => absurd h (by decide +kernel))
        refine A_sipush (v := (-1002)) dX9_spout_49 (by decide +kernel) ?_
        refine A_iret dX9_spout_52 rfl rfl ?_
        exact ho g1 (fun q => g7 q.2.1)
    · refine Kn.s ?_
      refine A_if_eq (tgt := 49) dX9_spout_25 (by decide) (fun _ => ?_) (fun h => absurd h (by decide +kernel))
      refine A_sipush (v := (-1002)) dX9_spout_49 (by decide +kernel) ?_
      refine A_iret dX9_spout_52 rfl rfl ?_
      exact ho g1 (fun q => g4 q.1)
  · refine Kn.s ?_
    refine A_if_ne (tgt := 18) dX9_spout_11 (by decide) (fun h => absurd h (by decide +kernel)) (fun _ => ?_)
    refine A_sipush (v := (-1001)) dX9_spout_14 (by decide +kernel) ?_
    refine A_iret dX9_spout_17 rfl rfl ?_
    exact hu g1
abbrev okV (v : Int32) : Prop := nI 0 ≤ v ∧ v ≤ nI 20
theorem c_turn (s v : Int32) {n : Nat} {μ : MI} {ν : ML} {P : Po} (hn : μ 7 0 = nI n) (hn4 : n ≤ 4) (hu : ¬ inR s n → P (some (.int (-1001))) μ ν) (ho : inR s n → ¬ okV v → P (some (.int (-1002))) μ ν) (ha : ∀ k, s = nI k → k < n → okV v → P (some (.int (μ 9 k))) (up2 μ 9 k v) ν) : Ct mX9_turn 1 [.ref 0, .int s, .int v] μ ν P := by
  refine Ct.of (ls0 := [_, _, _, _]) (by decide) rfl (Nat.le_of_ble_eq_true rfl) rfl ?_
  refine A_aload_n dX9_turn_0 rfl ?_
  refine A_getR dX9_turn_1 flX9_12 rfl rfl ?_
  refine A_getR dX9_turn_4 flX9_74 rfl rfl ?_
  refine A_iload_n dX9_turn_7 rfl ?_
  refine A_callV1 dX9_turn_8 mlX9_83 (by decide) rfl rfl (Nat.le_of_ble_eq_true rfl) (c_hasS _ hn hn4 (fun g1 => ?_) (fun g1 => ?_))
  · refine Kn.s ?_
    refine A_if_ne (tgt := 18) dX9_turn_11 (by decide) (fun _ => ?_) (fun h => absurd h (by decide +kernel))
    refine A_iload_n dX9_turn_18 rfl ?_
    refine A_iconst (v := nI 0) dX9_turn_19 (by decide +kernel) ?_
    refine A_bipush (v := nI 20) dX9_turn_20 (by decide +kernel) ?_
    refine A_callS3 dX9_turn_22 mlX9_52 (by decide) (Nat.le_of_ble_eq_true rfl) (c_within _ _ _ (fun g2 g3 => ?_) (fun g4 => ?_))
    · refine Kn.s ?_
      refine A_if_ne (tgt := 32) dX9_turn_25 (by decide) (fun _ => ?_) (fun h => absurd h (by decide +kernel))
      obtain ⟨k, rfl, hk⟩ := g1
      refine A_aload_n dX9_turn_32 rfl ?_
      refine A_getR dX9_turn_33 flX9_12 rfl rfl ?_
      refine A_getR dX9_turn_36 flX9_74 rfl rfl ?_
      refine A_getR dX9_turn_39 flX9_84 rfl rfl ?_
      refine A_iload_n dX9_turn_42 rfl ?_
      refine A_ialdN (j := k) dX9_turn_43 rfl rfl (by omega) (by decide) ?_
      refine A_istore_n (ls1 := [_, _, _, _]) dX9_turn_44 (by decide) rfl rfl ?_
      refine A_aload_n dX9_turn_45 rfl ?_
      refine A_getR dX9_turn_46 flX9_12 rfl rfl ?_
      refine A_getR dX9_turn_49 flX9_74 rfl rfl ?_
      refine A_getR dX9_turn_52 flX9_84 rfl rfl ?_
      refine A_iload_n dX9_turn_55 rfl ?_
      refine A_iload_n dX9_turn_56 rfl ?_
      refine A_iastN (j := k) dX9_turn_57 rfl rfl (by omega) (by decide) ?_
      refine A_iload_n dX9_turn_58 rfl ?_
      refine A_iret dX9_turn_59 rfl rfl ?_
      exact ha k rfl hk ⟨g2, g3⟩
    · refine Kn.s ?_
      refine A_if_ne (tgt := 32) dX9_turn_25 (by decide) (fun h => absurd h (by decide +kernel)) (fun _ => ?_)
      refine A_sipush (v := (-1002)) dX9_turn_28 (by decide +kernel) ?_
      refine A_iret dX9_turn_31 rfl rfl ?_
      exact ho g1 g4
  · refine Kn.s ?_
    refine A_if_ne (tgt := 18) dX9_turn_11 (by decide) (fun h => absurd h (by decide +kernel)) (fun _ => ?_)
    refine A_sipush (v := (-1001)) dX9_turn_14 (by decide +kernel) ?_
    refine A_iret dX9_turn_17 rfl rfl ?_
    exact hu g1
abbrev okF (f t : Int32) : Prop := (nI 0 ≤ f ∧ f ≤ nI 2000) ∧ (f ≤ t ∧ t ≤ nI 2000)
theorem c_frog (s f t : Int32) {n q : Nat} {μ : MI} {ν : ML} {P : Po} (hn : μ 7 0 = nI n) (hn4 : n ≤ 4) (hq : μ 12 0 = nI q) (hq8 : q ≤ 10) (hu : ¬ inR s n → P (some (.int (-1001))) μ ν) (ho : inR s n → ¬ okF f t → P (some (.int (-1002))) μ ν) (hf : inR s n → okF f t → q = 10 → P (some (.int (-1004))) μ ν) (ha : inR s n → okF f t → q < 10 → P (some (.int (nI (q + 1)))) (up2 (up2 (up2 (up2 μ 13 q s) 14 q f) 15 q t) 12 0 (nI (q + 1))) ν) : Ct mX9_frog 1 [.ref 0, .int s, .int f, .int t] μ ν P := by
  refine Ct.of (ls0 := [_, _, _, _]) (by decide) rfl (Nat.le_of_ble_eq_true rfl) rfl ?_
  refine A_aload_n dX9_frog_0 rfl ?_
  refine A_getR dX9_frog_1 flX9_12 rfl rfl ?_
  refine A_getR dX9_frog_4 flX9_74 rfl rfl ?_
  refine A_iload_n dX9_frog_7 rfl ?_
  refine A_callV1 dX9_frog_8 mlX9_83 (by decide) rfl rfl (Nat.le_of_ble_eq_true rfl) (c_hasS _ hn hn4 (fun g1 => ?_) (fun g1 => ?_))
  · refine Kn.s ?_
    refine A_if_ne (tgt := 18) dX9_frog_11 (by decide) (fun _ => ?_) (fun h => absurd h (by decide +kernel))
    refine A_iload_n dX9_frog_18 rfl ?_
    refine A_iconst (v := nI 0) dX9_frog_19 (by decide +kernel) ?_
    refine A_sipush (v := nI 2000) dX9_frog_20 (by decide +kernel) ?_
    refine A_callS3 dX9_frog_23 mlX9_52 (by decide) (Nat.le_of_ble_eq_true rfl) (c_within _ _ _ (fun g2 g3 => ?_) (fun g4 => ?_))
    · refine Kn.s ?_
      refine A_if_eq (tgt := 40) dX9_frog_26 (by decide) (fun h => absurd h (by decide +kernel)) (fun _ => ?_)
      refine A_iload_n dX9_frog_29 rfl ?_
      refine A_iload_n dX9_frog_30 rfl ?_
      refine A_sipush (v := nI 2000) dX9_frog_31 (by decide +kernel) ?_
      refine A_callS3 dX9_frog_34 mlX9_52 (by decide) (Nat.le_of_ble_eq_true rfl) (c_within _ _ _ (fun g5 g6 => ?_) (fun g7 => ?_))
      · refine Kn.s ?_
        refine A_if_ne (tgt := 44) dX9_frog_37 (by decide) (fun _ => ?_) (fun h => absurd h (by decide +kernel))
        refine A_aload_n dX9_frog_44 rfl ?_
        refine A_getR dX9_frog_45 flX9_12 rfl rfl ?_
        refine A_getR dX9_frog_48 flX9_88 rfl rfl ?_
        refine A_iload_n dX9_frog_51 rfl ?_
        refine A_iload_n dX9_frog_52 rfl ?_
        refine A_iload_n dX9_frog_53 rfl ?_
        refine A_callV3 dX9_frog_54 mlX9_92 (by decide) rfl rfl (Nat.le_of_ble_eq_true rfl) (c_frogsAdd _ _ _ hq hq8 (fun z => ?_) (fun z => ?_))
        · refine Kn.s ?_
          refine A_iret dX9_frog_57 rfl rfl ?_
          exact hf g1 ⟨⟨g2, g3⟩, g5, g6⟩ z
        · refine Kn.s ?_
          refine A_iret dX9_frog_57 rfl rfl ?_
          exact ha g1 ⟨⟨g2, g3⟩, g5, g6⟩ z
      · refine Kn.s ?_
        refine A_if_ne (tgt := 44) dX9_frog_37 (by decide) (fun h => absurd h (by decide +kernel)) (fun _ => ?_)
        refine A_sipush (v := (-1002)) dX9_frog_40 (by decide +kernel) ?_
        refine A_iret dX9_frog_43 rfl rfl ?_
        exact ho g1 (fun z => g7 z.2)
    · refine Kn.s ?_
      refine A_if_eq (tgt := 40) dX9_frog_26 (by decide) (fun _ => ?_) (fun h => absurd h (by decide +kernel))
      refine A_sipush (v := (-1002)) dX9_frog_40 (by decide +kernel) ?_
      refine A_iret dX9_frog_43 rfl rfl ?_
      exact ho g1 (fun z => g4 z.1)
  · refine Kn.s ?_
    refine A_if_ne (tgt := 18) dX9_frog_11 (by decide) (fun h => absurd h (by decide +kernel)) (fun _ => ?_)
    refine A_sipush (v := (-1001)) dX9_frog_14 (by decide +kernel) ?_
    refine A_iret dX9_frog_17 rfl rfl ?_
    exact hu g1
abbrev okW (f w : Int32) : Prop := (nI 0 ≤ f ∧ f ≤ nI 2000) ∧ (-20 ≤ w ∧ w ≤ nI 20)
theorem c_weather (f w : Int32) {q : Nat} {μ : MI} {ν : ML} {P : Po} (hq : μ 16 0 = nI q) (hq8 : q ≤ 10) (ho : ¬ okW f w → P (some (.int (-1002))) μ ν) (hf : okW f w → q = 10 → P (some (.int (-1004))) μ ν) (ha : okW f w → q < 10 → P (some (.int (nI (q + 1)))) (up2 (up2 (up2 μ 17 q f) 18 q w) 16 0 (nI (q + 1))) ν) : Ct mX9_weather 1 [.ref 0, .int f, .int w] μ ν P := by
  refine Ct.of (ls0 := [_, _, _]) (by decide) rfl (Nat.le_of_ble_eq_true rfl) rfl ?_
  refine A_iload_n dX9_weather_0 rfl ?_
  refine A_iconst (v := nI 0) dX9_weather_1 (by decide +kernel) ?_
  refine A_sipush (v := nI 2000) dX9_weather_2 (by decide +kernel) ?_
  refine A_callS3 dX9_weather_5 mlX9_52 (by decide) (Nat.le_of_ble_eq_true rfl) (c_within _ _ _ (fun g2 g3 => ?_) (fun g4 => ?_))
  · refine Kn.s ?_
    refine A_if_eq (tgt := 22) dX9_weather_8 (by decide) (fun h => absurd h (by decide +kernel)) (fun _ => ?_)
    refine A_iload_n dX9_weather_11 rfl ?_
    refine A_bipush (v := (-20)) dX9_weather_12 (by decide +kernel) ?_
    refine A_bipush (v := nI 20) dX9_weather_14 (by decide +kernel) ?_
    refine A_callS3 dX9_weather_16 mlX9_52 (by decide) (Nat.le_of_ble_eq_true rfl) (c_within _ _ _ (fun g5 g6 => ?_) (fun g7 => ?_))
    · refine Kn.s ?_
      refine A_if_ne (tgt := 26) dX9_weather_19 (by decide) (fun _ => ?_) (fun h => absurd h (by decide +kernel))
      refine A_aload_n dX9_weather_26 rfl ?_
      refine A_getR dX9_weather_27 flX9_12 rfl rfl ?_
      refine A_getR dX9_weather_30 flX9_97 rfl rfl ?_
      refine A_iload_n dX9_weather_33 rfl ?_
      refine A_iload_n dX9_weather_34 rfl ?_
      refine A_callV2 dX9_weather_35 mlX9_101 (by decide) rfl rfl (Nat.le_of_ble_eq_true rfl) (c_spellsAdd _ _ hq hq8 (fun z => ?_) (fun z => ?_))
      · refine Kn.s ?_
        refine A_iret dX9_weather_38 rfl rfl ?_
        exact hf ⟨⟨g2, g3⟩, g5, g6⟩ z
      · refine Kn.s ?_
        refine A_iret dX9_weather_38 rfl rfl ?_
        exact ha ⟨⟨g2, g3⟩, g5, g6⟩ z
    · refine Kn.s ?_
      refine A_if_ne (tgt := 26) dX9_weather_19 (by decide) (fun h => absurd h (by decide +kernel)) (fun _ => ?_)
      refine A_sipush (v := (-1002)) dX9_weather_22 (by decide +kernel) ?_
      refine A_iret dX9_weather_25 rfl rfl ?_
      exact ho (fun z => g7 z.2)
  · refine Kn.s ?_
    refine A_if_eq (tgt := 22) dX9_weather_8 (by decide) (fun _ => ?_) (fun h => absurd h (by decide +kernel))
    refine A_sipush (v := (-1002)) dX9_weather_22 (by decide +kernel) ?_
    refine A_iret dX9_weather_25 rfl rfl ?_
    exact ho (fun z => g4 z.1)
abbrev okR (v : Int32) : Prop := nI 0 ≤ v ∧ v ≤ nI 50
theorem c_dry (v : Int32) {μ : MI} {ν : ML} {P : Po} (ho : ¬ okR v → P (some (.int (-1002))) μ ν) (ha : okR v → P (some (.int (μ 1 4))) (up2 μ 1 4 v) ν) : Ct mX9_dry 1 [.ref 0, .int v] μ ν P := by
  refine Ct.of (ls0 := [_, _, _]) (by decide) rfl (Nat.le_of_ble_eq_true rfl) rfl ?_
  refine A_iload_n dX9_dry_0 rfl ?_
  refine A_iconst (v := nI 0) dX9_dry_1 (by decide +kernel) ?_
  refine A_bipush (v := nI 50) dX9_dry_2 (by decide +kernel) ?_
  refine A_callS3 dX9_dry_4 mlX9_52 (by decide) (Nat.le_of_ble_eq_true rfl) (c_within _ _ _ (fun g2 g3 => ?_) (fun g4 => ?_))
  · refine Kn.s ?_
    refine A_if_ne (tgt := 14) dX9_dry_7 (by decide) (fun _ => ?_) (fun h => absurd h (by decide +kernel))
    refine A_aload_n dX9_dry_14 rfl ?_
    refine A_getR dX9_dry_15 flX9_12 rfl rfl ?_
    refine A_getI dX9_dry_18 flX9_104 rfl rfl ?_
    refine A_istore_n (ls1 := [_, _, _]) dX9_dry_21 (by decide) rfl rfl ?_
    refine A_aload_n dX9_dry_22 rfl ?_
    refine A_getR dX9_dry_23 flX9_12 rfl rfl ?_
    refine A_iload_n dX9_dry_26 rfl ?_
    refine A_put dX9_dry_27 fpX9_104 rfl rfl rfl rfl ?_
    refine A_iload_n dX9_dry_30 rfl ?_
    refine A_iret dX9_dry_31 rfl rfl ?_
    exact ha ⟨g2, g3⟩
  · refine Kn.s ?_
    refine A_if_ne (tgt := 14) dX9_dry_7 (by decide) (fun h => absurd h (by decide +kernel)) (fun _ => ?_)
    refine A_sipush (v := (-1002)) dX9_dry_10 (by decide +kernel) ?_
    refine A_iret dX9_dry_13 rfl rfl ?_
    exact ho g4
def toldN (μ : MI) (k : Nat) (j : Nat) : Int32 := match j with
  | 0 => μ 3 k
  | 1 => μ 4 k
  | 2 => μ 5 k
  | 3 => if μ 5 k = -1 then -1 else μ 6 k
  | 4 => μ 34 k
  | 5 => μ 35 k
  | 6 => μ 36 k
  | 7 => μ 37 k
  | _ => sumI (μ (33 + 6 + k)) 20
theorem c_told (b what : Int32) {m : Nat} {μ : MI} {ν : ML} {P : Po} (hm : μ 2 0 = nI m) (hm8 : m ≤ 8) (hu : ¬ inR b m → P (some (.int (-1001))) μ ν) (ha : ∀ k j, b = nI k → k < m → j < 9 → what = nI j → P (some (.int (toldN μ k j))) μ ν) (ho : inR b m → (what.toInt < 0 ∨ 8 < what.toInt) → P (some (.int (-1002))) μ ν) : Ct mX9_told 1 [.ref 0, .int b, .int what] μ ν P := by
  refine Ct.of (ls0 := [_, _, _]) (by decide) rfl (Nat.le_of_ble_eq_true rfl) rfl ?_
  refine A_aload_n dX9_told_0 rfl ?_
  refine A_getR dX9_told_1 flX9_12 rfl rfl ?_
  refine A_getR dX9_told_4 flX9_56 rfl rfl ?_
  refine A_iload_n dX9_told_7 rfl ?_
  refine A_callV1 dX9_told_8 mlX9_66 (by decide) rfl rfl (Nat.le_of_ble_eq_true rfl) (c_has _ hm hm8 (fun g1 => ?_) (fun g1 => ?_))
  · refine Kn.s ?_
    refine A_if_ne (tgt := 18) dX9_told_11 (by decide) (fun _ => ?_) (fun h => absurd h (by decide +kernel))
    have g1' := g1
    obtain ⟨k, rfl, hk⟩ := g1
    have hk8 : k < 8 := by omega
    refine A_iload_n dX9_told_18 rfl ?_
    rcases sw_of (what) (n := 9) (by decide) with ⟨k19, hk19, hs19⟩ | hs19
    · rcases (show k19 = 0 ∨ k19 = 1 ∨ k19 = 2 ∨ k19 = 3 ∨ k19 = 4 ∨ k19 = 5 ∨ k19 = 6 ∨ k19 = 7 ∨ k19 = 8 by omega) with rfl | rfl | rfl | rfl | rfl | rfl | rfl | rfl | rfl
      · rw [hs19]
        refine A_tableIn (off := 49) (tgt := 68) dX9_told_19 (by decide +kernel) (by decide +kernel) (by decide +kernel) (by decide) ?_
        refine A_aload_n dX9_told_68 rfl ?_
        refine A_getR dX9_told_69 flX9_12 rfl rfl ?_
        refine A_getR dX9_told_72 flX9_56 rfl rfl ?_
        refine A_getR dX9_told_75 flX9_108 rfl rfl ?_
        refine A_iload_n dX9_told_78 rfl ?_
        refine A_ialdN (j := k) dX9_told_79 rfl rfl hk8 (by decide) ?_
        refine A_iret dX9_told_80 rfl rfl ?_
        exact ha k 0 rfl hk (by omega) hs19
      · rw [hs19]
        refine A_tableIn (off := 62) (tgt := 81) dX9_told_19 (by decide +kernel) (by decide +kernel) (by decide +kernel) (by decide) ?_
        refine A_aload_n dX9_told_81 rfl ?_
        refine A_getR dX9_told_82 flX9_12 rfl rfl ?_
        refine A_getR dX9_told_85 flX9_56 rfl rfl ?_
        refine A_getR dX9_told_88 flX9_111 rfl rfl ?_
        refine A_iload_n dX9_told_91 rfl ?_
        refine A_ialdN (j := k) dX9_told_92 rfl rfl hk8 (by decide) ?_
        refine A_iret dX9_told_93 rfl rfl ?_
        exact ha k 1 rfl hk (by omega) hs19
      · rw [hs19]
        refine A_tableIn (off := 75) (tgt := 94) dX9_told_19 (by decide +kernel) (by decide +kernel) (by decide +kernel) (by decide) ?_
        refine A_aload_n dX9_told_94 rfl ?_
        refine A_getR dX9_told_95 flX9_12 rfl rfl ?_
        refine A_getR dX9_told_98 flX9_56 rfl rfl ?_
        refine A_getR dX9_told_101 flX9_114 rfl rfl ?_
        refine A_iload_n dX9_told_104 rfl ?_
        refine A_ialdN (j := k) dX9_told_105 rfl rfl hk8 (by decide) ?_
        refine A_iret dX9_told_106 rfl rfl ?_
        exact ha k 2 rfl hk (by omega) hs19
      · rw [hs19]
        refine A_tableIn (off := 88) (tgt := 107) dX9_told_19 (by decide +kernel) (by decide +kernel) (by decide +kernel) (by decide) ?_
        refine A_aload_n dX9_told_107 rfl ?_
        refine A_getR dX9_told_108 flX9_12 rfl rfl ?_
        refine A_getR dX9_told_111 flX9_56 rfl rfl ?_
        refine A_getR dX9_told_114 flX9_114 rfl rfl ?_
        refine A_iload_n dX9_told_117 rfl ?_
        refine A_ialdN (j := k) dX9_told_118 rfl rfl hk8 (by decide) ?_
        refine A_iconst (v := (-1)) dX9_told_119 (by decide +kernel) ?_
        refine A_icmp_ne (tgt := 127) dX9_told_120 (by decide) (fun b120 => ?_) (fun b120 => ?_)
        · refine A_aload_n dX9_told_127 rfl ?_
          refine A_getR dX9_told_128 flX9_12 rfl rfl ?_
          refine A_getR dX9_told_131 flX9_56 rfl rfl ?_
          refine A_getR dX9_told_134 flX9_117 rfl rfl ?_
          refine A_iload_n dX9_told_137 rfl ?_
          refine A_ialdN (j := k) dX9_told_138 rfl rfl hk8 (by decide) ?_
          refine A_iret dX9_told_139 rfl rfl ?_
          have h9 := ha k 3 rfl hk (by omega) hs19
          unfold toldN at h9
          rw [if_neg b120] at h9
          exact h9
        · refine A_iconst (v := (-1)) dX9_told_123 (by decide +kernel) ?_
          refine A_goto (tgt := 139) dX9_told_124 (by decide) ?_
          refine A_iret dX9_told_139 rfl rfl ?_
          have h9 := ha k 3 rfl hk (by omega) hs19
          unfold toldN at h9
          rw [if_pos b120] at h9
          exact h9
      · rw [hs19]
        refine A_tableIn (off := 121) (tgt := 140) dX9_told_19 (by decide +kernel) (by decide +kernel) (by decide +kernel) (by decide) ?_
        refine A_aload_n dX9_told_140 rfl ?_
        refine A_getR dX9_told_141 flX9_24 rfl rfl ?_
        refine A_getR dX9_told_144 flX9_120 rfl rfl ?_
        refine A_iload_n dX9_told_147 rfl ?_
        refine A_ialdN (j := k) dX9_told_148 rfl rfl hk8 (by decide) ?_
        refine A_iret dX9_told_149 rfl rfl ?_
        exact ha k 4 rfl hk (by omega) hs19
      · rw [hs19]
        refine A_tableIn (off := 131) (tgt := 150) dX9_told_19 (by decide +kernel) (by decide +kernel) (by decide +kernel) (by decide) ?_
        refine A_aload_n dX9_told_150 rfl ?_
        refine A_getR dX9_told_151 flX9_24 rfl rfl ?_
        refine A_getR dX9_told_154 flX9_123 rfl rfl ?_
        refine A_iload_n dX9_told_157 rfl ?_
        refine A_ialdN (j := k) dX9_told_158 rfl rfl hk8 (by decide) ?_
        refine A_iret dX9_told_159 rfl rfl ?_
        exact ha k 5 rfl hk (by omega) hs19
      · rw [hs19]
        refine A_tableIn (off := 141) (tgt := 160) dX9_told_19 (by decide +kernel) (by decide +kernel) (by decide +kernel) (by decide) ?_
        refine A_aload_n dX9_told_160 rfl ?_
        refine A_getR dX9_told_161 flX9_24 rfl rfl ?_
        refine A_getR dX9_told_164 flX9_126 rfl rfl ?_
        refine A_iload_n dX9_told_167 rfl ?_
        refine A_ialdN (j := k) dX9_told_168 rfl rfl hk8 (by decide) ?_
        refine A_iret dX9_told_169 rfl rfl ?_
        exact ha k 6 rfl hk (by omega) hs19
      · rw [hs19]
        refine A_tableIn (off := 151) (tgt := 170) dX9_told_19 (by decide +kernel) (by decide +kernel) (by decide +kernel) (by decide) ?_
        refine A_aload_n dX9_told_170 rfl ?_
        refine A_getR dX9_told_171 flX9_24 rfl rfl ?_
        refine A_getR dX9_told_174 flX9_129 rfl rfl ?_
        refine A_iload_n dX9_told_177 rfl ?_
        refine A_ialdN (j := k) dX9_told_178 rfl rfl hk8 (by decide) ?_
        refine A_iret dX9_told_179 rfl rfl ?_
        exact ha k 7 rfl hk (by omega) hs19
      · rw [hs19]
        refine A_tableIn (off := 161) (tgt := 180) dX9_told_19 (by decide +kernel) (by decide +kernel) (by decide +kernel) (by decide) ?_
        refine A_aload_n dX9_told_180 rfl ?_
        refine A_getR dX9_told_181 flX9_24 rfl rfl ?_
        refine A_getR dX9_told_184 flX9_132 rfl rfl ?_
        refine A_iload_n dX9_told_187 rfl ?_
        refine A_aald (j := k) dX9_told_188 rfl rfl hk8 (by decide) (row_get 33 hk8) ?_
        refine A_callS1 dX9_told_189 mlX9_136 (by decide) (Nat.le_of_ble_eq_true rfl) (c_sum (flow_33.row hk8) (by omega) ?_)
        refine Kn.s ?_
        refine A_iret dX9_told_192 rfl rfl ?_
        exact ha k 8 rfl hk (by omega) hs19
    · refine A_tableOut (tgt := 193) dX9_told_19 hs19 (by decide) ?_
      refine A_sipush (v := (-1002)) dX9_told_193 (by decide +kernel) ?_
      refine A_iret dX9_told_196 rfl rfl ?_
      exact ho g1' hs19
  · refine Kn.s ?_
    refine A_if_ne (tgt := 18) dX9_told_11 (by decide) (fun h => absurd h (by decide +kernel)) (fun _ => ?_)
    refine A_sipush (v := (-1001)) dX9_told_14 (by decide +kernel) ?_
    refine A_iret dX9_told_17 rfl rfl ?_
    exact hu g1
theorem c_inPipes {f w : Nat} (hF : FlowAt f w) {μ : MI} {ν : ML} {P : Po} (hP : P (some (.int (sumI (fun b => sumI (μ (f + 6 + b)) 20) 8))) μ ν) : Ct mX2_inPipes 1 [.ref f] μ ν P := by
  refine Ct.of (ls0 := [_, _, _]) (by decide) rfl (Nat.le_of_ble_eq_true rfl) rfl ?_
  have loop : ∀ (n i : Nat), 8 - i < n → i ≤ 8 → AW mX2_inPipes (1, none) P 4 [some (.ref f), some (.int (sumI (fun b => sumI (μ (f + 6 + b)) 20) i)), some (.int (nI i))] [] μ ν := by
    intro n
    induction n with
    | zero => intro i h; omega
    | succ n ih =>
      intro i hn hi
      refine A_iload_n dX2_inPipes_4 rfl ?_
      refine A_bipush (v := nI 8) dX2_inPipes_5 (by decide +kernel) ?_
      refine A_icmp_geN (tgt := 28) dX2_inPipes_7 (by decide) (by omega) (by omega) (fun b7 => ?_) (fun b7 => ?_)
      · refine A_iload_n dX2_inPipes_28 rfl ?_
        refine A_iret dX2_inPipes_29 rfl rfl ?_
        rw [show i = 8 by omega]; exact hP
      · refine A_iload_n dX2_inPipes_10 rfl ?_
        refine A_aload_n dX2_inPipes_11 rfl ?_
        refine A_getR dX2_inPipes_12 flX2_26 hF.l0 rfl ?_
        refine A_iload_n dX2_inPipes_15 rfl ?_
        refine A_aald (j := i) dX2_inPipes_16 hF.l5 rfl b7 (by decide) (row_get f b7) ?_
        refine A_callN1 dX2_inPipes_17 mlX2_172 (by decide) (Nat.le_of_ble_eq_true rfl) (c_sum (hF.row b7) (by omega) ?_)
        refine Kn.s ?_
        refine A_iadd dX2_inPipes_20 ?_
        refine A_istore_n (ls1 := [_, _, _]) dX2_inPipes_21 (by decide) rfl rfl ?_
        refine A_iincN (ls1 := [_, _, _]) dX2_inPipes_22 rfl (by decide) rfl rfl ?_
        refine A_goto (tgt := 4) dX2_inPipes_25 (by decide) ?_
        exact ih (i + 1) (by omega) (by omega)
  refine A_iconst (v := nI 0) dX2_inPipes_0 (by decide +kernel) ?_
  refine A_istore_n (ls1 := [_, _, _]) dX2_inPipes_1 (by decide) rfl rfl ?_
  refine A_iconst (v := nI 0) dX2_inPipes_2 (by decide +kernel) ?_
  refine A_istore_n (ls1 := [_, _, _]) dX2_inPipes_3 (by decide) rfl rfl ?_
  exact loop 9 0 (by omega) (by omega)
def countN (μ : MI) (j : Nat) : Int32 := match j with
  | 0 => μ 33 2
  | 1 => μ 2 0
  | 2 => μ 7 0
  | 3 => μ 12 0
  | 4 => μ 16 0
  | 5 => sumI (μ 36) 8
  | 6 => μ 33 3
  | 7 => sumI (μ 34) 8
  | 8 => sumI (fun b => sumI (μ (33 + 6 + b)) 20) 8
  | 9 => μ 33 4
  | 10 => μ 33 5
  | _ => μ 29 0
theorem c_count (what : Int32) {μ : MI} {ν : ML} {P : Po} (ha : ∀ j, j < 12 → what = nI j → P (some (.int (countN μ j))) μ ν) (ho : (what.toInt < 0 ∨ 11 < what.toInt) → P (some (.int (-1002))) μ ν) : Ct mX9_count 2 [.ref 0, .int what] μ ν P := by
  refine Ct.of (ls0 := [_, _]) (by decide) rfl (Nat.le_of_ble_eq_true rfl) rfl ?_
  refine A_iload_n dX9_count_0 rfl ?_
  rcases sw_of (what) (n := 12) (by decide) with ⟨k1, hk1, hs1⟩ | hs1
  · rcases (show k1 = 0 ∨ k1 = 1 ∨ k1 = 2 ∨ k1 = 3 ∨ k1 = 4 ∨ k1 = 5 ∨ k1 = 6 ∨ k1 = 7 ∨ k1 = 8 ∨ k1 = 9 ∨ k1 = 10 ∨ k1 = 11 by omega) with rfl | rfl | rfl | rfl | rfl | rfl | rfl | rfl | rfl | rfl | rfl | rfl
    · rw [hs1]
      refine A_tableIn (off := 63) (tgt := 64) dX9_count_1 (by decide +kernel) (by decide +kernel) (by decide +kernel) (by decide) ?_
      refine A_aload_n dX9_count_64 rfl ?_
      refine A_getR dX9_count_65 flX9_24 rfl rfl ?_
      refine A_getI dX9_count_68 flX9_140 rfl rfl ?_
      refine A_iret dX9_count_71 rfl rfl ?_
      exact ha 0 (by omega) hs1
    · rw [hs1]
      refine A_tableIn (off := 71) (tgt := 72) dX9_count_1 (by decide +kernel) (by decide +kernel) (by decide +kernel) (by decide) ?_
      refine A_aload_n dX9_count_72 rfl ?_
      refine A_getR dX9_count_73 flX9_12 rfl rfl ?_
      refine A_getR dX9_count_76 flX9_56 rfl rfl ?_
      refine A_getI dX9_count_79 flX9_143 rfl rfl ?_
      refine A_iret dX9_count_82 rfl rfl ?_
      exact ha 1 (by omega) hs1
    · rw [hs1]
      refine A_tableIn (off := 82) (tgt := 83) dX9_count_1 (by decide +kernel) (by decide +kernel) (by decide +kernel) (by decide) ?_
      refine A_aload_n dX9_count_83 rfl ?_
      refine A_getR dX9_count_84 flX9_12 rfl rfl ?_
      refine A_getR dX9_count_87 flX9_74 rfl rfl ?_
      refine A_getI dX9_count_90 flX9_146 rfl rfl ?_
      refine A_iret dX9_count_93 rfl rfl ?_
      exact ha 2 (by omega) hs1
    · rw [hs1]
      refine A_tableIn (off := 93) (tgt := 94) dX9_count_1 (by decide +kernel) (by decide +kernel) (by decide +kernel) (by decide) ?_
      refine A_aload_n dX9_count_94 rfl ?_
      refine A_getR dX9_count_95 flX9_12 rfl rfl ?_
      refine A_getR dX9_count_98 flX9_88 rfl rfl ?_
      refine A_getI dX9_count_101 flX9_147 rfl rfl ?_
      refine A_iret dX9_count_104 rfl rfl ?_
      exact ha 3 (by omega) hs1
    · rw [hs1]
      refine A_tableIn (off := 104) (tgt := 105) dX9_count_1 (by decide +kernel) (by decide +kernel) (by decide +kernel) (by decide) ?_
      refine A_aload_n dX9_count_105 rfl ?_
      refine A_getR dX9_count_106 flX9_12 rfl rfl ?_
      refine A_getR dX9_count_109 flX9_97 rfl rfl ?_
      refine A_getI dX9_count_112 flX9_148 rfl rfl ?_
      refine A_iret dX9_count_115 rfl rfl ?_
      exact ha 4 (by omega) hs1
    · rw [hs1]
      refine A_tableIn (off := 115) (tgt := 116) dX9_count_1 (by decide +kernel) (by decide +kernel) (by decide +kernel) (by decide) ?_
      refine A_aload_n dX9_count_116 rfl ?_
      refine A_getR dX9_count_117 flX9_24 rfl rfl ?_
      refine A_getR dX9_count_120 flX9_126 rfl rfl ?_
      refine A_callS1 dX9_count_123 mlX9_136 (by decide) (Nat.le_of_ble_eq_true rfl) (c_sum rfl (by omega) ?_)
      refine Kn.s ?_
      refine A_iret dX9_count_126 rfl rfl ?_
      exact ha 5 (by omega) hs1
    · rw [hs1]
      refine A_tableIn (off := 126) (tgt := 127) dX9_count_1 (by decide +kernel) (by decide +kernel) (by decide +kernel) (by decide) ?_
      refine A_aload_n dX9_count_127 rfl ?_
      refine A_getR dX9_count_128 flX9_24 rfl rfl ?_
      refine A_getI dX9_count_131 flX9_149 rfl rfl ?_
      refine A_iret dX9_count_134 rfl rfl ?_
      exact ha 6 (by omega) hs1
    · rw [hs1]
      refine A_tableIn (off := 134) (tgt := 135) dX9_count_1 (by decide +kernel) (by decide +kernel) (by decide +kernel) (by decide) ?_
      refine A_aload_n dX9_count_135 rfl ?_
      refine A_getR dX9_count_136 flX9_24 rfl rfl ?_
      refine A_getR dX9_count_139 flX9_120 rfl rfl ?_
      refine A_callS1 dX9_count_142 mlX9_136 (by decide) (Nat.le_of_ble_eq_true rfl) (c_sum rfl (by omega) ?_)
      refine Kn.s ?_
      refine A_iret dX9_count_145 rfl rfl ?_
      exact ha 7 (by omega) hs1
    · rw [hs1]
      refine A_tableIn (off := 145) (tgt := 146) dX9_count_1 (by decide +kernel) (by decide +kernel) (by decide +kernel) (by decide) ?_
      refine A_aload_n dX9_count_146 rfl ?_
      refine A_getR dX9_count_147 flX9_24 rfl rfl ?_
      refine A_callV0 dX9_count_150 mlX9_152 (by decide) rfl rfl (Nat.le_of_ble_eq_true rfl) (c_inPipes flow_33 ?_)
      refine Kn.s ?_
      refine A_iret dX9_count_153 rfl rfl ?_
      exact ha 8 (by omega) hs1
    · rw [hs1]
      refine A_tableIn (off := 153) (tgt := 154) dX9_count_1 (by decide +kernel) (by decide +kernel) (by decide +kernel) (by decide) ?_
      refine A_aload_n dX9_count_154 rfl ?_
      refine A_getR dX9_count_155 flX9_24 rfl rfl ?_
      refine A_getI dX9_count_158 flX9_156 rfl rfl ?_
      refine A_iret dX9_count_161 rfl rfl ?_
      exact ha 9 (by omega) hs1
    · rw [hs1]
      refine A_tableIn (off := 161) (tgt := 162) dX9_count_1 (by decide +kernel) (by decide +kernel) (by decide +kernel) (by decide) ?_
      refine A_aload_n dX9_count_162 rfl ?_
      refine A_getR dX9_count_163 flX9_24 rfl rfl ?_
      refine A_getI dX9_count_166 flX9_159 rfl rfl ?_
      refine A_iret dX9_count_169 rfl rfl ?_
      exact ha 10 (by omega) hs1
    · rw [hs1]
      refine A_tableIn (off := 169) (tgt := 170) dX9_count_1 (by decide +kernel) (by decide +kernel) (by decide +kernel) (by decide) ?_
      refine A_aload_n dX9_count_170 rfl ?_
      refine A_getR dX9_count_171 flX9_41 rfl rfl ?_
      refine A_getI dX9_count_174 flX9_162 rfl rfl ?_
      refine A_iret dX9_count_177 rfl rfl ?_
      exact ha 11 (by omega) hs1
  · refine A_tableOut (tgt := 178) dX9_count_1 hs1 (by decide) ?_
    refine A_sipush (v := (-1002)) dX9_count_178 (by decide +kernel) ?_
    refine A_iret dX9_count_181 rfl rfl ?_
    exact ho hs1
end
section
/-! the class's face, on: ticks, rows, meetings, what is heard -/
def advP (c tw : MI) (t : Nat) (S : St) : Nat → St
  | 0 => S
  | n + 1 => stepP c tw (t + n) (advP c tw t S n)
def cntP (c tw : MI) (t : Nat) (S : St) : Nat → Nat
  | 0 => 0
  | n + 1 => cntP c tw t S n + cntB (setP c tw (t + n) (advP c tw t S n)) (N (c 2 0))
theorem GC_adv {c tw : MI} (hC : WC c) {t : Nat} {S : St} (h : GC (N (c 2 0)) S) : ∀ n, GC (N (c 2 0)) (advP c tw t S n)
  | 0 => h
  | n + 1 => GC_step hC (GC_adv hC h n)
abbrev zeP : MI := tw0 (nI 0)
theorem c_tick (n : Int32) {t : Nat} (ht : t ≤ 2000) {S : St} {μ : MI} {ν : ML} {P : Po} (hC : WC μ) (hT : TW 19 zeP μ) (hR : RX 33 t S μ) (hG : GC (N (μ 2 0)) S) (ho : ¬ (nI 0 ≤ n ∧ n ≤ nI 200) → P (some (.int (-1002))) μ ν) (hn : ∀ k, n = nI k → k ≤ 200 → 2000 < t + k → P (some (.int (-1003))) μ ν) (ha : ∀ k μ', n = nI k → k ≤ 200 → t + k ≤ 2000 → RX 33 (t + k) (advP μ zeP t S k) μ' → Fr 33 14 μ μ' → P (some (.int (nI (cntP μ zeP t S k)))) μ' ν) : Ct mX9_tick 4 [.ref 0, .int n] μ ν P := by
  refine Ct.of (ls0 := [_, _, _, _]) (by decide) rfl (Nat.le_of_ble_eq_true rfl) rfl ?_
  have hnb8 := hC.1.1.2
  have loop : ∀ (k : Nat), n = nI k → k ≤ 200 → t + k ≤ 2000 → ∀ (q i : Nat) (μ1 : MI), k - i < q → i ≤ k → Fr 33 14 μ μ1 → RX 33 (t + i) (advP μ zeP t S i) μ1 → AW mX9_tick (4, none) P 38 [some (.ref 0), some (.int (nI k)), some (.int (nI (cntP μ zeP t S i))), some (.int (nI i))] [] μ1 ν := by
    intro k hk hk2 htk q
    induction q with
    | zero => intro i μ1 h; omega
    | succ q ih =>
      intro i μ1 hq hi hF1 hR1
      have hc1 : CX μ μ1 := (CX.rf μ).fr (by omega) hF1
      have hl : bitsN (setP μ zeP (t + i) (advP μ zeP t S i)) (N (μ 2 0)) < 256 := Nat.lt_of_lt_of_le (bitsN_lt _ _) (Nat.pow_le_pow_right (by omega) hnb8)
      refine A_iload_n dX9_tick_38 rfl ?_
      refine A_iload_n dX9_tick_39 rfl ?_
      refine A_icmp_geN (tgt := 62) dX9_tick_40 (by decide) (by omega) (by omega) (fun b40 => ?_) (fun b40 => ?_)
      · refine A_iload_n dX9_tick_62 rfl ?_
        refine A_iret dX9_tick_63 rfl rfl ?_
        rw [show i = k by omega] at hR1 ⊢
        exact ha k μ1 hk hk2 htk hR1 hF1
      · refine A_iload_n dX9_tick_43 rfl ?_
        refine A_aload_n dX9_tick_44 rfl ?_
        refine A_getR dX9_tick_45 flX9_24 rfl rfl ?_
        refine A_callV0 dX9_tick_48 mlX9_163 (by decide) rfl rfl (Nat.le_of_ble_eq_true rfl) (c_stepC flow_33 (by omega) hC hc1 (hT.fr (by omega) hF1) hR1 (GC_adv hC hG i) (fun μ2 hR2 hF2 => ?_))
        refine Kn.s ?_
        refine A_callS1 dX9_tick_51 mlX9_166 (by decide) (Nat.le_of_ble_eq_true rfl) (c_ibc hl ?_)
        refine Kn.s ?_
        refine A_iaddN dX9_tick_54 ?_
        refine A_istore_n (ls1 := [_, _, _, _]) dX9_tick_55 (by decide) rfl rfl ?_
        refine A_iincN (ls1 := [_, _, _, _]) dX9_tick_56 rfl (by decide) rfl rfl ?_
        refine A_goto (tgt := 38) dX9_tick_59 (by decide) ?_
        have h9 := ih (i + 1) μ2 (by omega) (by omega) (hF1.tr hF2) hR2
        rw [cntP, ← popN_8 _ hnb8] at h9
        exact h9
  refine A_iload_n dX9_tick_0 rfl ?_
  refine A_iconst (v := nI 0) dX9_tick_1 (by decide +kernel) ?_
  refine A_sipush (v := nI 200) dX9_tick_2 (by decide +kernel) ?_
  refine A_callS3 dX9_tick_5 mlX9_52 (by decide) (Nat.le_of_ble_eq_true rfl) (c_within _ _ _ (fun g1 g2 => ?_) (fun g3 => ?_))
  · refine Kn.s ?_
    refine A_if_ne (tgt := 15) dX9_tick_8 (by decide) (fun _ => ?_) (fun h => absurd h (by decide +kernel))
    obtain ⟨k, hk, rfl⟩ := nI_of2 (M := nI 200) (n := 200) rfl (i_le_n g1) g2
    refine A_aload_n dX9_tick_15 rfl ?_
    refine A_getR dX9_tick_16 flX9_24 rfl rfl ?_
    refine A_getI dX9_tick_19 flX9_140 rfl rfl ?_
    rw [hR.1.1]
    refine A_iload_n dX9_tick_22 rfl ?_
    refine A_iadd dX9_tick_23 ?_
    rw [nI_add]
    refine A_sipush (v := nI 2000) dX9_tick_24 (by decide +kernel) ?_
    refine A_icmp_leN (tgt := 34) dX9_tick_27 (by decide) (by omega) (by omega) (fun b27 => ?_) (fun b27 => ?_)
    · refine A_iconst (v := nI 0) dX9_tick_34 (by decide +kernel) ?_
      refine A_istore_n (ls1 := [_, _, _, _]) dX9_tick_35 (by decide) rfl rfl ?_
      refine A_iconst (v := nI 0) dX9_tick_36 (by decide +kernel) ?_
      refine A_istore_n (ls1 := [_, _, _, _]) dX9_tick_37 (by decide) rfl rfl ?_
      exact loop k rfl hk (by omega) (k + 1) 0 μ (by omega) (by omega) Fr.rf hR
    · refine A_sipush (v := (-1003)) dX9_tick_30 (by decide +kernel) ?_
      refine A_iret dX9_tick_33 rfl rfl ?_
      exact hn k rfl hk b27
  · refine Kn.s ?_
    refine A_if_ne (tgt := 15) dX9_tick_8 (by decide) (fun h => absurd h (by decide +kernel)) (fun _ => ?_)
    refine A_sipush (v := (-1002)) dX9_tick_11 (by decide +kernel) ?_
    refine A_iret dX9_tick_14 rfl rfl ?_
    exact ho g3
theorem c_again {t : Nat} {S : St} {μ : MI} {ν : ML} {P : Po} (hR : RX 33 t S μ) (ha : ∀ μ', RX 33 0 S0 μ' → Fr 33 14 μ μ' → P (some (.int (nI t))) μ' ν) : Ct mX9_again 2 [.ref 0] μ ν P := by
  refine Ct.of (ls0 := [_, _]) (by decide) rfl (Nat.le_of_ble_eq_true rfl) rfl ?_
  refine A_aload_n dX9_again_0 rfl ?_
  refine A_getR dX9_again_1 flX9_24 rfl rfl ?_
  refine A_getI dX9_again_4 flX9_140 rfl rfl ?_
  rw [hR.1.1]
  refine A_istore_n (ls1 := [_, _]) dX9_again_7 (by decide) rfl rfl ?_
  refine A_aload_n dX9_again_8 rfl ?_
  refine A_getR dX9_again_9 flX9_24 rfl rfl ?_
  refine A_callV0 dX9_again_12 mlX9_172 (by decide) rfl rfl (Nat.le_of_ble_eq_true rfl) (c_begin flow_33 (fun μ' h1 h2 => ?_))
  refine Kn.v ?_
  refine A_iload_n dX9_again_15 rfl ?_
  refine A_iret dX9_again_16 rfl rfl ?_
  exact ha μ' h1 h2
/-- whether a bucket knocks at a run's tick -/
def kb (c tw : MI) (b t : Nat) : Bool := setP c tw t (runP c tw t) b
theorem lN_or_bit {a q t : Nat} (ht : t < 60) (ha : a < 2 ^ t) (hq : q ≤ 1) : lN a ||| (lN q <<< ((nI t).toInt64 &&& 63)) = lN (a + q * 2 ^ t) := by
  have h60 : 2 ^ t < 2 ^ 64 := wb_lt2 (by omega)
  have h2 : 2 ^ t + 2 ^ t ≤ 2 ^ 64 := by
    have := Nat.pow_le_pow_right (n := 2) (by omega) (show t + 1 ≤ 64 by omega)
    rw [Nat.pow_succ] at this
    omega
  rw [wb_shl q (by omega)]
  rcases (show q = 0 ∨ q = 1 by omega) with rfl | rfl
  · rw [Nat.zero_mul, wb_or (by omega) (by omega), Nat.or_zero, Nat.add_zero]
  · exact g_or' (p := 2 ^ t) rfl ha (by omega)
theorem c_row (b p : Int32) {m : Nat} {c μ : MI} {ν : ML} {P : Po} (hp : p = nI 0 ∨ p = nI 1) (hC : WC c) (hc : CX c μ) (hm : c 2 0 = nI m) (hm8 : m ≤ 8) (hu : ¬ inR b m → P (some (.long (-1001))) μ ν) (ha : ∀ k μ', b = nI k → k < m → Sc μ μ' → P (some (.long (lN (bitsN (fun t => kb c (tw0 p) k t) 60)))) μ' ν) : Ct mX9_row 4 [.ref 0, .int b, .int p] μ ν P := by
  refine Ct.of (ls0 := [_, _, _, _, _, _, _, _]) (by decide) rfl (Nat.le_of_ble_eq_true rfl) rfl ?_
  have hN : N (c 2 0) = m := by rw [hm]; exact N_nI (by omega)
  have hm2 : μ 2 0 = nI m := (hc 2 (by omega) (by omega) 0).trans hm
  have loop : ∀ (k : Nat), b = nI k → k < m → ∀ (q i : Nat) (μ1 : MI), 60 - i < q → i ≤ 60 → Sc μ μ1 → TW 24 (tw0 p) μ1 → RX 47 i (runP c (tw0 p) i) μ1 → AW mX9_row (4, none) P 38 [some (.ref 0), some (.int (nI k)), some (.int p), some (.long (lN (bitsN (fun t => kb c (tw0 p) k t) i))), none, some (.int (nI i)), none, none] [] μ1 ν := by
    intro k hk hk2 q
    induction q with
    | zero => intro i μ1 h; omega
    | succ q ih =>
      intro i μ1 hq hi hF1 hT1 hR1
      refine A_iload dX9_row_38 rfl ?_
      refine A_bipush (v := nI 60) dX9_row_40 (by decide +kernel) ?_
      refine A_icmp_geN (tgt := 73) dX9_row_42 (by decide) (by omega) (by omega) (fun b42 => ?_) (fun b42 => ?_)
      · refine A_lload_n dX9_row_73 rfl ?_
        refine A_lret dX9_row_74 rfl ?_
        rw [show i = 60 by omega]
        exact ha k μ1 hk hk2 hF1
      · refine A_aload_n dX9_row_45 rfl ?_
        refine A_getR dX9_row_46 flX9_32 rfl rfl ?_
        refine A_callV0 dX9_row_49 mlX9_163 (by decide) rfl rfl (Nat.le_of_ble_eq_true rfl) (c_stepC flow_47 (by omega) hC (hF1.cx hc) hT1 hR1 (GC_run hC i) (fun μ2 hR2 hF2 => ?_))
        refine Kn.s ?_
        refine A_iload_n dX9_row_52 rfl ?_
        refine A_iushr dX9_row_53 ?_
        refine A_iconst (v := nI 1) dX9_row_54 (by decide +kernel) ?_
        refine A_iand dX9_row_55 ?_
        rw [hN, ushr_bit _ hm8 (by omega)]
        refine A_i2l dX9_row_56 ?_
        refine A_lstore (ls1 := [_, _, _, _, _, _, _, _]) dX9_row_57 (by decide) rfl rfl ?_
        refine A_lload_n dX9_row_59 rfl ?_
        refine A_lload dX9_row_60 rfl ?_
        refine A_iload dX9_row_62 rfl ?_
        refine A_lshl dX9_row_64 ?_
        refine A_lor dX9_row_65 ?_
        refine A_lstore_n (ls1 := [_, _, _, _, _, _, _, _]) dX9_row_66 (by decide) rfl rfl ?_
        have h01 : (if k < m ∧ setP c (tw0 p) i (runP c (tw0 p) i) k = true then 1 else 0) ≤ 1 := by split <;> omega
        rw [nI_l (by omega), lN_or_bit b42 (bitsN_lt _ _) h01]
        refine A_iincN (ls1 := [_, _, _, _, _, _, _, _]) dX9_row_67 rfl (by decide) rfl rfl ?_
        refine A_goto (tgt := 38) dX9_row_70 (by decide) ?_
        have h9 := ih (i + 1) μ2 (by omega) (by omega) (hF1.tr (Sc.fr hF2 (Or.inr (by omega)))) (hT1.fr (by omega) hF2) hR2
        have e : bitsN (fun t => kb c (tw0 p) k t) (i + 1) = bitsN (fun t => kb c (tw0 p) k t) i + (if k < m ∧ setP c (tw0 p) i (runP c (tw0 p) i) k = true then 1 else 0) * 2 ^ i := by
          rw [bitsN]
          congr 1
          unfold kb
          by_cases h : setP c (tw0 p) i (runP c (tw0 p) i) k = true
          · rw [if_pos h, if_pos ⟨hk2, h⟩, Nat.one_mul]
          · rw [if_neg h, if_neg (fun z => h z.2), Nat.zero_mul]
        rw [e] at h9
        exact A_weak h9 (by repeat first | exact fw_0 | refine fw_s ?_ | refine fw_n ?_)
  refine A_aload_n dX9_row_0 rfl ?_
  refine A_getR dX9_row_1 flX9_12 rfl rfl ?_
  refine A_getR dX9_row_4 flX9_56 rfl rfl ?_
  refine A_iload_n dX9_row_7 rfl ?_
  refine A_callV1 dX9_row_8 mlX9_66 (by decide) rfl rfl (Nat.le_of_ble_eq_true rfl) (c_has _ hm2 hm8 (fun g1 => ?_) (fun g1 => ?_))
  · refine Kn.s ?_
    refine A_if_ne (tgt := 18) dX9_row_11 (by decide) (fun _ => ?_) (fun h => absurd h (by decide +kernel))
    refine A_aload_n dX9_row_18 rfl ?_
    refine A_getR dX9_row_19 flX9_28 rfl rfl ?_
    refine A_iload_n dX9_row_22 rfl ?_
    refine A_callV1 dX9_row_23 mlX9_177 (by decide) rfl rfl (Nat.le_of_ble_eq_true rfl) (c_reset _ hp (fun μ1 hT1 hF1 => ?_))
    refine Kn.v ?_
    refine A_aload_n dX9_row_26 rfl ?_
    refine A_getR dX9_row_27 flX9_32 rfl rfl ?_
    refine A_callV0 dX9_row_30 mlX9_172 (by decide) rfl rfl (Nat.le_of_ble_eq_true rfl) (c_begin flow_47 (fun μ2 hR2 hF2 => ?_))
    refine Kn.v ?_
    refine A_lconst (v := 0) dX9_row_33 rfl ?_
    refine A_lstore_n (ls1 := [_, _, _, _, _, _, _, _]) dX9_row_34 (by decide) rfl rfl ?_
    refine A_iconst (v := nI 0) dX9_row_35 (by decide +kernel) ?_
    refine A_istore (ls1 := [_, _, _, _, _, _, _, _]) dX9_row_36 (by decide) rfl rfl ?_
    obtain ⟨k, hk, hk2⟩ := g1
    have h9 := loop k hk hk2 61 0 μ2 (by omega) (by omega) ((Sc.fr hF1 (Or.inl (by omega))).tr (Sc.fr hF2 (Or.inr (by omega)))) (hT1.fr (by omega) hF2) hR2
    rw [← hk] at h9
    exact A_weak h9 (by repeat first | exact fw_0 | refine fw_s ?_ | refine fw_n ?_)
  · refine Kn.s ?_
    refine A_if_ne (tgt := 18) dX9_row_11 (by decide) (fun h => absurd h (by decide +kernel)) (fun _ => ?_)
    refine A_ldc2 dX9_row_14 kcX9_175 ?_
    refine A_lret dX9_row_17 rfl ?_
    exact hu g1
theorem both_ok (K : Nat → Bool) {n b d : Nat} (hn : n ≤ 8) (hb : b < 8) (hd : d < 8) : (nI (bitsN K n) &&& ((nI 1 <<< (nI b &&& 31)) ||| (nI 1 <<< (nI d &&& 31))) = (nI 1 <<< (nI b &&& 31)) ||| (nI 1 <<< (nI d &&& 31))) ↔ (b < n ∧ K b = true) ∧ (d < n ∧ K d = true) := by
  have e : ∀ i, i < 8 → nI 1 <<< (nI i &&& 31) = nI (2 ^ i) := by decide +kernel
  have e2 : ∀ i, i < 8 → ∀ j, j < 8 → nI (2 ^ i) ||| nI (2 ^ j) = nI (2 ^ i ||| 2 ^ j) := by decide +kernel
  have hl : bitsN K n < 256 := Nat.lt_of_lt_of_le (bitsN_lt K n) (Nat.pow_le_pow_right (by omega) hn)
  have hp : ∀ i, i < 8 → 2 ^ i < 2 ^ 8 := fun i hi => wb_lt2 hi
  have hor : 2 ^ b ||| 2 ^ d < 2 ^ 8 := Nat.or_lt_two_pow (hp b hb) (hp d hd)
  have hand : bitsN K n &&& (2 ^ b ||| 2 ^ d) < 2 ^ 8 := Nat.and_lt_two_pow _ hor
  rw [e b hb, e d hd, e2 b hb d hd, nx_and, nI_eq (by omega) (by omega)]
  have tb : ∀ i, (bitsN K n).testBit i = true ↔ i < n ∧ K i = true := fun i => by rw [bitsN_bit]; simp
  rw [← tb b, ← tb d]
  constructor
  · intro h
    have h1 : ∀ i, (2 ^ b ||| 2 ^ d).testBit i = true → (bitsN K n).testBit i = true := fun i hi => by
      rw [← h, Nat.testBit_and, Bool.and_eq_true] at hi
      exact hi.1
    exact ⟨h1 b (by simp [Nat.testBit_or, Nat.testBit_two_pow_self]), h1 d (by simp [Nat.testBit_or, Nat.testBit_two_pow_self])⟩
  · rintro ⟨h1, h2⟩
    apply Nat.eq_of_testBit_eq
    intro i
    rw [Nat.testBit_and]
    by_cases hi : (2 ^ b ||| 2 ^ d).testBit i = true
    · rw [hi, Bool.and_true]
      rw [Nat.testBit_or, Nat.testBit_two_pow, Nat.testBit_two_pow] at hi
      simp only [Bool.or_eq_true, decide_eq_true_eq] at hi
      rcases hi with rfl | rfl
      · exact h1
      · exact h2
    · have hf : (2 ^ b ||| 2 ^ d).testBit i = false := Bool.eq_false_iff.mpr hi
      rw [hf, Bool.and_false]
theorem c_meeting (b d : Int32) {m : Nat} {c μ : MI} {ν : ML} {P : Po} (hC : WC c) (hc : CX c μ) (hm : c 2 0 = nI m) (hm8 : m ≤ 8) (hu : (¬ inR b m ∨ ¬ inR d m) → P (some (.int (-1001))) μ ν) (hn : inR b m → inR d m → b = d → P (some (.int (-1003))) μ ν) (h1 : ∀ i j t μ', b = nI i → i < m → d = nI j → j < m → ¬ b = d → t < 1000 → (kb c plP i t = true ∧ kb c plP j t = true) → (∀ u, u < t → ¬ (kb c plP i u = true ∧ kb c plP j u = true)) → Sc μ μ' → P (some (.int (nI t))) μ' ν) (h0 : ∀ i j μ', b = nI i → i < m → d = nI j → j < m → ¬ b = d → (∀ u, u < 1000 → ¬ (kb c plP i u = true ∧ kb c plP j u = true)) → Sc μ μ' → P (some (.int (-1))) μ' ν) : Ct mX9_meeting 4 [.ref 0, .int b, .int d] μ ν P := by
  refine Ct.of (ls0 := [_, _, _, _, _]) (by decide) rfl (Nat.le_of_ble_eq_true rfl) rfl ?_
  have hN : N (c 2 0) = m := by rw [hm]; exact N_nI (by omega)
  have hm2 : μ 2 0 = nI m := (hc 2 (by omega) (by omega) 0).trans hm
  have loop : ∀ (k j : Nat), b = nI k → k < m → d = nI j → j < m → ¬ b = d → ∀ (q i : Nat) (μ1 : MI), 1000 - i < q → i ≤ 1000 → Sc μ μ1 → TW 24 plP μ1 → RX 47 i (runP c plP i) μ1 → (∀ u, u < i → ¬ (kb c plP k u = true ∧ kb c plP j u = true)) → AW mX9_meeting (4, none) P 67 [some (.ref 0), some (.int b), some (.int d), some (.int ((nI 1 <<< (nI k &&& 31)) ||| (nI 1 <<< (nI j &&& 31)))), some (.int (nI i))] [] μ1 ν := by
    intro k j hk hk2 hj hj2 hne q
    induction q with
    | zero => intro i μ1 h; omega
    | succ q ih =>
      intro i μ1 hq hi hF1 hT1 hR1 hg
      refine A_iload dX9_meeting_67 rfl ?_
      refine A_sipush (v := nI 1000) dX9_meeting_69 (by decide +kernel) ?_
      refine A_icmp_geN (tgt := 97) dX9_meeting_72 (by decide) (by omega) (by omega) (fun b72 => ?_) (fun b72 => ?_)
      · refine A_iconst (v := (-1)) dX9_meeting_97 (by decide +kernel) ?_
        refine A_iret dX9_meeting_98 rfl rfl ?_
        rw [show i = 1000 by omega] at hg
        exact h0 k j μ1 hk hk2 hj hj2 hne hg hF1
      · refine A_aload_n dX9_meeting_75 rfl ?_
        refine A_getR dX9_meeting_76 flX9_32 rfl rfl ?_
        refine A_callV0 dX9_meeting_79 mlX9_163 (by decide) rfl rfl (Nat.le_of_ble_eq_true rfl) (c_stepC flow_47 (by omega) hC (hF1.cx hc) hT1 hR1 (GC_run hC i) (fun μ2 hR2 hF2 => ?_))
        refine Kn.s ?_
        refine A_iload_n dX9_meeting_82 rfl ?_
        refine A_iand dX9_meeting_83 ?_
        refine A_iload_n dX9_meeting_84 rfl ?_
        refine A_icmp_ne (tgt := 91) dX9_meeting_85 (by decide) (fun b85 => ?_) (fun b85 => ?_)
        · refine A_iincN (ls1 := [_, _, _, _, _]) dX9_meeting_91 rfl (by decide) rfl rfl ?_
          refine A_goto (tgt := 67) dX9_meeting_94 (by decide) ?_
          refine ih (i + 1) μ2 (by omega) (by omega) (hF1.tr (Sc.fr hF2 (Or.inr (by omega)))) (hT1.fr (by omega) hF2) hR2 (fun u hu => ?_)
          by_cases e : u = i
          · subst e
            rw [hN, both_ok _ hm8 (by omega) (by omega)] at b85
            exact fun z => b85 ⟨⟨hk2, z.1⟩, hj2, z.2⟩
          · exact hg u (by omega)
        · refine A_iload dX9_meeting_88 rfl ?_
          refine A_iret dX9_meeting_90 rfl rfl ?_
          rw [hN, both_ok _ hm8 (by omega) (by omega)] at b85
          exact h1 k j i μ2 hk hk2 hj hj2 hne b72 ⟨b85.1.2, b85.2.2⟩ hg (hF1.tr (Sc.fr hF2 (Or.inr (by omega))))
  refine A_aload_n dX9_meeting_0 rfl ?_
  refine A_getR dX9_meeting_1 flX9_12 rfl rfl ?_
  refine A_getR dX9_meeting_4 flX9_56 rfl rfl ?_
  refine A_iload_n dX9_meeting_7 rfl ?_
  refine A_callV1 dX9_meeting_8 mlX9_66 (by decide) rfl rfl (Nat.le_of_ble_eq_true rfl) (c_has _ hm2 hm8 (fun g1 => ?_) (fun g1 => ?_))
  · refine Kn.s ?_
    refine A_if_eq (tgt := 28) dX9_meeting_11 (by decide) (fun h => absurd h (by decide +kernel)) (fun _ => ?_)
    refine A_aload_n dX9_meeting_14 rfl ?_
    refine A_getR dX9_meeting_15 flX9_12 rfl rfl ?_
    refine A_getR dX9_meeting_18 flX9_56 rfl rfl ?_
    refine A_iload_n dX9_meeting_21 rfl ?_
    refine A_callV1 dX9_meeting_22 mlX9_66 (by decide) rfl rfl (Nat.le_of_ble_eq_true rfl) (c_has _ hm2 hm8 (fun g2 => ?_) (fun g2 => ?_))
    · refine Kn.s ?_
      refine A_if_ne (tgt := 32) dX9_meeting_25 (by decide) (fun _ => ?_) (fun h => absurd h (by decide +kernel))
      refine A_iload_n dX9_meeting_32 rfl ?_
      refine A_iload_n dX9_meeting_33 rfl ?_
      refine A_icmp_ne (tgt := 41) dX9_meeting_34 (by decide) (fun b34 => ?_) (fun b34 => ?_)
      · refine A_iconst (v := nI 1) dX9_meeting_41 (by decide +kernel) ?_
        refine A_iload_n dX9_meeting_42 rfl ?_
        refine A_ishl dX9_meeting_43 ?_
        refine A_iconst (v := nI 1) dX9_meeting_44 (by decide +kernel) ?_
        refine A_iload_n dX9_meeting_45 rfl ?_
        refine A_ishl dX9_meeting_46 ?_
        refine A_ior dX9_meeting_47 ?_
        refine A_istore_n (ls1 := [_, _, _, _, _]) dX9_meeting_48 (by decide) rfl rfl ?_
        refine A_aload_n dX9_meeting_49 rfl ?_
        refine A_getR dX9_meeting_50 flX9_28 rfl rfl ?_
        refine A_iconst (v := nI 1) dX9_meeting_53 (by decide +kernel) ?_
        refine A_callV1 dX9_meeting_54 mlX9_177 (by decide) rfl rfl (Nat.le_of_ble_eq_true rfl) (c_reset _ (Or.inr rfl) (fun μ1 hT1 hF1 => ?_))
        refine Kn.v ?_
        refine A_aload_n dX9_meeting_57 rfl ?_
        refine A_getR dX9_meeting_58 flX9_32 rfl rfl ?_
        refine A_callV0 dX9_meeting_61 mlX9_172 (by decide) rfl rfl (Nat.le_of_ble_eq_true rfl) (c_begin flow_47 (fun μ2 hR2 hF2 => ?_))
        refine Kn.v ?_
        refine A_iconst (v := nI 0) dX9_meeting_64 (by decide +kernel) ?_
        refine A_istore (ls1 := [_, _, _, _, _]) dX9_meeting_65 (by decide) rfl rfl ?_
        obtain ⟨k, hk, hk2⟩ := g1
        obtain ⟨j, hj, hj2⟩ := g2
        have h9 := loop k j hk hk2 hj hj2 b34 1001 0 μ2 (by omega) (by omega) ((Sc.fr hF1 (Or.inl (by omega))).tr (Sc.fr hF2 (Or.inr (by omega)))) (hT1.fr (by omega) hF2) hR2 (fun u hu => by omega)
        rw [← hk, ← hj] at h9
        exact h9
      · refine A_sipush (v := (-1003)) dX9_meeting_37 (by decide +kernel) ?_
        refine A_iret dX9_meeting_40 rfl rfl ?_
        exact hn g1 g2 b34
    · refine Kn.s ?_
      refine A_if_ne (tgt := 32) dX9_meeting_25 (by decide) (fun h => absurd h (by decide +kernel)) (fun _ => ?_)
      refine A_sipush (v := (-1001)) dX9_meeting_28 (by decide +kernel) ?_
      refine A_iret dX9_meeting_31 rfl rfl ?_
      exact hu (Or.inr g2)
  · refine Kn.s ?_
    refine A_if_eq (tgt := 28) dX9_meeting_11 (by decide) (fun _ => ?_) (fun h => absurd h (by decide +kernel))
    refine A_sipush (v := (-1001)) dX9_meeting_28 (by decide +kernel) ?_
    refine A_iret dX9_meeting_31 rfl rfl ?_
    exact hu (Or.inl g1)
end
section
/-! what was heard, and who is blamed (the class) -/
def uL (x : Int64) : Nat := x.toBitVec.toNat
theorem uL_lt (x : Int64) : uL x < 2 ^ 64 := x.toBitVec.isLt
theorem lN_uL (x : Int64) : lN (uL x) = x := wb_inj (by rw [wb_tb]; exact BitVec.ofNat_toNat 64 x.toBitVec ▸ (by simp [uL]))
theorem uL_lN {n : Nat} (h : n < 2 ^ 64) : uL (lN n) = n := wb_tn h
theorem hi_and {n : Nat} (h : n < 2 ^ 64) : (n &&& (15 * 2 ^ 60) = 0) ↔ n < 2 ^ 60 := by
  have e : n &&& (15 * 2 ^ 60) = (n / 2 ^ 60 &&& 15) * 2 ^ 60 := by
    apply Nat.eq_of_testBit_eq
    intro i
    rw [Nat.testBit_and, Nat.testBit_mul_two_pow, Nat.testBit_mul_two_pow, Nat.testBit_and, Nat.testBit_div_two_pow]
    by_cases h1 : 60 ≤ i
    · rw [show i - 60 + 60 = i by omega]
      simp [h1]
    · simp [h1]
  have e2 : n / 2 ^ 60 &&& 15 = n / 2 ^ 60 := by
    have : n / 2 ^ 60 < 16 := Nat.div_lt_of_lt_mul (by omega)
    rw [show (15 : Nat) = 2 ^ 4 - 1 by decide, Nat.and_two_pow_sub_one_eq_mod, Nat.mod_eq_of_lt this]
  rw [e, e2]
  omega
theorem c_isRow (r : Int64) {μ : MI} {ν : ML} {P : Po} (h1 : uL r < 2 ^ 60 → P (some (.int (nI 1))) μ ν) (h0 : ¬ uL r < 2 ^ 60 → P (some (.int (nI 0))) μ ν) : Ct mX9_isRow 0 [.long r] μ ν P := by
  have hr : (r &&& (-1152921504606846976)) = 0 ↔ uL r < 2 ^ 60 := by
    rw [← hi_and (uL_lt r)]
    have e : r &&& (-1152921504606846976) = lN (uL r &&& (15 * 2 ^ 60)) := by
      have e1 : (-1152921504606846976 : Int64) = lN (15 * 2 ^ 60) := by decide +kernel
      rw [e1]
      conv => lhs; rw [← lN_uL r]
      rw [wb_and (uL_lt r) (by decide)]
    rw [e]
    constructor
    · intro h
      have h2 : lN (uL r &&& 15 * 2 ^ 60) = lN 0 := h
      have h3 := congrArg (fun x : Int64 => x.toBitVec.toNat) h2
      have h4 : uL r &&& 15 * 2 ^ 60 < 2 ^ 64 := Nat.and_lt_two_pow _ (by decide)
      simpa [wb_tn h4, wb_tn (show 0 < 2 ^ 64 by decide)] using h3
    · intro h
      rw [h]
      rfl
  refine Ct.of (ls0 := [_, _]) (by decide) rfl (Nat.le_of_ble_eq_true rfl) rfl ?_
  refine A_lload_n dX9_isRow_0 rfl ?_
  refine A_ldc2 dX9_isRow_1 kcX9_236 ?_
  refine A_land dX9_isRow_4 ?_
  refine A_lconst (v := 0) dX9_isRow_5 rfl ?_
  refine A_lcmp dX9_isRow_6 ?_
  refine A_if_ne (tgt := 14) dX9_isRow_7 (by decide) (fun b7 => ?_) (fun b7 => ?_)
  · refine A_iconst (v := nI 0) dX9_isRow_14 (by decide +kernel) ?_
    refine A_iret dX9_isRow_15 rfl (by decide +kernel) ?_
    exact h0 (fun q => b7 ((lg_cmp_eq _ _).mpr (hr.mpr q)))
  · refine A_iconst (v := nI 1) dX9_isRow_10 (by decide +kernel) ?_
    refine A_goto (tgt := 15) dX9_isRow_11 (by decide) ?_
    refine A_iret dX9_isRow_15 rfl (by decide +kernel) ?_
    exact h1 (hr.mp ((lg_cmp_eq _ _).mp b7))
theorem c_note {b : Nat} (hb : b < 8) (r : Int64) {μ : MI} {ν : ML} {P : Po} (h0 : μ 30 b = 0 → P (some (.int (μ 29 0 + 1))) (up2 (up2 μ 30 b 1) 29 0 (μ 29 0 + 1)) (up2 ν 31 b r)) (h1 : ¬ μ 30 b = 0 → P (some (.int (μ 29 0))) μ (up2 ν 31 b r)) : Ct mX4_note 0 [.ref 29, .int (nI b), .long r] μ ν P := by
  refine Ct.of (ls0 := [_, _, _, _]) (by decide) rfl (Nat.le_of_ble_eq_true rfl) rfl ?_
  refine A_aload_n dX4_note_0 rfl ?_
  refine A_getR dX4_note_1 flX4_9 rfl rfl ?_
  refine A_iload_n dX4_note_4 rfl ?_
  refine A_zaldN (j := b) dX4_note_5 rfl rfl hb (by decide) ?_
  refine A_if_ne (tgt := 26) dX4_note_6 (by decide) (fun b6 => ?_) (fun b6 => ?_)
  · refine A_aload_n dX4_note_26 rfl ?_
    refine A_getR dX4_note_27 flX4_15 rfl rfl ?_
    refine A_iload_n dX4_note_30 rfl ?_
    refine A_lload_n dX4_note_31 rfl ?_
    refine A_lastN (j := b) dX4_note_32 rfl rfl hb (by decide) ?_
    refine A_aload_n dX4_note_33 rfl ?_
    refine A_getI dX4_note_34 flX4_19 rfl rfl ?_
    refine A_iret dX4_note_37 rfl rfl ?_
    exact h1 b6
  · refine A_aload_n dX4_note_9 rfl ?_
    refine A_getR dX4_note_10 flX4_9 rfl rfl ?_
    refine A_iload_n dX4_note_13 rfl ?_
    refine A_iconst (v := nI 1) dX4_note_14 (by decide +kernel) ?_
    refine A_zastN (j := b) dX4_note_15 rfl rfl hb (by decide) rfl ?_
    refine A_aload_n dX4_note_16 rfl ?_
    refine A_dup dX4_note_17 rfl ?_
    refine A_getI dX4_note_18 flX4_19 rfl rfl ?_
    refine A_iconst (v := nI 1) dX4_note_21 (by decide +kernel) ?_
    refine A_iadd dX4_note_22 ?_
    refine A_put dX4_note_23 fpX4_19 rfl rfl rfl rfl ?_
    refine A_aload_n dX4_note_26 rfl ?_
    refine A_getR dX4_note_27 flX4_15 rfl rfl ?_
    refine A_iload_n dX4_note_30 rfl ?_
    refine A_lload_n dX4_note_31 rfl ?_
    refine A_lastN (j := b) dX4_note_32 rfl rfl hb (by decide) ?_
    refine A_aload_n dX4_note_33 rfl ?_
    refine A_getI dX4_note_34 flX4_19 rfl rfl ?_
    refine A_iret dX4_note_37 rfl rfl ?_
    have h9 := h0 b6
    simp (disch := omega) only [up2_a, up2_s]
    exact h9
theorem c_forget {μ : MI} {ν : ML} {P : Po} (hP : P none (fillX (up2 μ 29 0 0) 30 8 0) ν) : Ct mX4_forget 0 [.ref 29] μ ν P := by
  refine Ct.of (ls0 := [_, _]) (by decide) rfl (Nat.le_of_ble_eq_true rfl) rfl ?_
  have loop : ∀ (n i : Nat), 8 - i < n → i ≤ 8 → AW mX4_forget (0, none) P 7 [some (.ref 29), some (.int (nI i))] [] (fillX (up2 μ 29 0 0) 30 i 0) ν := by
    intro n
    induction n with
    | zero => intro i h; omega
    | succ n ih =>
      intro i hn hi
      refine A_iload_n dX4_forget_7 rfl ?_
      refine A_bipush (v := nI 8) dX4_forget_8 (by decide +kernel) ?_
      refine A_icmp_geN (tgt := 26) dX4_forget_10 (by decide) (by omega) (by omega) (fun b10 => ?_) (fun b10 => ?_)
      · refine A_vret dX4_forget_26 rfl ?_
        rw [show i = 8 by omega]; exact hP
      · refine A_aload_n dX4_forget_13 rfl ?_
        refine A_getR dX4_forget_14 flX4_9 rfl rfl ?_
        refine A_iload_n dX4_forget_17 rfl ?_
        refine A_iconst (v := nI 0) dX4_forget_18 (by decide +kernel) ?_
        refine A_zastN (j := i) dX4_forget_19 rfl rfl b10 (by decide) rfl ?_
        refine A_iincN (ls1 := [_, _]) dX4_forget_20 rfl (by decide) rfl rfl ?_
        refine A_goto (tgt := 7) dX4_forget_23 (by decide) ?_
        have h9 := ih (i + 1) (by omega) (by omega)
        rw [← fillX_up] at h9
        exact h9
  refine A_aload_n dX4_forget_0 rfl ?_
  refine A_iconst (v := nI 0) dX4_forget_1 (by decide +kernel) ?_
  refine A_put dX4_forget_2 fpX4_19 rfl rfl rfl rfl ?_
  refine A_iconst (v := nI 0) dX4_forget_5 (by decide +kernel) ?_
  refine A_istore_n (ls1 := [_, _]) dX4_forget_6 (by decide) rfl rfl ?_
  have h9 := loop 9 0 (by omega) (by omega)
  rw [fillX_0] at h9
  exact h9
def agreeB (μ : MI) (ν : ML) (t k : Nat) : Bool := allB (fun b => decide (μ 30 b = 0) || decide (uL (ν 31 b) / 2 ^ t % 2 = k / 2 ^ b % 2)) 8
theorem c_agrees {t k : Nat} (ht : t < 64) (hk : k < 65536) {μ : MI} {ν : ML} {P : Po} (h1 : agreeB μ ν t k = true → P (some (.int (nI 1))) μ ν) (h0 : agreeB μ ν t k = false → P (some (.int (nI 0))) μ ν) : Ct mX4_agrees 0 [.ref 29, .int (nI t), .int (nI k)] μ ν P := by
  refine Ct.of (ls0 := [_, _, _, _]) (by decide) rfl (Nat.le_of_ble_eq_true rfl) rfl ?_
  have bits : ∀ i, i < 8 → ((((ν 31 i).toUInt64 >>> ((nI t).toInt64.toUInt64 &&& Int64.toUInt64 63)).toInt64 &&& 1) = ((((nI k).toUInt32 >>> ((nI i).toUInt32 &&& Int32.toUInt32 31)).toInt32 &&& nI 1)).toInt64 ↔ uL (ν 31 i) / 2 ^ t % 2 = k / 2 ^ i % 2) := by
    intro i hi
    have e1 : (((ν 31 i).toUInt64 >>> ((nI t).toInt64.toUInt64 &&& Int64.toUInt64 63)).toInt64 &&& 1) = lN (uL (ν 31 i) / 2 ^ t % 2) := by
      conv => lhs; rw [← lN_uL (ν 31 i)]
      exact wb_bit (uL_lt _) ht
    have e2 : ((((nI k).toUInt32 >>> ((nI i).toUInt32 &&& Int32.toUInt32 31)).toInt32 &&& nI 1)).toInt64 = lN (k / 2 ^ i % 2) := by
      rw [nx_ush hk (by omega), nx_and, Nat.and_one_is_mod, Nat.shiftRight_eq_div_pow, nI_l (by omega)]
    rw [e1, e2, lN_eq (by omega) (by omega)]
  have loop : ∀ (n i : Nat), 8 - i < n → i ≤ 8 → allB (fun b => decide (μ 30 b = 0) || decide (uL (ν 31 b) / 2 ^ t % 2 = k / 2 ^ b % 2)) i = true → AW mX4_agrees (0, none) P 2 [some (.ref 29), some (.int (nI t)), some (.int (nI k)), some (.int (nI i))] [] μ ν := by
    intro n
    induction n with
    | zero => intro i h; omega
    | succ n ih =>
      intro i hn hi ha
      refine A_iload_n dX4_agrees_2 rfl ?_
      refine A_bipush (v := nI 8) dX4_agrees_3 (by decide +kernel) ?_
      refine A_icmp_geN (tgt := 45) dX4_agrees_5 (by decide) (by omega) (by omega) (fun b5 => ?_) (fun b5 => ?_)
      · refine A_iconst (v := nI 1) dX4_agrees_45 (by decide +kernel) ?_
        refine A_iret dX4_agrees_46 rfl (by decide +kernel) ?_
        exact h1 (by rw [show i = 8 by omega] at ha; exact ha)
      · refine A_aload_n dX4_agrees_8 rfl ?_
        refine A_getR dX4_agrees_9 flX4_9 rfl rfl ?_
        refine A_iload_n dX4_agrees_12 rfl ?_
        refine A_zaldN (j := i) dX4_agrees_13 rfl rfl b5 (by decide) ?_
        refine A_if_eq (tgt := 39) dX4_agrees_14 (by decide) (fun b14 => ?_) (fun b14 => ?_)
        · refine A_iincN (ls1 := [_, _, _, _]) dX4_agrees_39 rfl (by decide) rfl rfl ?_
          refine A_goto (tgt := 2) dX4_agrees_42 (by decide) ?_
          exact ih (i + 1) (by omega) (by omega) (by rw [allB, ha]; simp [b14])
        · refine A_aload_n dX4_agrees_17 rfl ?_
          refine A_getR dX4_agrees_18 flX4_15 rfl rfl ?_
          refine A_iload_n dX4_agrees_21 rfl ?_
          refine A_laldN (j := i) dX4_agrees_22 rfl rfl b5 (by decide) ?_
          refine A_iload_n dX4_agrees_23 rfl ?_
          refine A_lushr dX4_agrees_24 ?_
          refine A_lconst (v := 1) dX4_agrees_25 rfl ?_
          refine A_land dX4_agrees_26 ?_
          refine A_iload_n dX4_agrees_27 rfl ?_
          refine A_iload_n dX4_agrees_28 rfl ?_
          refine A_iushr dX4_agrees_29 ?_
          refine A_iconst (v := nI 1) dX4_agrees_30 (by decide +kernel) ?_
          refine A_iand dX4_agrees_31 ?_
          refine A_i2l dX4_agrees_32 ?_
          refine A_lcmp dX4_agrees_33 ?_
          refine A_if_eq (tgt := 39) dX4_agrees_34 (by decide) (fun b34 => ?_) (fun b34 => ?_)
          · refine A_iincN (ls1 := [_, _, _, _]) dX4_agrees_39 rfl (by decide) rfl rfl ?_
            refine A_goto (tgt := 2) dX4_agrees_42 (by decide) ?_
            have hq := (bits i b5).mp ((lg_cmp_eq _ _).mp b34)
            exact ih (i + 1) (by omega) (by omega) (by rw [allB, ha]; simp [hq])
          · refine A_iconst (v := nI 0) dX4_agrees_37 (by decide +kernel) ?_
            refine A_iret dX4_agrees_38 rfl (by decide +kernel) ?_
            exact h0 (allB_f (k := i) b5 (by
              have hn : ¬ uL (ν 31 i) / 2 ^ t % 2 = k / 2 ^ i % 2 := fun q => b34 ((lg_cmp_eq _ _).mpr ((bits i b5).mpr q))
              simp [b14, hn]))
  refine A_iconst (v := nI 0) dX4_agrees_0 (by decide +kernel) ?_
  refine A_istore_n (ls1 := [_, _, _, _]) dX4_agrees_1 (by decide) rfl rfl ?_
  exact loop 9 0 (by omega) (by omega) rfl
theorem c_hear (b : Int32) (r : Int64) {m : Nat} {μ : MI} {ν : ML} {P : Po} (hm : μ 2 0 = nI m) (hm8 : m ≤ 8) (hu : ¬ inR b m → P (some (.int (-1001))) μ ν) (ho : inR b m → ¬ uL r < 2 ^ 60 → P (some (.int (-1002))) μ ν) (h0 : ∀ k, b = nI k → k < m → uL r < 2 ^ 60 → μ 30 k = 0 → P (some (.int (μ 29 0 + 1))) (up2 (up2 μ 30 k 1) 29 0 (μ 29 0 + 1)) (up2 ν 31 k r)) (h1 : ∀ k, b = nI k → k < m → uL r < 2 ^ 60 → ¬ μ 30 k = 0 → P (some (.int (μ 29 0))) μ (up2 ν 31 k r)) : Ct mX9_hear 1 [.ref 0, .int b, .long r] μ ν P := by
  refine Ct.of (ls0 := [_, _, _, _]) (by decide) rfl (Nat.le_of_ble_eq_true rfl) rfl ?_
  refine A_aload_n dX9_hear_0 rfl ?_
  refine A_getR dX9_hear_1 flX9_12 rfl rfl ?_
  refine A_getR dX9_hear_4 flX9_56 rfl rfl ?_
  refine A_iload_n dX9_hear_7 rfl ?_
  refine A_callV1 dX9_hear_8 mlX9_66 (by decide) rfl rfl (Nat.le_of_ble_eq_true rfl) (c_has _ hm hm8 (fun g1 => ?_) (fun g1 => ?_))
  · refine Kn.s ?_
    refine A_if_ne (tgt := 18) dX9_hear_11 (by decide) (fun _ => ?_) (fun h => absurd h (by decide +kernel))
    refine A_lload_n dX9_hear_18 rfl ?_
    refine A_callS1 dX9_hear_19 mlX9_187 (by decide) (Nat.le_of_ble_eq_true rfl) (c_isRow _ (fun g2 => ?_) (fun g2 => ?_))
    · refine Kn.s ?_
      refine A_if_ne (tgt := 29) dX9_hear_22 (by decide) (fun _ => ?_) (fun h => absurd h (by decide +kernel))
      obtain ⟨k, rfl, hk⟩ := g1
      refine A_aload_n dX9_hear_29 rfl ?_
      refine A_getR dX9_hear_30 flX9_41 rfl rfl ?_
      refine A_iload_n dX9_hear_33 rfl ?_
      refine A_lload_n dX9_hear_34 rfl ?_
      refine A_callV2 dX9_hear_35 mlX9_199 (by decide) rfl rfl (Nat.le_of_ble_eq_true rfl) (c_note (by omega) _ (fun q => ?_) (fun q => ?_))
      · refine Kn.s ?_
        refine A_iret dX9_hear_38 rfl rfl ?_
        exact h0 k rfl hk g2 q
      · refine Kn.s ?_
        refine A_iret dX9_hear_38 rfl rfl ?_
        exact h1 k rfl hk g2 q
    · refine Kn.s ?_
      refine A_if_ne (tgt := 29) dX9_hear_22 (by decide) (fun h => absurd h (by decide +kernel)) (fun _ => ?_)
      refine A_sipush (v := (-1002)) dX9_hear_25 (by decide +kernel) ?_
      refine A_iret dX9_hear_28 rfl rfl ?_
      exact ho g1 g2
  · refine Kn.s ?_
    refine A_if_ne (tgt := 18) dX9_hear_11 (by decide) (fun h => absurd h (by decide +kernel)) (fun _ => ?_)
    refine A_sipush (v := (-1001)) dX9_hear_14 (by decide +kernel) ?_
    refine A_iret dX9_hear_17 rfl rfl ?_
    exact hu g1
theorem c_hush {μ : MI} {ν : ML} {P : Po} (hP : P (some (.int (μ 29 0))) (fillX (up2 μ 29 0 0) 30 8 0) ν) : Ct mX9_hush 1 [.ref 0] μ ν P := by
  refine Ct.of (ls0 := [_, _]) (by decide) rfl (Nat.le_of_ble_eq_true rfl) rfl ?_
  refine A_aload_n dX9_hush_0 rfl ?_
  refine A_getR dX9_hush_1 flX9_41 rfl rfl ?_
  refine A_getI dX9_hush_4 flX9_162 rfl rfl ?_
  refine A_istore_n (ls1 := [_, _]) dX9_hush_7 (by decide) rfl rfl ?_
  refine A_aload_n dX9_hush_8 rfl ?_
  refine A_getR dX9_hush_9 flX9_41 rfl rfl ?_
  refine A_callV0 dX9_hush_12 mlX9_203 (by decide) rfl rfl (Nat.le_of_ble_eq_true rfl) (c_forget ?_)
  refine Kn.v ?_
  refine A_iload_n dX9_hush_15 rfl ?_
  refine A_iret dX9_hush_16 rfl rfl ?_
  exact hP
/-! the blame's cells: how many, the first, the second -/
abbrev Bl : Type := Int32 × Int32 × Int32
def blM (μ : MI) : Bl := (μ 32 0, μ 32 1, μ 32 2)
def blA (fit : Bool) (f g : Int32) (x : Bl) : Bl := if fit then (if x.1 = 0 then (x.1 + 1, f, g) else (x.1 + 1, x.2.1, x.2.2)) else x
theorem c_blForget {μ : MI} {ν : ML} {P : Po} (hP : ∀ μ', blM μ' = (0, -1, -1) → Fr 32 1 μ μ' → P none μ' ν) : Ct mX0_forget 0 [.ref 32] μ ν P := by
  refine Ct.of (ls0 := [_]) (by decide) rfl (Nat.le_of_ble_eq_true rfl) rfl ?_
  refine A_aload_n dX0_forget_0 rfl ?_
  refine A_iconst (v := nI 0) dX0_forget_1 (by decide +kernel) ?_
  refine A_put dX0_forget_2 fpX0_9 rfl rfl rfl rfl ?_
  refine A_aload_n dX0_forget_5 rfl ?_
  refine A_iconst (v := (-1)) dX0_forget_6 (by decide +kernel) ?_
  refine A_put dX0_forget_7 fpX0_15 rfl rfl rfl rfl ?_
  refine A_aload_n dX0_forget_10 rfl ?_
  refine A_iconst (v := (-1)) dX0_forget_11 (by decide +kernel) ?_
  refine A_put dX0_forget_12 fpX0_18 rfl rfl rfl rfl ?_
  refine A_vret dX0_forget_15 rfl ?_
  refine hP _ ?_ (((Fr.up (by omega) (by omega)).tr (Fr.up (by omega) (by omega))).tr (Fr.up (by omega) (by omega)))
  unfold blM
  simp (disch := omega) only [up2_b, up2_s]
  rfl
theorem c_blAdd (f g : Int32) {μ : MI} {ν : ML} {P : Po} (hP : ∀ μ', blM μ' = blA true f g (blM μ) → Fr 32 1 μ μ' → P none μ' ν) : Ct mX0_add 0 [.ref 32, .int f, .int g] μ ν P := by
  refine Ct.of (ls0 := [_, _, _]) (by decide) rfl (Nat.le_of_ble_eq_true rfl) rfl ?_
  refine A_aload_n dX0_add_0 rfl ?_
  refine A_getI dX0_add_1 flX0_9 rfl rfl ?_
  refine A_if_ne (tgt := 17) dX0_add_4 (by decide) (fun b4 => ?_) (fun b4 => ?_)
  · refine A_aload_n dX0_add_17 rfl ?_
    refine A_dup dX0_add_18 rfl ?_
    refine A_getI dX0_add_19 flX0_9 rfl rfl ?_
    refine A_iconst (v := nI 1) dX0_add_22 (by decide +kernel) ?_
    refine A_iadd dX0_add_23 ?_
    refine A_put dX0_add_24 fpX0_9 rfl rfl rfl rfl ?_
    refine A_vret dX0_add_27 rfl ?_
    refine hP _ ?_ (Fr.up (by omega) (by omega))
    unfold blM blA
    simp (disch := omega) only [up2_b, up2_s]
    rw [if_pos trivial, if_neg b4]
    rfl
  · refine A_aload_n dX0_add_7 rfl ?_
    refine A_iload_n dX0_add_8 rfl ?_
    refine A_put dX0_add_9 fpX0_15 rfl rfl rfl rfl ?_
    refine A_aload_n dX0_add_12 rfl ?_
    refine A_iload_n dX0_add_13 rfl ?_
    refine A_put dX0_add_14 fpX0_18 rfl rfl rfl rfl ?_
    refine A_aload_n dX0_add_17 rfl ?_
    refine A_dup dX0_add_18 rfl ?_
    refine A_getI dX0_add_19 flX0_9 rfl rfl ?_
    refine A_iconst (v := nI 1) dX0_add_22 (by decide +kernel) ?_
    refine A_iadd dX0_add_23 ?_
    refine A_put dX0_add_24 fpX0_9 rfl rfl rfl rfl ?_
    refine A_vret dX0_add_27 rfl ?_
    refine hP _ ?_ (((Fr.up (by omega) (by omega)).tr (Fr.up (by omega) (by omega))).tr (Fr.up (by omega) (by omega)))
    unfold blM blA
    simp (disch := omega) only [up2_b, up2_s]
    rw [if_pos trivial, if_pos b4]
    rfl
theorem c_faultsInEach {μ : MI} {ν : ML} {P : Po} (hP : P (some (.int (if μ 32 0 = 0 then -1 else if μ 32 1 = -1 then nI 0 else if μ 32 2 = -1 then nI 1 else nI 2))) μ ν) : Ct mX0_faultsInEach 0 [.ref 32] μ ν P := by
  refine Ct.of (ls0 := [_]) (by decide) rfl (Nat.le_of_ble_eq_true rfl) rfl ?_
  refine A_aload_n dX0_faultsInEach_0 rfl ?_
  refine A_getI dX0_faultsInEach_1 flX0_9 rfl rfl ?_
  refine A_if_ne (tgt := 9) dX0_faultsInEach_4 (by decide) (fun b4 => ?_) (fun b4 => ?_)
  · refine A_aload_n dX0_faultsInEach_9 rfl ?_
    refine A_getI dX0_faultsInEach_10 flX0_15 rfl rfl ?_
    refine A_iconst (v := (-1)) dX0_faultsInEach_13 (by decide +kernel) ?_
    refine A_icmp_ne (tgt := 21) dX0_faultsInEach_14 (by decide) (fun b14 => ?_) (fun b14 => ?_)
    · refine A_aload_n dX0_faultsInEach_21 rfl ?_
      refine A_getI dX0_faultsInEach_22 flX0_18 rfl rfl ?_
      refine A_iconst (v := (-1)) dX0_faultsInEach_25 (by decide +kernel) ?_
      refine A_icmp_ne (tgt := 33) dX0_faultsInEach_26 (by decide) (fun b26 => ?_) (fun b26 => ?_)
      · refine A_iconst (v := nI 2) dX0_faultsInEach_33 (by decide +kernel) ?_
        refine A_iret dX0_faultsInEach_34 rfl rfl ?_
        rw [if_neg b4, if_neg b14, if_neg b26] at hP; exact hP
      · refine A_iconst (v := nI 1) dX0_faultsInEach_29 (by decide +kernel) ?_
        refine A_goto (tgt := 34) dX0_faultsInEach_30 (by decide) ?_
        refine A_iret dX0_faultsInEach_34 rfl rfl ?_
        rw [if_neg b4, if_neg b14, if_pos b26] at hP; exact hP
    · refine A_iconst (v := nI 0) dX0_faultsInEach_17 (by decide +kernel) ?_
      refine A_goto (tgt := 34) dX0_faultsInEach_18 (by decide) ?_
      refine A_iret dX0_faultsInEach_34 rfl rfl ?_
      rw [if_neg b4, if_pos b14] at hP; exact hP
  · refine A_iconst (v := (-1)) dX0_faultsInEach_7 (by decide +kernel) ?_
    refine A_iret dX0_faultsInEach_8 rfl rfl ?_
    rw [if_pos b4] at hP; exact hP
/-- the twist of two faults (-1: none) -/
def twF (f g : Int32) : MI := fun k j => if k = 2 then (if f = nI j ∨ g = nI j then 1 else 0) else if k = 3 then (if f = nI (j + 10) ∨ g = nI (j + 10) then 1 else 0) else if k = 4 then (if f = nI (j + 20) ∨ g = nI (j + 20) then 1 else 0) else 0
theorem twF_comm (f g : Int32) : twF f g = twF g f := by
  funext k j
  unfold twF
  simp only [Or.comm]
theorem twF_0 : ∀ j, j < 8 → twF (-1) (-1) 2 j = 0 ∧ twF (-1) (-1) 3 j = 0 ∧ twF (-1) (-1) 4 j = 0 := by decide +kernel
theorem nI_inj {a b : Nat} (ha : a < 100) (hb : b < 100) : nI a = nI b ↔ a = b := nI_eq (by omega) (by omega)
theorem c_failT (a f : Int32) {μ : MI} {ν : ML} {P : Po} (hT : TW 24 (twF a (-1)) μ) (hP : ∀ μ', TW 24 (twF a f) μ' → Fr 24 5 μ μ' → P none μ' ν) : Ct mX8_fail 1 [.ref 24, .int f] μ ν P := by
  have hm1 : ∀ j, j < 100 → ¬ (-1 : Int32) = nI j := by decide +kernel
  obtain ⟨t0, t1, t2⟩ := hT
  have key : ∀ (μ' : MI), Fr 24 5 μ μ' → μ' 24 0 = μ 24 0 → (∀ s, s < 4 → μ' 25 s = μ 25 s) → (∀ s, s < 4 → μ' 26 s = (if f = nI s then 1 else μ 26 s)) → (∀ b, b < 8 → μ' 27 b = (if f = nI (b + 10) then 1 else μ 27 b)) → (∀ b, b < 8 → μ' 28 b = (if f = nI (b + 20) then 1 else μ 28 b)) → TW 24 (twF a f) μ' := by
    intro μ' hF h0 h1 h2 h3 h4
    refine ⟨h0.trans t0, fun s hs => ⟨(h1 s hs).trans (t1 s hs).1, ?_⟩, fun b hb => ⟨?_, ?_⟩⟩
    · have e := (t1 s hs).2
      rw [show twF a (-1) 2 s = if a = nI s ∨ -1 = nI s then 1 else 0 from rfl] at e
      rw [h2 s hs]
      show _ = if a = nI s ∨ f = nI s then 1 else 0
      by_cases hf : f = nI s
      · rw [if_pos hf, if_pos (Or.inr hf)]
      · rw [if_neg hf]
        refine e.trans ?_
        by_cases ha : a = nI s
        · rw [if_pos (Or.inl ha), if_pos (Or.inl ha)]
        · rw [if_neg (fun q => q.elim ha (hm1 s (by omega))), if_neg (fun q => q.elim ha hf)]
    · have e := (t2 b hb).1
      rw [show twF a (-1) 3 b = if a = nI (b + 10) ∨ -1 = nI (b + 10) then 1 else 0 from rfl] at e
      rw [h3 b hb]
      show _ = if a = nI (b + 10) ∨ f = nI (b + 10) then 1 else 0
      by_cases hf : f = nI (b + 10)
      · rw [if_pos hf, if_pos (Or.inr hf)]
      · rw [if_neg hf]
        refine e.trans ?_
        by_cases ha : a = nI (b + 10)
        · rw [if_pos (Or.inl ha), if_pos (Or.inl ha)]
        · rw [if_neg (fun q => q.elim ha (hm1 _ (by omega))), if_neg (fun q => q.elim ha hf)]
    · have e := (t2 b hb).2
      rw [show twF a (-1) 4 b = if a = nI (b + 20) ∨ -1 = nI (b + 20) then 1 else 0 from rfl] at e
      rw [h4 b hb]
      show _ = if a = nI (b + 20) ∨ f = nI (b + 20) then 1 else 0
      by_cases hf : f = nI (b + 20)
      · rw [if_pos hf, if_pos (Or.inr hf)]
      · rw [if_neg hf]
        refine e.trans ?_
        by_cases ha : a = nI (b + 20)
        · rw [if_pos (Or.inl ha), if_pos (Or.inl ha)]
        · rw [if_neg (fun q => q.elim ha (hm1 _ (by omega))), if_neg (fun q => q.elim ha hf)]
  refine c_fail f (fun k hf hk => ?_) (fun k hf hk => ?_) (fun k hf hk => ?_) (fun g1 g2 g3 => ?_)
  · have hF : Fr 24 5 μ (up2 μ 26 k (nI 1)) := Fr.up (by omega) (by omega)
    refine hP _ (key _ hF (up2_a _ _ (by omega)) (fun s hs => up2_a _ _ (by omega)) (fun s hs => ?_) (fun b hb => ?_) (fun b hb => ?_)) hF
    · rw [hf]
      by_cases e : k = s
      · subst e; rw [if_pos rfl, up2_s]; rfl
      · rw [if_neg (fun q => by have := (nI_inj (by omega) (by omega)).mp q; omega), up2_b _ _ (by omega)]
    · rw [up2_a _ _ (by omega), hf, if_neg (fun q => by have := (nI_inj (by omega) (by omega)).mp q; omega)]
    · rw [up2_a _ _ (by omega), hf, if_neg (fun q => by have := (nI_inj (by omega) (by omega)).mp q; omega)]
  · have hF : Fr 24 5 μ (up2 μ 27 k (nI 1)) := Fr.up (by omega) (by omega)
    refine hP _ (key _ hF (up2_a _ _ (by omega)) (fun s hs => up2_a _ _ (by omega)) (fun s hs => ?_) (fun b hb => ?_) (fun b hb => ?_)) hF
    · rw [up2_a _ _ (by omega), hf, if_neg (fun q => by have := (nI_inj (by omega) (by omega)).mp q; omega)]
    · rw [hf]
      by_cases e : k = b
      · subst e; rw [if_pos rfl, up2_s]; rfl
      · rw [if_neg (fun q => by have := (nI_inj (by omega) (by omega)).mp q; omega), up2_b _ _ (by omega)]
    · rw [up2_a _ _ (by omega), hf, if_neg (fun q => by have := (nI_inj (by omega) (by omega)).mp q; omega)]
  · have hF : Fr 24 5 μ (up2 μ 28 k (nI 1)) := Fr.up (by omega) (by omega)
    refine hP _ (key _ hF (up2_a _ _ (by omega)) (fun s hs => up2_a _ _ (by omega)) (fun s hs => ?_) (fun b hb => ?_) (fun b hb => ?_)) hF
    · rw [up2_a _ _ (by omega), hf, if_neg (fun q => by have := (nI_inj (by omega) (by omega)).mp q; omega)]
    · rw [up2_a _ _ (by omega), hf, if_neg (fun q => by have := (nI_inj (by omega) (by omega)).mp q; omega)]
    · rw [hf]
      by_cases e : k = b
      · subst e; rw [if_pos rfl, up2_s]; rfl
      · rw [if_neg (fun q => by have := (nI_inj (by omega) (by omega)).mp q; omega), up2_b _ _ (by omega)]
  · refine hP μ (key μ Fr.rf rfl (fun _ _ => rfl) (fun s hs => ?_) (fun b hb => ?_) (fun b hb => ?_)) Fr.rf
    · rw [if_neg (fun q => g1 (by rw [q]; exact ⟨(nI_leI (by omega) (by omega)).mpr (by omega), (nI_leI (by omega) (by omega)).mpr (by omega)⟩))]
    · rw [if_neg (fun q => g2 (by rw [q]; exact ⟨(nI_leI (by omega) (by omega)).mpr (by omega), (nI_leI (by omega) (by omega)).mpr (by omega)⟩))]
    · rw [if_neg (fun q => g3 (by rw [q]; exact ⟨(nI_leI (by omega) (by omega)).mpr (by omega), (nI_leI (by omega) (by omega)).mpr (by omega)⟩))]
end
section
/-! the blame, on: one try, single faults, pairs, the answer -/
theorem Sc.bl {μ μ' : MI} (hF : Fr 32 1 μ μ') : Sc μ μ' := fun a ha j => hF a (by omega) j
theorem agreeB_sc {μ μ' : MI} (h : Sc μ μ') (ν : ML) (t k : Nat) : agreeB μ' ν t k = agreeB μ ν t k := by
  unfold agreeB
  exact allB_cong (fun b _ => by rw [h 30 (by omega) b])
/-- whether all that was heard is as with these faults -/
def fitX (c μ : MI) (ν : ML) (f g : Int32) : Bool := allB (fun t => agreeB μ ν t (knockN c (twF f g) t)) 60
theorem fitX_sc {c μ μ' : MI} (h : Sc μ μ') (ν : ML) (f g : Int32) : fitX c μ' ν f g = fitX c μ ν f g := by
  unfold fitX
  exact allB_cong (fun t _ => agreeB_sc h ν t _)
theorem blM_fr {μ μ' : MI} {lo n : Nat} (h : Fr lo n μ μ') (hl : 33 ≤ lo ∨ lo + n ≤ 32) : blM μ' = blM μ := by
  unfold blM
  rw [h 32 (by omega) 0, h 32 (by omega) 1, h 32 (by omega) 2]
theorem tw0_twF {μ : MI} (h : TW 24 (tw0 (nI 0)) μ) : TW 24 (twF (-1) (-1)) μ := by
  refine ⟨h.1, fun s hs => ⟨(h.2.1 s hs).1, (h.2.1 s hs).2.trans (twF_0 s (by omega)).1.symm⟩, fun b hb => ⟨(h.2.2 b hb).1.trans (twF_0 b hb).2.1.symm, (h.2.2 b hb).2.trans (twF_0 b hb).2.2.symm⟩⟩
theorem c_tryFaults (f g : Int32) {c μ : MI} {ν : ML} {P : Po} (hC : WC c) (hc : CX c μ) (hP : ∀ μ', Sc μ μ' → blM μ' = blA (fitX c μ ν f g) f g (blM μ) → P none μ' ν) : Ct mX9_tryFaults 4 [.ref 0, .int f, .int g] μ ν P := by
  refine Ct.of (ls0 := [_, _, _, _]) (by decide) rfl (Nat.le_of_ble_eq_true rfl) rfl ?_
  have hnb8 := hC.1.1.2
  have loop : ∀ (q i : Nat) (μ1 : MI), 60 - i < q → i ≤ 60 → Sc μ μ1 → blM μ1 = blM μ → TW 24 (twF f g) μ1 → RX 47 i (runP c (twF f g) i) μ1 → allB (fun t => agreeB μ ν t (knockN c (twF f g) t)) i = true → AW mX9_tryFaults (4, none) P 33 [some (.ref 0), some (.int f), some (.int g), some (.int (nI i))] [] μ1 ν := by
    intro q
    induction q with
    | zero => intro i μ1 h; omega
    | succ q ih =>
      intro i μ1 hq hi hS hB hT1 hR1 ha
      have hl : bitsN (setP c (twF f g) i (runP c (twF f g) i)) (N (c 2 0)) < 256 := Nat.lt_of_lt_of_le (bitsN_lt _ _) (Nat.pow_le_pow_right (by omega) hnb8)
      refine A_iload_n dX9_tryFaults_33 rfl ?_
      refine A_bipush (v := nI 60) dX9_tryFaults_34 (by decide +kernel) ?_
      refine A_icmp_geN (tgt := 64) dX9_tryFaults_36 (by decide) (by omega) (by omega) (fun b36 => ?_) (fun b36 => ?_)
      · refine A_aload_n dX9_tryFaults_64 rfl ?_
        refine A_getR dX9_tryFaults_65 flX9_48 rfl rfl ?_
        refine A_iload_n dX9_tryFaults_68 rfl ?_
        refine A_iload_n dX9_tryFaults_69 rfl ?_
        refine A_callV2 dX9_tryFaults_70 mlX9_278 (by decide) rfl rfl (Nat.le_of_ble_eq_true rfl) (c_blAdd _ _ (fun μ3 h1 h2 => ?_))
        refine Kn.v ?_
        refine A_vret dX9_tryFaults_73 rfl ?_
        have e : fitX c μ ν f g = true := by rw [show i = 60 by omega] at ha; exact ha
        exact hP μ3 (hS.tr (Sc.bl h2)) (by rw [h1, e, hB])
      · refine A_aload_n dX9_tryFaults_39 rfl ?_
        refine A_getR dX9_tryFaults_40 flX9_41 rfl rfl ?_
        refine A_iload_n dX9_tryFaults_43 rfl ?_
        refine A_aload_n dX9_tryFaults_44 rfl ?_
        refine A_getR dX9_tryFaults_45 flX9_32 rfl rfl ?_
        refine A_callV0 dX9_tryFaults_48 mlX9_163 (by decide) rfl rfl (Nat.le_of_ble_eq_true rfl) (c_stepC flow_47 (by omega) hC (hS.cx hc) hT1 hR1 (GC_run hC i) (fun μ2 hR2 hF2 => ?_))
        refine Kn.s ?_
        have hS2 := hS.tr (Sc.fr hF2 (Or.inr (by omega)))
        have hB2 := (blM_fr hF2 (Or.inl (by omega))).trans hB
        refine A_callV2 dX9_tryFaults_51 mlX9_275 (by decide) rfl rfl (Nat.le_of_ble_eq_true rfl) (c_agrees (by omega) (by omega) (fun z => ?_) (fun z => ?_))
        · refine Kn.s ?_
          refine A_if_ne (tgt := 58) dX9_tryFaults_54 (by decide) (fun _ => ?_) (fun h => absurd h (by decide +kernel))
          refine A_iincN (ls1 := [_, _, _, _]) dX9_tryFaults_58 rfl (by decide) rfl rfl ?_
          refine A_goto (tgt := 33) dX9_tryFaults_61 (by decide) ?_
          rw [agreeB_sc hS2] at z
          exact ih (i + 1) μ2 (by omega) (by omega) hS2 hB2 (hT1.fr (by omega) hF2) hR2 (by
            rw [allB, ha]
            exact z)
        · refine Kn.s ?_
          refine A_if_ne (tgt := 58) dX9_tryFaults_54 (by decide) (fun h => absurd h (by decide +kernel)) (fun _ => ?_)
          refine A_vret dX9_tryFaults_57 rfl ?_
          rw [agreeB_sc hS2] at z
          have e : fitX c μ ν f g = false := allB_f (k := i) b36 z
          exact hP μ2 hS2 (by rw [hB2, e]; rfl)
  refine A_aload_n dX9_tryFaults_0 rfl ?_
  refine A_getR dX9_tryFaults_1 flX9_28 rfl rfl ?_
  refine A_iconst (v := nI 0) dX9_tryFaults_4 (by decide +kernel) ?_
  refine A_callV1 dX9_tryFaults_5 mlX9_177 (by decide) rfl rfl (Nat.le_of_ble_eq_true rfl) (c_reset _ (Or.inl rfl) (fun μ1 hT1 hF1 => ?_))
  refine Kn.v ?_
  refine A_aload_n dX9_tryFaults_8 rfl ?_
  refine A_getR dX9_tryFaults_9 flX9_28 rfl rfl ?_
  refine A_iload_n dX9_tryFaults_12 rfl ?_
  refine A_callV1 dX9_tryFaults_13 mlX9_271 (by decide) rfl rfl (Nat.le_of_ble_eq_true rfl) (c_failT (-1) _ (tw0_twF hT1) (fun μ2 hT2 hF2 => ?_))
  refine Kn.v ?_
  rw [twF_comm] at hT2
  refine A_aload_n dX9_tryFaults_16 rfl ?_
  refine A_getR dX9_tryFaults_17 flX9_28 rfl rfl ?_
  refine A_iload_n dX9_tryFaults_20 rfl ?_
  refine A_callV1 dX9_tryFaults_21 mlX9_271 (by decide) rfl rfl (Nat.le_of_ble_eq_true rfl) (c_failT _ _ hT2 (fun μ3 hT3 hF3 => ?_))
  refine Kn.v ?_
  refine A_aload_n dX9_tryFaults_24 rfl ?_
  refine A_getR dX9_tryFaults_25 flX9_32 rfl rfl ?_
  refine A_callV0 dX9_tryFaults_28 mlX9_172 (by decide) rfl rfl (Nat.le_of_ble_eq_true rfl) (c_begin flow_47 (fun μ4 hR4 hF4 => ?_))
  refine Kn.v ?_
  refine A_iconst (v := nI 0) dX9_tryFaults_31 (by decide +kernel) ?_
  refine A_istore_n (ls1 := [_, _, _, _]) dX9_tryFaults_32 (by decide) rfl rfl ?_
  have hF123 := (hF1.tr hF2).tr hF3
  exact loop 61 0 μ4 (by omega) (by omega) ((Sc.fr hF123 (Or.inl (by omega))).tr (Sc.fr hF4 (Or.inr (by omega)))) ((blM_fr hF4 (Or.inl (by omega))).trans (blM_fr hF123 (Or.inr (by omega)))) (hT3.fr (by omega) hF4) hR4 rfl
/-- single faults 0 .. n - 1, one after the other -/
def sgF (can : Nat → Bool) (fit : Int32 → Int32 → Bool) : Nat → Bl → Bl
  | 0, x => x
  | k + 1, x => if can k then blA (fit (nI k) (-1)) (nI k) (-1) (sgF can fit k x) else sgF can fit k x
theorem c_trySingles {c μ : MI} {ν : ML} {P : Po} (hC : WC c) (hc : CX c μ) (hP : ∀ μ', Sc μ μ' → blM μ' = sgF (canF (N (c 2 0)) (N (c 7 0))) (fitX c μ ν) 30 (blM μ) → P none μ' ν) : Ct mX9_trySingleFaults 5 [.ref 0] μ ν P := by
  refine Ct.of (ls0 := [_, _]) (by decide) rfl (Nat.le_of_ble_eq_true rfl) rfl ?_
  have hnb := hC.1.1
  have hns := hC.2.1.1
  have loop : ∀ (q i : Nat) (μ1 : MI), 30 - i < q → i ≤ 30 → Sc μ μ1 → blM μ1 = sgF (canF (N (c 2 0)) (N (c 7 0))) (fitX c μ ν) i (blM μ) → AW mX9_trySingleFaults (5, none) P 2 [some (.ref 0), some (.int (nI i))] [] μ1 ν := by
    intro q
    induction q with
    | zero => intro i μ1 h; omega
    | succ q ih =>
      intro i μ1 hq hi hS hB
      have hc1 := hS.cx hc
      refine A_iload_n dX9_trySingleFaults_2 rfl ?_
      refine A_bipush (v := nI 30) dX9_trySingleFaults_3 (by decide +kernel) ?_
      refine A_icmp_geN (tgt := 31) dX9_trySingleFaults_5 (by decide) (by omega) (by omega) (fun b5 => ?_) (fun b5 => ?_)
      · refine A_vret dX9_trySingleFaults_31 rfl ?_
        rw [show i = 30 by omega] at hB; exact hP μ1 hS hB
      · refine A_aload_n dX9_trySingleFaults_8 rfl ?_
        refine A_getR dX9_trySingleFaults_9 flX9_12 rfl rfl ?_
        refine A_iload_n dX9_trySingleFaults_12 rfl ?_
        refine A_callV1 dX9_trySingleFaults_13 mlX9_268 (by decide) rfl rfl (Nat.le_of_ble_eq_true rfl) (c_canFail (by omega) ((hc1 2 (by omega) (by omega) 0).trans hnb.1) hnb.2 ((hc1 7 (by omega) (by omega) 0).trans hns.1) hns.2 (fun z => ?_) (fun z => ?_))
        · refine Kn.s ?_
          refine A_if_eq (tgt := 25) dX9_trySingleFaults_16 (by decide) (fun h => absurd h (by decide +kernel)) (fun _ => ?_)
          refine A_aload_n dX9_trySingleFaults_19 rfl ?_
          refine A_iload_n dX9_trySingleFaults_20 rfl ?_
          refine A_iconst (v := (-1)) dX9_trySingleFaults_21 (by decide +kernel) ?_
          refine A_callV2 dX9_trySingleFaults_22 mlX9_207 (by decide) rfl rfl (Nat.le_of_ble_eq_true rfl) (c_tryFaults _ _ hC hc1 (fun μ2 h1 h2 => ?_))
          refine Kn.v ?_
          refine A_iincN (ls1 := [_, _]) dX9_trySingleFaults_25 rfl (by decide) rfl rfl ?_
          refine A_goto (tgt := 2) dX9_trySingleFaults_28 (by decide) ?_
          exact ih (i + 1) μ2 (by omega) (by omega) (hS.tr h1) (by rw [h2, fitX_sc hS, hB, sgF, if_pos z])
        · refine Kn.s ?_
          refine A_if_eq (tgt := 25) dX9_trySingleFaults_16 (by decide) (fun _ => ?_) (fun h => absurd h (by decide +kernel))
          refine A_iincN (ls1 := [_, _]) dX9_trySingleFaults_25 rfl (by decide) rfl rfl ?_
          refine A_goto (tgt := 2) dX9_trySingleFaults_28 (by decide) ?_
          exact ih (i + 1) μ1 (by omega) (by omega) hS (by rw [hB, sgF, if_neg (by rw [z]; decide)])
  refine A_iconst (v := nI 0) dX9_trySingleFaults_0 (by decide +kernel) ?_
  refine A_istore_n (ls1 := [_, _]) dX9_trySingleFaults_1 (by decide) rfl rfl ?_
  exact loop 31 0 μ (by omega) (by omega) (Sc.rf μ) rfl
/-- pairs of i with i + 1 .. i + n -/
def inF (can : Nat → Bool) (fit : Int32 → Int32 → Bool) (i : Nat) : Nat → Bl → Bl
  | 0, x => x
  | k + 1, x => if can i && can (i + 1 + k) then blA (fit (nI i) (nI (i + 1 + k))) (nI i) (nI (i + 1 + k)) (inF can fit i k x) else inF can fit i k x
def ouF (can : Nat → Bool) (fit : Int32 → Int32 → Bool) (m : Nat) : Nat → Bl → Bl
  | 0, x => x
  | k + 1, x => inF can fit k (m - 1 - k) (ouF can fit m k x)
theorem c_tryPairs {c μ : MI} {ν : ML} {P : Po} (hC : WC c) (hc : CX c μ) (hP : ∀ μ', Sc μ μ' → blM μ' = ouF (canF (N (c 2 0)) (N (c 7 0))) (fitX c μ ν) 30 30 (blM μ) → P none μ' ν) : Ct mX9_tryPairsOfFaults 5 [.ref 0] μ ν P := by
  refine Ct.of (ls0 := [_, _, _]) (by decide) rfl (Nat.le_of_ble_eq_true rfl) rfl ?_
  have hnb := hC.1.1
  have hns := hC.2.1.1
  have inner : ∀ (i : Nat) (y : Bl), i < 30 → (∀ μ2, Sc μ μ2 → blM μ2 = inF (canF (N (c 2 0)) (N (c 7 0))) (fitX c μ ν) i (29 - i) y → AW mX9_tryPairsOfFaults (5, none) P 52 [some (.ref 0), some (.int (nI i)), none] [] μ2 ν) → ∀ (q j : Nat) (μ1 : MI), 29 - i - j < q → i + 1 + j ≤ 30 → Sc μ μ1 → blM μ1 = inF (canF (N (c 2 0)) (N (c 7 0))) (fitX c μ ν) i j y → AW mX9_tryPairsOfFaults (5, none) P 12 [some (.ref 0), some (.int (nI i)), some (.int (nI (i + 1 + j)))] [] μ1 ν := by
    intro i y hi30 hex q
    induction q with
    | zero => intro j μ1 h; omega
    | succ q ih =>
      intro j μ1 hq hj hS hB
      have hc1 := hS.cx hc
      refine A_iload_n dX9_tryPairsOfFaults_12 rfl ?_
      refine A_bipush (v := nI 30) dX9_tryPairsOfFaults_13 (by decide +kernel) ?_
      refine A_icmp_geN (tgt := 52) dX9_tryPairsOfFaults_15 (by decide) (by omega) (by omega) (fun b15 => ?_) (fun b15 => ?_)
      · rw [show j = 29 - i by omega] at hB
        exact A_weak (hex μ1 hS hB) (by repeat first | exact fw_0 | refine fw_s ?_ | refine fw_n ?_)
      · refine A_aload_n dX9_tryPairsOfFaults_18 rfl ?_
        refine A_getR dX9_tryPairsOfFaults_19 flX9_12 rfl rfl ?_
        refine A_iload_n dX9_tryPairsOfFaults_22 rfl ?_
        refine A_callV1 dX9_tryPairsOfFaults_23 mlX9_268 (by decide) rfl rfl (Nat.le_of_ble_eq_true rfl) (c_canFail (by omega) ((hc1 2 (by omega) (by omega) 0).trans hnb.1) hnb.2 ((hc1 7 (by omega) (by omega) 0).trans hns.1) hns.2 (fun z => ?_) (fun z => ?_))
        · refine Kn.s ?_
          refine A_if_eq (tgt := 46) dX9_tryPairsOfFaults_26 (by decide) (fun h => absurd h (by decide +kernel)) (fun _ => ?_)
          refine A_aload_n dX9_tryPairsOfFaults_29 rfl ?_
          refine A_getR dX9_tryPairsOfFaults_30 flX9_12 rfl rfl ?_
          refine A_iload_n dX9_tryPairsOfFaults_33 rfl ?_
          refine A_callV1 dX9_tryPairsOfFaults_34 mlX9_268 (by decide) rfl rfl (Nat.le_of_ble_eq_true rfl) (c_canFail (by omega) ((hc1 2 (by omega) (by omega) 0).trans hnb.1) hnb.2 ((hc1 7 (by omega) (by omega) 0).trans hns.1) hns.2 (fun z2 => ?_) (fun z2 => ?_))
          · refine Kn.s ?_
            refine A_if_eq (tgt := 46) dX9_tryPairsOfFaults_37 (by decide) (fun h => absurd h (by decide +kernel)) (fun _ => ?_)
            refine A_aload_n dX9_tryPairsOfFaults_40 rfl ?_
            refine A_iload_n dX9_tryPairsOfFaults_41 rfl ?_
            refine A_iload_n dX9_tryPairsOfFaults_42 rfl ?_
            refine A_callV2 dX9_tryPairsOfFaults_43 mlX9_207 (by decide) rfl rfl (Nat.le_of_ble_eq_true rfl) (c_tryFaults _ _ hC hc1 (fun μ2 h1 h2 => ?_))
            refine Kn.v ?_
            refine A_iincN (ls1 := [_, _, _]) dX9_tryPairsOfFaults_46 rfl (by decide) rfl rfl ?_
            refine A_goto (tgt := 12) dX9_tryPairsOfFaults_49 (by decide) ?_
            exact ih (j + 1) μ2 (by omega) (by omega) (hS.tr h1) (by rw [h2, fitX_sc hS, hB, inF, if_pos (by rw [z, z2]; rfl)])
          · refine Kn.s ?_
            refine A_if_eq (tgt := 46) dX9_tryPairsOfFaults_37 (by decide) (fun _ => ?_) (fun h => absurd h (by decide +kernel))
            refine A_iincN (ls1 := [_, _, _]) dX9_tryPairsOfFaults_46 rfl (by decide) rfl rfl ?_
            refine A_goto (tgt := 12) dX9_tryPairsOfFaults_49 (by decide) ?_
            exact ih (j + 1) μ1 (by omega) (by omega) hS (by rw [hB, inF, if_neg (by rw [z, z2]; decide)])
        · refine Kn.s ?_
          refine A_if_eq (tgt := 46) dX9_tryPairsOfFaults_26 (by decide) (fun _ => ?_) (fun h => absurd h (by decide +kernel))
          refine A_iincN (ls1 := [_, _, _]) dX9_tryPairsOfFaults_46 rfl (by decide) rfl rfl ?_
          refine A_goto (tgt := 12) dX9_tryPairsOfFaults_49 (by decide) ?_
          exact ih (j + 1) μ1 (by omega) (by omega) hS (by rw [hB, inF, if_neg (by rw [z]; simp)])
  have loop : ∀ (q i : Nat) (μ1 : MI), 30 - i < q → i ≤ 30 → Sc μ μ1 → blM μ1 = ouF (canF (N (c 2 0)) (N (c 7 0))) (fitX c μ ν) 30 i (blM μ) → AW mX9_tryPairsOfFaults (5, none) P 2 [some (.ref 0), some (.int (nI i)), none] [] μ1 ν := by
    intro q
    induction q with
    | zero => intro i μ1 h; omega
    | succ q ih =>
      intro i μ1 hq hi hS hB
      refine A_iload_n dX9_tryPairsOfFaults_2 rfl ?_
      refine A_bipush (v := nI 30) dX9_tryPairsOfFaults_3 (by decide +kernel) ?_
      refine A_icmp_geN (tgt := 58) dX9_tryPairsOfFaults_5 (by decide) (by omega) (by omega) (fun b5 => ?_) (fun b5 => ?_)
      · refine A_vret dX9_tryPairsOfFaults_58 rfl ?_
        rw [show i = 30 by omega] at hB; exact hP μ1 hS hB
      · refine A_iload_n dX9_tryPairsOfFaults_8 rfl ?_
        refine A_iconst (v := nI 1) dX9_tryPairsOfFaults_9 (by decide +kernel) ?_
        refine A_iaddN dX9_tryPairsOfFaults_10 ?_
        refine A_istore_n (ls1 := [_, _, _]) dX9_tryPairsOfFaults_11 (by decide) rfl rfl ?_
        refine inner i _ b5 (fun μ2 h1 h2 => ?_) 30 0 μ1 (by omega) (by omega) hS hB
        refine A_iincN (ls1 := [_, _, _]) dX9_tryPairsOfFaults_52 rfl (by decide) rfl rfl ?_
        refine A_goto (tgt := 2) dX9_tryPairsOfFaults_55 (by decide) ?_
        exact ih (i + 1) μ2 (by omega) (by omega) h1 h2
  refine A_iconst (v := nI 0) dX9_tryPairsOfFaults_0 (by decide +kernel) ?_
  refine A_istore_n (ls1 := [_, _, _]) dX9_tryPairsOfFaults_1 (by decide) rfl rfl ?_
  exact loop 31 0 μ (by omega) (by omega) (Sc.rf μ) rfl
/-- the blame's answers -/
def blR (x : Bl) (j : Nat) : Int32 := match j with
  | 0 => if x.1 = 0 then -1 else if x.2.1 = -1 then nI 0 else if x.2.2 = -1 then nI 1 else nI 2
  | 1 => x.1
  | 2 => x.2.1
  | _ => x.2.2
def blX1 (fit : Int32 → Int32 → Bool) : Bl := blA (fit (-1) (-1)) (-1) (-1) (0, -1, -1)
def blX2 (can : Nat → Bool) (fit : Int32 → Int32 → Bool) : Bl := if (blX1 fit).1 = 0 then sgF can fit 30 (blX1 fit) else blX1 fit
def blX (can : Nat → Bool) (fit : Int32 → Int32 → Bool) : Bl := if (blX2 can fit).1 = 0 then ouF can fit 30 30 (blX2 can fit) else blX2 can fit
theorem blM_1 {μ : MI} {x : Bl} (h : blM μ = x) : μ 32 0 = x.1 ∧ μ 32 1 = x.2.1 ∧ μ 32 2 = x.2.2 := by
  subst h
  exact ⟨rfl, rfl, rfl⟩
theorem c_blamed (what : Int32) {c μ : MI} {ν : ML} {P : Po} (hC : WC c) (hc : CX c μ) (ho : ¬ (nI 0 ≤ what ∧ what ≤ nI 3) → P (some (.int (-1002))) μ ν) (ha : ∀ j μ', what = nI j → j < 4 → Sc μ μ' → P (some (.int (blR (blX (canF (N (c 2 0)) (N (c 7 0))) (fitX c μ ν)) j))) μ' ν) : Ct mX9_blamed 6 [.ref 0, .int what] μ ν P := by
  refine Ct.of (ls0 := [_, _]) (by decide) rfl (Nat.le_of_ble_eq_true rfl) rfl ?_
  have fin : ∀ (μ4 : MI) (j : Nat), what = nI j → j < 4 → Sc μ μ4 → blM μ4 = blX (canF (N (c 2 0)) (N (c 7 0))) (fitX c μ ν) → AW mX9_blamed (6, none) P 54 [some (.ref 0), some (.int what)] [] μ4 ν := by
    intro μ4 j hj hj4 hS hB
    obtain ⟨e1, e2, e3⟩ := blM_1 hB
    have h9 := ha j μ4 hj hj4 hS
    refine A_iload_n dX9_blamed_54 rfl ?_
    rcases sw_of (what) (n := 3) (by decide) with ⟨k55, hk55, hs55⟩ | hs55
    · rcases (show k55 = 0 ∨ k55 = 1 ∨ k55 = 2 by omega) with rfl | rfl | rfl
      · rw [hs55]
        refine A_tableIn (off := 25) (tgt := 80) dX9_blamed_55 (by decide +kernel) (by decide +kernel) (by decide +kernel) (by decide) ?_
        refine A_aload_n dX9_blamed_80 rfl ?_
        refine A_getR dX9_blamed_81 flX9_48 rfl rfl ?_
        refine A_callV0 dX9_blamed_84 mlX9_218 (by decide) rfl rfl (Nat.le_of_ble_eq_true rfl) (c_faultsInEach ?_)
        refine Kn.s ?_
        refine A_iret dX9_blamed_87 rfl rfl ?_
        have ej : j = 0 := (nI_inj (by omega) (by omega)).mp (hj.symm.trans hs55)
        subst ej
        rw [e1, e2, e3]
        exact h9
      · rw [hs55]
        refine A_tableIn (off := 33) (tgt := 88) dX9_blamed_55 (by decide +kernel) (by decide +kernel) (by decide +kernel) (by decide) ?_
        refine A_aload_n dX9_blamed_88 rfl ?_
        refine A_getR dX9_blamed_89 flX9_48 rfl rfl ?_
        refine A_getI dX9_blamed_92 flX9_211 rfl rfl ?_
        refine A_iret dX9_blamed_95 rfl rfl ?_
        have ej : j = 1 := (nI_inj (by omega) (by omega)).mp (hj.symm.trans hs55)
        subst ej
        rw [e1]
        exact h9
      · rw [hs55]
        refine A_tableIn (off := 41) (tgt := 96) dX9_blamed_55 (by decide +kernel) (by decide +kernel) (by decide +kernel) (by decide) ?_
        refine A_aload_n dX9_blamed_96 rfl ?_
        refine A_getR dX9_blamed_97 flX9_48 rfl rfl ?_
        refine A_getI dX9_blamed_100 flX9_221 rfl rfl ?_
        refine A_iret dX9_blamed_103 rfl rfl ?_
        have ej : j = 2 := (nI_inj (by omega) (by omega)).mp (hj.symm.trans hs55)
        subst ej
        rw [e2]
        exact h9
    · refine A_tableOut (tgt := 104) dX9_blamed_55 hs55 (by decide) ?_
      refine A_aload_n dX9_blamed_104 rfl ?_
      refine A_getR dX9_blamed_105 flX9_48 rfl rfl ?_
      refine A_getI dX9_blamed_108 flX9_224 rfl rfl ?_
      refine A_iret dX9_blamed_111 rfl rfl ?_
      have ej : j = 3 := by
        rw [hj, nI_toInt (by omega)] at hs55
        omega
      subst ej
      rw [e3]
      exact h9
  have mid : ∀ (μ3 : MI) (j : Nat), what = nI j → j < 4 → Sc μ μ3 → blM μ3 = blX2 (canF (N (c 2 0)) (N (c 7 0))) (fitX c μ ν) → AW mX9_blamed (6, none) P 40 [some (.ref 0), some (.int what)] [] μ3 ν := by
    intro μ3 j hj hj4 hS hB
    obtain ⟨e1, e2, e3⟩ := blM_1 hB
    refine A_aload_n dX9_blamed_40 rfl ?_
    refine A_getR dX9_blamed_41 flX9_48 rfl rfl ?_
    refine A_getI dX9_blamed_44 flX9_211 rfl rfl ?_
    rw [e1]
    refine A_if_ne (tgt := 54) dX9_blamed_47 (by decide) (fun b47 => ?_) (fun b47 => ?_)
    · exact fin μ3 j hj hj4 hS (by rw [hB]; unfold blX; rw [if_neg b47])
    · refine A_aload_n dX9_blamed_50 rfl ?_
      refine A_callV0 dX9_blamed_51 mlX9_215 (by decide) rfl rfl (Nat.le_of_ble_eq_true rfl) (c_tryPairs hC (hS.cx hc) (fun μ4 h1 h2 => ?_))
      refine Kn.v ?_
      refine fin μ4 j hj hj4 (hS.tr h1) ?_
      rw [h2, hB, show fitX c μ3 ν = fitX c μ ν from funext (fun f => funext (fun g => fitX_sc hS ν f g))]
      unfold blX
      rw [if_pos b47]
  refine A_iload_n dX9_blamed_0 rfl ?_
  refine A_iconst (v := nI 0) dX9_blamed_1 (by decide +kernel) ?_
  refine A_iconst (v := nI 3) dX9_blamed_2 (by decide +kernel) ?_
  refine A_callS3 dX9_blamed_3 mlX9_52 (by decide) (Nat.le_of_ble_eq_true rfl) (c_within _ _ _ (fun g1 g2 => ?_) (fun g3 => ?_))
  · refine Kn.s ?_
    refine A_if_ne (tgt := 13) dX9_blamed_6 (by decide) (fun _ => ?_) (fun h => absurd h (by decide +kernel))
    refine A_aload_n dX9_blamed_13 rfl ?_
    refine A_getR dX9_blamed_14 flX9_48 rfl rfl ?_
    refine A_callV0 dX9_blamed_17 mlX9_206 (by decide) rfl rfl (Nat.le_of_ble_eq_true rfl) (c_blForget (fun μ1 h1 h2 => ?_))
    refine Kn.v ?_
    refine A_aload_n dX9_blamed_20 rfl ?_
    refine A_iconst (v := (-1)) dX9_blamed_21 (by decide +kernel) ?_
    refine A_iconst (v := (-1)) dX9_blamed_22 (by decide +kernel) ?_
    refine A_callV2 dX9_blamed_23 mlX9_207 (by decide) rfl rfl (Nat.le_of_ble_eq_true rfl) (c_tryFaults _ _ hC ((Sc.bl h2).cx hc) (fun μ2 h3 h4 => ?_))
    refine Kn.v ?_
    have hS2 := (Sc.bl h2).tr h3
    have hB2 : blM μ2 = blX1 (fitX c μ ν) := by rw [h4, h1, fitX_sc (Sc.bl h2)]; rfl
    obtain ⟨e1, e2, e3⟩ := blM_1 hB2
    obtain ⟨j, hj, ej⟩ := nI_of2 (M := nI 3) (n := 3) rfl (i_le_n g1) g2
    refine A_aload_n dX9_blamed_26 rfl ?_
    refine A_getR dX9_blamed_27 flX9_48 rfl rfl ?_
    refine A_getI dX9_blamed_30 flX9_211 rfl rfl ?_
    rw [e1]
    refine A_if_ne (tgt := 40) dX9_blamed_33 (by decide) (fun b33 => ?_) (fun b33 => ?_)
    · exact mid μ2 j ej (by omega) hS2 (by rw [hB2]; unfold blX2; rw [if_neg b33])
    · refine A_aload_n dX9_blamed_36 rfl ?_
      refine A_callV0 dX9_blamed_37 mlX9_212 (by decide) rfl rfl (Nat.le_of_ble_eq_true rfl) (c_trySingles hC (hS2.cx hc) (fun μ3 h5 h6 => ?_))
      refine Kn.v ?_
      refine mid μ3 j ej (by omega) (hS2.tr h5) ?_
      rw [h6, hB2, show fitX c μ2 ν = fitX c μ ν from funext (fun f => funext (fun g => fitX_sc hS2 ν f g))]
      unfold blX2
      rw [if_pos b33]
  · refine Kn.s ?_
    refine A_if_ne (tgt := 13) dX9_blamed_6 (by decide) (fun h => absurd h (by decide +kernel)) (fun _ => ?_)
    refine A_sipush (v := (-1002)) dX9_blamed_9 (by decide +kernel) ?_
    refine A_iret dX9_blamed_12 rfl rfl ?_
    exact ho g3
end
section
/-! bits of a long, counted as Long.bitCount does -/
theorem and_256 {a b c d : Nat} (hb : b < 256) (hd : d < 256) : (a * 256 + b) &&& (c * 256 + d) = (a &&& c) * 256 + (b &&& d) := by
  apply Nat.eq_of_testBit_eq
  intro i
  have e : ∀ (x y : Nat), y < 256 → (x * 256 + y).testBit i = if i < 8 then y.testBit i else x.testBit (i - 8) := by
    intro x y hy
    have := Nat.testBit_two_pow_mul_add x (show y < 2 ^ 8 from hy) i
    rw [show (2 : Nat) ^ 8 = 256 by decide, Nat.mul_comm] at this
    exact this
  rw [Nat.testBit_and, e a b hb, e c d hd, e (a &&& c) (b &&& d) (Nat.lt_of_le_of_lt Nat.and_le_left hb)]
  split
  · rw [Nat.testBit_and]
  · rw [Nat.testBit_and]
/-- a byte, k times over -/
def msk (m : Nat) : Nat → Nat
  | 0 => 0
  | k + 1 => msk m k * 256 + m
def bc1 (k n : Nat) : Nat := n - (n / 2 &&& msk 85 k)
def bc2 (k x : Nat) : Nat := (x &&& msk 51 k) + (x / 4 &&& msk 51 k)
def bc3 (k x : Nat) : Nat := (x + x / 16) &&& msk 15 k
theorem bc_leak1 : ∀ h, h < 2 → ∀ r, r < 256 → (h * 128 + r / 2) &&& 85 = r / 2 &&& 85 ∧ (r / 2 &&& 85) ≤ r := by decide +kernel
theorem bc_byte1 : ∀ r, r < 256 → r - (r / 2 &&& 85) < 256 := by decide +kernel
theorem bc_leak2 : ∀ h, h < 4 → ∀ r, r < 256 → (h * 64 + r / 4) &&& 51 = r / 4 &&& 51 := by decide +kernel
theorem bc_byte2 : ∀ r, r < 256 → (r &&& 51) + (r / 4 &&& 51) < 256 := by decide +kernel
theorem bc_byte12 : ∀ r, r < 256 → ((r - (r / 2 &&& 85)) &&& 51) + ((r - (r / 2 &&& 85)) / 4 &&& 51) ≤ 68 ∧ (((r - (r / 2 &&& 85)) &&& 51) + ((r - (r / 2 &&& 85)) / 4 &&& 51)) % 16 ≤ 4 := by decide +kernel
theorem bc_leak3 : ∀ h, h < 5 → ∀ x, x < 69 → (x + (h * 16 + x / 16)) &&& 15 = (x + x / 16) &&& 15 := by decide +kernel
theorem bc_byte3 : ∀ r, r < 256 → (((r - (r / 2 &&& 85)) &&& 51) + ((r - (r / 2 &&& 85)) / 4 &&& 51) + (((r - (r / 2 &&& 85)) &&& 51) + ((r - (r / 2 &&& 85)) / 4 &&& 51)) / 16) &&& 15 = popN r 8 := by decide +kernel
theorem bc1_s (k q : Nat) {r : Nat} (hr : r < 256) : bc1 (k + 1) (q * 256 + r) = bc1 k q * 256 + (r - (r / 2 &&& 85)) := by
  obtain ⟨h1, h2⟩ := bc_leak1 (q % 2) (by omega) r hr
  have e : (q * 256 + r) / 2 = q / 2 * 256 + (q % 2 * 128 + r / 2) := by omega
  have hle : (q / 2 &&& msk 85 k) ≤ q := Nat.le_trans Nat.and_le_left (by omega)
  unfold bc1
  rw [msk, e, and_256 (by omega) (by omega), h1]
  have : (q / 2 &&& msk 85 k) * 256 ≤ q * 256 := Nat.mul_le_mul_right _ hle
  rw [Nat.sub_mul]
  omega
theorem bc2_s (k q : Nat) {r : Nat} (hr : r < 256) : bc2 (k + 1) (q * 256 + r) = bc2 k q * 256 + ((r &&& 51) + (r / 4 &&& 51)) := by
  have h1 := bc_leak2 (q % 4) (by omega) r hr
  have e : (q * 256 + r) / 4 = q / 4 * 256 + (q % 4 * 64 + r / 4) := by omega
  unfold bc2
  rw [msk, e, and_256 hr (by omega), and_256 (by omega) (by omega), h1, Nat.add_mul]
  omega
theorem bc3_s (k q : Nat) {x : Nat} (hx : x < 69) (hq : q % 16 ≤ 4) : bc3 (k + 1) (q * 256 + x) = bc3 k q * 256 + ((x + x / 16) &&& 15) := by
  have h1 := bc_leak3 (q % 16) (by omega) x hx
  have e : q * 256 + x + (q * 256 + x) / 16 = (q + q / 16) * 256 + (x + (q % 16 * 16 + x / 16)) := by omega
  unfold bc3
  rw [msk, e, and_256 (by omega) (by omega), h1]
/-- the bytes' counts, a byte each -/
def bcY : Nat → Nat → Nat
  | 0, _ => 0
  | k + 1, n => bcY k (n / 256) * 256 + popN (n % 256) 8
theorem bc_low : ∀ (k n : Nat), bc2 k (bc1 k n) % 16 ≤ 4 := by
  intro k n
  cases k with
  | zero => simp [bc2, msk]
  | succ k =>
    have e : n = n / 256 * 256 + n % 256 := by omega
    have hr : n % 256 < 256 := Nat.mod_lt _ (by omega)
    have h := (bc_byte12 _ hr).2
    rw [e, bc1_s k _ hr, bc2_s k _ (bc_byte1 _ hr)]
    omega
theorem bc_all : ∀ (k n : Nat), n < 256 ^ k → bc3 k (bc2 k (bc1 k n)) = bcY k n
  | 0, n, h => by simp [bc3, msk, bcY]
  | k + 1, n, h => by
    have e : n = n / 256 * 256 + n % 256 := by omega
    have hr : n % 256 < 256 := Nat.mod_lt _ (by omega)
    have hq : n / 256 < 256 ^ k := Nat.div_lt_of_lt_mul (by rw [Nat.mul_comm, ← Nat.pow_succ]; exact h)
    have h1 := (bc_byte12 _ hr).1
    have h2 : bc1 (k + 1) n = bc1 k (n / 256) * 256 + (n % 256 - (n % 256 / 2 &&& 85)) := by
      conv => lhs; rw [e]
      exact bc1_s k _ hr
    rw [h2, bc2_s k _ (bc_byte1 _ hr), bc3_s k _ (by omega) (bc_low k _), bc_byte3 _ hr, bc_all k _ hq, bcY]
theorem popN_add (n a : Nat) : ∀ m, popN n (a + m) = popN n a + popN (n / 2 ^ a) m
  | 0 => rfl
  | m + 1 => by
    rw [← Nat.add_assoc, popN, popN, popN_add n a m, Nat.div_div_eq_div_mul, ← Nat.pow_add]
    omega
theorem popN_mod (n : Nat) : ∀ m, popN (n % 2 ^ m) m = popN n m := by
  have key : ∀ (k m : Nat), m ≤ k → popN (n % 2 ^ k) m = popN n m := by
    intro k m
    induction m with
    | zero => intro _; rfl
    | succ m ih =>
      intro h
      rw [popN, popN, ih (by omega)]
      congr 1
      have h1 : (n % 2 ^ k).testBit m = n.testBit m := by rw [Nat.testBit_mod_two_pow]; simp [show m < k by omega]
      rw [Nat.testBit_eq_decide_div_mod_eq, Nat.testBit_eq_decide_div_mod_eq] at h1
      have h2 := decide_eq_decide.mp h1
      omega
  exact fun m => key m m (Nat.le_refl m)
theorem popN_le (n : Nat) : ∀ m, popN n m ≤ m
  | 0 => Nat.le_refl 0
  | m + 1 => by
    have := popN_le n m
    rw [popN]
    omega
/-- numbers of bytes, the lowest first -/
def dgs (p : Nat → Nat) : Nat → Nat
  | 0 => 0
  | k + 1 => dgs (fun i => p (i + 1)) k * 256 + p 0
theorem dgs_0 {p : Nat → Nat} {k : Nat} (h : p 0 < 256) (hz : k = 0 → p 0 = 0) : dgs p k % 256 = p 0 ∧ dgs p k / 256 = dgs (fun i => p (i + 1)) (k - 1) := by
  cases k with
  | zero =>
    rw [hz rfl]
    simp [dgs]
  | succ k =>
    rw [dgs, Nat.add_sub_cancel]
    generalize dgs (fun i => p (i + 1)) k = q
    omega
theorem ar_D (a b c : Nat) (h : a % 256 = c) : a * 256 + b + (a * 256 + b) / 256 = (a + a / 256) * 256 + (b + c) ∨ ¬ b < 256 := by omega
theorem ar_E (a b c : Nat) (h : a / 256 % 256 = c) : a * 256 + b + (a * 256 + b) / 65536 = (a + a / 65536) * 256 + (b + c) ∨ ¬ b < 256 := by omega
theorem dgs_D : ∀ (k : Nat) (p : Nat → Nat), (∀ i, p i < 256) → (∀ i, k ≤ i → p i = 0) → dgs p k + dgs p k / 256 = dgs (fun i => p i + p (i + 1)) k
  | 0, p, h, hz => by simp [dgs]
  | k + 1, p, h, hz => by
    have ih := dgs_D k (fun i => p (i + 1)) (fun i => h (i + 1)) (fun i hi => hz (i + 1) (by omega))
    have h0 := (dgs_0 (p := fun i => p (i + 1)) (k := k) (h 1) (fun e => hz 1 (by omega))).1
    rcases ar_D _ (p 0) _ h0 with e | e
    · rw [dgs, e, dgs, ih]
    · exact absurd (h 0) e
theorem dgs_E : ∀ (k : Nat) (p : Nat → Nat), (∀ i, p i < 256) → (∀ i, k ≤ i → p i = 0) → dgs p k + dgs p k / 65536 = dgs (fun i => p i + p (i + 2)) k
  | 0, p, h, hz => by simp [dgs]
  | k + 1, p, h, hz => by
    have ih := dgs_E k (fun i => p (i + 1)) (fun i => h (i + 1)) (fun i hi => hz (i + 1) (by omega))
    have h0 := (dgs_0 (p := fun i => p (i + 1)) (k := k) (h 1) (fun e => hz 1 (by omega))).2
    have h1 := (dgs_0 (p := fun i => p (i + 2)) (k := k - 1) (h 2) (fun e => hz 2 (by omega))).1
    have h2 : dgs (fun i => p (i + 1)) k / 256 % 256 = p 2 := by rw [h0]; exact h1
    rcases ar_E _ (p 0) _ h2 with e | e
    · rw [dgs, e, dgs, ih]
    · exact absurd (h 0) e
theorem d32 (z : Nat) : z / 4294967296 = z / 256 / 256 / 256 / 256 := by rw [Nat.div_div_eq_div_mul, Nat.div_div_eq_div_mul, Nat.div_div_eq_div_mul]
theorem mod128 {w u a b : Nat} (h1 : w % 256 = a) (h2 : u % 256 = b) (h : a + b < 128) : (w + u) % 128 = a + b := by omega
def bc6 (y : Nat) : Nat := (y + y / 256 + (y + y / 256) / 65536) + (y + y / 256 + (y + y / 256) / 65536) / 4294967296
theorem bc6_dgs (p : Nat → Nat) (h : ∀ i, p i ≤ 8) (hz : ∀ i, 8 ≤ i → p i = 0) : bc6 (dgs p 8) % 128 = (p 0 + p 1 + (p 2 + p 3)) + (p 4 + p 5 + (p 6 + p 7)) := by
  have hb : ∀ i, p i < 256 := fun i => by have := h i; omega
  have e1 := dgs_D 8 p hb hz
  have hb2 : ∀ i, p i + p (i + 1) < 256 := fun i => by have := h i; have := h (i + 1); omega
  have e2 := dgs_E 8 (fun i => p i + p (i + 1)) hb2 (fun i hi => by show p i + p (i + 1) = 0; rw [hz i hi, hz (i + 1) (by omega)])
  have hb3 : ∀ i, p i + p (i + 1) + (p (i + 2) + p (i + 2 + 1)) < 256 := fun i => by have := h i; have := h (i + 1); have := h (i + 2); have := h (i + 2 + 1); omega
  have hz3 : ∀ i, 8 ≤ i → p i + p (i + 1) + (p (i + 2) + p (i + 2 + 1)) = 0 := fun i hi => by rw [hz i hi, hz (i + 1) (by omega), hz (i + 2) (by omega), hz (i + 2 + 1) (by omega)]
  unfold bc6
  rw [e1, e2, d32]
  have f0 := dgs_0 (p := fun i => p i + p (i + 1) + (p (i + 2) + p (i + 2 + 1))) (k := 8) (hb3 0) (fun e => by omega)
  have f1 := dgs_0 (p := fun i => p (i + 1) + p (i + 1 + 1) + (p (i + 1 + 2) + p (i + 1 + 2 + 1))) (k := 7) (hb3 1) (fun e => by omega)
  have f2 := dgs_0 (p := fun i => p (i + 1 + 1) + p (i + 1 + 1 + 1) + (p (i + 1 + 1 + 2) + p (i + 1 + 1 + 2 + 1))) (k := 6) (hb3 2) (fun e => by omega)
  have f3 := dgs_0 (p := fun i => p (i + 1 + 1 + 1) + p (i + 1 + 1 + 1 + 1) + (p (i + 1 + 1 + 1 + 2) + p (i + 1 + 1 + 1 + 2 + 1))) (k := 5) (hb3 3) (fun e => by omega)
  have f4 := dgs_0 (p := fun i => p (i + 1 + 1 + 1 + 1) + p (i + 1 + 1 + 1 + 1 + 1) + (p (i + 1 + 1 + 1 + 1 + 2) + p (i + 1 + 1 + 1 + 1 + 2 + 1))) (k := 4) (hb3 4) (fun e => by omega)
  have g4 : dgs (fun i => p i + p (i + 1) + (p (i + 2) + p (i + 2 + 1))) 8 / 256 / 256 / 256 / 256 % 256 = p 4 + p 5 + (p 6 + p 7) := by
    rw [f0.2]
    show dgs (fun i => p (i + 1) + p (i + 1 + 1) + (p (i + 1 + 2) + p (i + 1 + 2 + 1))) 7 / 256 / 256 / 256 % 256 = _
    rw [f1.2]
    show dgs (fun i => p (i + 1 + 1) + p (i + 1 + 1 + 1) + (p (i + 1 + 1 + 2) + p (i + 1 + 1 + 2 + 1))) 6 / 256 / 256 % 256 = _
    rw [f2.2]
    show dgs (fun i => p (i + 1 + 1 + 1) + p (i + 1 + 1 + 1 + 1) + (p (i + 1 + 1 + 1 + 2) + p (i + 1 + 1 + 1 + 2 + 1))) 5 / 256 % 256 = _
    rw [f3.2]
    exact f4.1
  exact mod128 f0.1 g4 (by have := h 0; have := h 1; have := h 2; have := h 3; have := h 4; have := h 5; have := h 6; have := h 7; show p 0 + p 1 + (p 2 + p 3) + (p 4 + p 5 + (p 6 + p 7)) < 128; omega)
theorem bcY_dgs : ∀ (k n : Nat), bcY k n = dgs (fun i => popN (n / 256 ^ i) 8) k
  | 0, n => rfl
  | k + 1, n => by
    rw [bcY, dgs, bcY_dgs k (n / 256)]
    have e : (fun i => popN (n / 256 / 256 ^ i) 8) = (fun i => popN (n / 256 ^ (i + 1)) 8) := by
      funext i
      rw [Nat.div_div_eq_div_mul, Nat.pow_succ, Nat.mul_comm]
    have e2 : popN (n % 256) 8 = popN n 8 := popN_mod n 8
    rw [e, e2]
    simp
theorem popN_0 : ∀ m, popN 0 m = 0
  | 0 => rfl
  | m + 1 => by rw [popN, popN_0 m]; simp
theorem bc_pop {n : Nat} (hn : n < 256 ^ 8) : bc6 (bcY 8 n) % 128 = popN n 64 := by
  rw [bcY_dgs, bc6_dgs (fun i => popN (n / 256 ^ i) 8) (fun i => popN_le _ _) (fun i hi => by
    have : n / 256 ^ i = 0 := Nat.div_eq_of_lt (Nat.lt_of_lt_of_le hn (Nat.pow_le_pow_right (by omega) hi))
    show popN (n / 256 ^ i) 8 = 0
    rw [this, popN_0])]
  have s : ∀ i m, popN (n / 256 ^ i) (8 + m) = popN (n / 256 ^ i) 8 + popN (n / 256 ^ (i + 1)) m := fun i m => by
    rw [popN_add, Nat.div_div_eq_div_mul, show (2 : Nat) ^ 8 = 256 by decide, ← Nat.pow_succ]
  have e0 : popN n 64 = popN (n / 256 ^ 0) (8 + 56) := by simp
  rw [e0, s 0 56, s 1 48, s 2 40, s 3 32, s 4 24, s 5 16, s 6 8]
  simp only [Nat.add_assoc]
theorem msk_8 : msk 85 8 = 6148914691236517205 ∧ msk 51 8 = 3689348814741910323 ∧ msk 15 8 = 1085102592571150095 := by decide +kernel
end
section
/-! Long.bitCount, the lone bucket's row, how far a row is off, the drip (the class) -/
theorem and_le_m (a : Nat) {m : Nat} : a &&& m ≤ m := Nat.and_le_right
theorem popN_60 {n : Nat} (h : n < 2 ^ 60) : popN n 64 = popN n 60 := by
  have e := popN_add n 60 4
  have e0 : n / 2 ^ 60 = 0 := Nat.div_eq_of_lt h
  rw [e0, popN_0, Nat.add_zero] at e
  exact e
theorem c_lbc {n : Nat} (hn : n < 2 ^ 60) {μ : MI} {ν : ML} {P : Po} (hP : P (some (.int (nI (popN n 60)))) μ ν) : Ct mJ13_bitCount_95d88 0 [.long (lN n)] μ ν P := by
  obtain ⟨k1, k2, k3⟩ := msk_8
  have hn4 : n < 2 ^ 64 := Nat.lt_trans hn (by decide)
  have b1 : bc1 8 n ≤ n := Nat.sub_le _ _
  have x1 : n - (n / 2 &&& 6148914691236517205) = bc1 8 n := by unfold bc1; rw [k1]
  have l1 : (n / 2 &&& 6148914691236517205) ≤ n := Nat.le_trans Nat.and_le_left (Nat.div_le_self _ _)
  have x2 : (bc1 8 n &&& 3689348814741910323) + (bc1 8 n / 4 &&& 3689348814741910323) = bc2 8 (bc1 8 n) := by unfold bc2; rw [k2]
  have b2 : bc2 8 (bc1 8 n) ≤ 7378697629483820646 := by
    rw [← x2]
    have q1 := and_le_m (bc1 8 n) (m := 3689348814741910323)
    have q2 := and_le_m (bc1 8 n / 4) (m := 3689348814741910323)
    omega
  have x3 : (bc2 8 (bc1 8 n) + bc2 8 (bc1 8 n) / 16) &&& 1085102592571150095 = bcY 8 n := by
    rw [← bc_all 8 n (by rw [show 256 ^ 8 = 2 ^ 64 by decide]; exact hn4)]
    unfold bc3
    rw [k3]
  have b3 : bcY 8 n ≤ 1085102592571150095 := by rw [← x3]; exact and_le_m _
  have x4 : (bcY 8 n + bcY 8 n / 256 + (bcY 8 n + bcY 8 n / 256) / 65536 + (bcY 8 n + bcY 8 n / 256 + (bcY 8 n + bcY 8 n / 256) / 65536) / 4294967296) &&& 127 = popN n 60 := by
    rw [show (127 : Nat) = 2 ^ 7 - 1 by decide, Nat.and_two_pow_sub_one_eq_mod]
    exact (bc_pop (by rw [show 256 ^ 8 = 2 ^ 64 by decide]; exact hn4)).trans (popN_60 hn)
  have sh : ∀ (m k D : Nat), m < 2 ^ 64 → k < 64 → 2 ^ k = D → ((lN m).toUInt64 >>> ((nI k).toInt64.toUInt64 &&& Int64.toUInt64 63)).toInt64 = lN (m / D) := fun m k D hm hk hD => by rw [wb_shr hm hk, hD]
  have c1 : (6148914691236517205 : Int64) = lN 6148914691236517205 := by decide +kernel
  have c2 : (3689348814741910323 : Int64) = lN 3689348814741910323 := by decide +kernel
  have c3 : (1085102592571150095 : Int64) = lN 1085102592571150095 := by decide +kernel
  refine Ct.of (ls0 := [_, _]) (by decide) rfl (Nat.le_of_ble_eq_true rfl) rfl ?_
  refine A_lload_n dJ13_bitCount_95d88_0 rfl ?_
  refine A_lload_n dJ13_bitCount_95d88_1 rfl ?_
  refine A_iconst (v := nI 1) dJ13_bitCount_95d88_2 (by decide +kernel) ?_
  refine A_lushr dJ13_bitCount_95d88_3 ?_
  rw [sh n 1 2 hn4 (by decide) (by decide)]
  refine A_ldc2 dJ13_bitCount_95d88_4 kcJ13_314 ?_
  rw [c1]
  refine A_land dJ13_bitCount_95d88_7 ?_
  rw [wb_and (by omega) (by decide)]
  refine A_lsub dJ13_bitCount_95d88_8 ?_
  rw [lN_sub l1, x1]
  refine A_lstore_n (ls1 := [_, _]) dJ13_bitCount_95d88_9 (by decide) rfl rfl ?_
  refine A_lload_n dJ13_bitCount_95d88_10 rfl ?_
  refine A_ldc2 dJ13_bitCount_95d88_11 kcJ13_316 ?_
  rw [c2]
  refine A_land dJ13_bitCount_95d88_14 ?_
  rw [wb_and (by omega) (by decide)]
  refine A_lload_n dJ13_bitCount_95d88_15 rfl ?_
  refine A_iconst (v := nI 2) dJ13_bitCount_95d88_16 (by decide +kernel) ?_
  refine A_lushr dJ13_bitCount_95d88_17 ?_
  rw [sh _ 2 4 (by omega) (by decide) (by decide)]
  refine A_ldc2 dJ13_bitCount_95d88_18 kcJ13_316 ?_
  rw [c2]
  refine A_land dJ13_bitCount_95d88_21 ?_
  rw [wb_and (by omega) (by decide)]
  refine A_ladd dJ13_bitCount_95d88_22 ?_
  rw [lN_add, x2]
  refine A_lstore_n (ls1 := [_, _]) dJ13_bitCount_95d88_23 (by decide) rfl rfl ?_
  refine A_lload_n dJ13_bitCount_95d88_24 rfl ?_
  refine A_lload_n dJ13_bitCount_95d88_25 rfl ?_
  refine A_iconst (v := nI 4) dJ13_bitCount_95d88_26 (by decide +kernel) ?_
  refine A_lushr dJ13_bitCount_95d88_27 ?_
  rw [sh _ 4 16 (by omega) (by decide) (by decide)]
  refine A_ladd dJ13_bitCount_95d88_28 ?_
  rw [lN_add]
  refine A_ldc2 dJ13_bitCount_95d88_29 kcJ13_318 ?_
  rw [c3]
  refine A_land dJ13_bitCount_95d88_32 ?_
  rw [wb_and (by omega) (by decide), x3]
  refine A_lstore_n (ls1 := [_, _]) dJ13_bitCount_95d88_33 (by decide) rfl rfl ?_
  refine A_lload_n dJ13_bitCount_95d88_34 rfl ?_
  refine A_lload_n dJ13_bitCount_95d88_35 rfl ?_
  refine A_bipush (v := nI 8) dJ13_bitCount_95d88_36 (by decide +kernel) ?_
  refine A_lushr dJ13_bitCount_95d88_38 ?_
  rw [sh _ 8 256 (by omega) (by decide) (by decide)]
  refine A_ladd dJ13_bitCount_95d88_39 ?_
  rw [lN_add]
  refine A_lstore_n (ls1 := [_, _]) dJ13_bitCount_95d88_40 (by decide) rfl rfl ?_
  refine A_lload_n dJ13_bitCount_95d88_41 rfl ?_
  refine A_lload_n dJ13_bitCount_95d88_42 rfl ?_
  refine A_bipush (v := nI 16) dJ13_bitCount_95d88_43 (by decide +kernel) ?_
  refine A_lushr dJ13_bitCount_95d88_45 ?_
  rw [sh _ 16 65536 (by omega) (by decide) (by decide)]
  refine A_ladd dJ13_bitCount_95d88_46 ?_
  rw [lN_add]
  refine A_lstore_n (ls1 := [_, _]) dJ13_bitCount_95d88_47 (by decide) rfl rfl ?_
  refine A_lload_n dJ13_bitCount_95d88_48 rfl ?_
  refine A_lload_n dJ13_bitCount_95d88_49 rfl ?_
  refine A_bipush (v := nI 32) dJ13_bitCount_95d88_50 (by decide +kernel) ?_
  refine A_lushr dJ13_bitCount_95d88_52 ?_
  rw [sh _ 32 4294967296 (by omega) (by decide) (by decide)]
  refine A_ladd dJ13_bitCount_95d88_53 ?_
  rw [lN_add]
  refine A_lstore_n (ls1 := [_, _]) dJ13_bitCount_95d88_54 (by decide) rfl rfl ?_
  refine A_lload_n dJ13_bitCount_95d88_55 rfl ?_
  refine A_l2i dJ13_bitCount_95d88_56 ?_
  rw [lN_i]
  refine A_bipush (v := nI 127) dJ13_bitCount_95d88_57 (by decide +kernel) ?_
  refine A_iand dJ13_bitCount_95d88_59 ?_
  rw [nx_and, x4]
  refine A_iret dJ13_bitCount_95d88_60 rfl rfl ?_
  exact hP
/-- the lone bucket ahead of a tick: what it holds, how long it is down -/
def lnS (s r v e : Nat) : Nat → Nat × Nat
  | 0 => (0, 0)
  | t + 1 => if 0 < (lnS s r v e t).2 then ((lnS s r v e t).1, (lnS s r v e t).2 - 1) else if s ≤ (lnS s r v e t).1 + (if t % e = 0 then v else 0) then (0, r) else ((lnS s r v e t).1 + (if t % e = 0 then v else 0), 0)
def lnK (s r v e t : Nat) : Bool := decide ((lnS s r v e t).2 = 0) && decide (s ≤ (lnS s r v e t).1 + (if t % e = 0 then v else 0))
theorem lnS_d {s r v e t : Nat} (h : 0 < (lnS s r v e t).2) : lnS s r v e (t + 1) = ((lnS s r v e t).1, (lnS s r v e t).2 - 1) ∧ lnK s r v e t = false := by
  refine ⟨by rw [lnS, if_pos h], ?_⟩
  unfold lnK
  simp [show ¬ (lnS s r v e t).2 = 0 by omega]
theorem lnS_k {s r v e t : Nat} (h : (lnS s r v e t).2 = 0) (hw : s ≤ (lnS s r v e t).1 + (if t % e = 0 then v else 0)) : lnS s r v e (t + 1) = (0, r) ∧ lnK s r v e t = true := by
  refine ⟨by rw [lnS, if_neg (by omega), if_pos hw], ?_⟩
  unfold lnK
  rw [decide_eq_true h, decide_eq_true hw]
  rfl
theorem lnS_n {s r v e t : Nat} (h : (lnS s r v e t).2 = 0) (hw : ¬ s ≤ (lnS s r v e t).1 + (if t % e = 0 then v else 0)) : lnS s r v e (t + 1) = ((lnS s r v e t).1 + (if t % e = 0 then v else 0), 0) ∧ lnK s r v e t = false := by
  refine ⟨by rw [lnS, if_neg (by omega), if_neg hw], ?_⟩
  unfold lnK
  rw [decide_eq_true h, decide_eq_false hw]
  rfl
theorem lnS_b {s r v e : Nat} (hs : 0 < s) : ∀ t, (lnS s r v e t).1 < s ∧ (lnS s r v e t).2 ≤ r
  | 0 => ⟨hs, Nat.zero_le _⟩
  | t + 1 => by
    have ih := lnS_b (s := s) (r := r) (v := v) (e := e) hs t
    rcases Nat.eq_zero_or_pos (lnS s r v e t).2 with q | q
    · by_cases hw : s ≤ (lnS s r v e t).1 + (if t % e = 0 then v else 0)
      · rw [(lnS_k q hw).1]
        exact ⟨hs, Nat.le_refl _⟩
      · rw [(lnS_n q hw).1]
        exact ⟨Nat.not_le.mp hw, Nat.zero_le _⟩
    · rw [(lnS_d q).1]
      exact ⟨ih.1, Nat.le_trans (Nat.sub_le _ _) ih.2⟩
theorem bitsN_t {K : Nat → Bool} {n : Nat} (h : K n = true) : bitsN K (n + 1) = bitsN K n + 2 ^ n := by rw [bitsN, if_pos h]
theorem bitsN_f {K : Nat → Bool} {n : Nat} (h : K n = false) : bitsN K (n + 1) = bitsN K n := by rw [bitsN, h, if_neg (by decide), Nat.add_zero]
def lnR (s r v e : Nat) : Nat := bitsN (lnK s r v e) 60
theorem lnR_lt (s r v e : Nat) : lnR s r v e < 2 ^ 60 := bitsN_lt _ _
theorem c_loneRow {s r v e : Nat} (hs : 0 < s) (hs1 : s ≤ 100) (hr : r ≤ 20) (hv : v ≤ 8) (he : 0 < e) (he1 : e ≤ 8) {μ : MI} {ν : ML} {P : Po} (hP : P (some (.long (lN (lnR s r v e)))) μ ν) : Ct mX9_loneRow 1 [.int (nI s), .int (nI r), .int (nI v), .int (nI e)] μ ν P := by
  refine Ct.of (ls0 := [_, _, _, _, _, _, _, _, _]) (by decide) rfl (Nat.le_of_ble_eq_true rfl) rfl ?_
  have loop : ∀ (n i : Nat), 60 - i < n → i ≤ 60 → AW mX9_loneRow (1, none) P 12 [some (.int (nI s)), some (.int (nI r)), some (.int (nI v)), some (.int (nI e)), some (.long (lN (bitsN (lnK s r v e) i))), none, some (.int (nI (lnS s r v e i).1)), some (.int (nI (lnS s r v e i).2)), some (.int (nI i))] [] μ ν := by
    intro n
    induction n with
    | zero => intro i h; omega
    | succ n ih =>
      intro i hn hi
      obtain ⟨hb1, hb2⟩ := lnS_b (s := s) (r := r) (v := v) (e := e) hs i
      have ih1 : i < 60 → _ := fun h => ih (i + 1) (by omega) (by omega)
      refine A_iload dX9_loneRow_12 rfl ?_
      refine A_bipush (v := nI 60) dX9_loneRow_14 (by decide +kernel) ?_
      refine A_icmp_geN (tgt := 72) dX9_loneRow_16 (by decide) (by omega) (by omega) (fun b16 => ?_) (fun b16 => ?_)
      · refine A_lload dX9_loneRow_72 rfl ?_
        refine A_lret dX9_loneRow_74 rfl ?_
        rw [show i = 60 by omega]; exact hP
      · have ih1 := ih1 b16
        refine A_iload dX9_loneRow_19 rfl ?_
        refine A_if_le (tgt := 30) dX9_loneRow_21 (by decide) (fun b21 => ?_) (fun b21 => ?_)
        · have hd : (lnS s r v e i).2 = 0 := by
            rcases Nat.eq_zero_or_pos (lnS s r v e i).2 with q | q
            · exact q
            · exact absurd b21 (nI_nle q (by omega))
          refine A_iload_n dX9_loneRow_30 rfl ?_
          refine A_iload dX9_loneRow_31 rfl ?_
          refine A_callS2 dX9_loneRow_33 mlX9_249 (by decide) (Nat.le_of_ble_eq_true rfl) (c_goesInto (by omega) (by omega) (fun g1 g2 => ?_) (fun g0 => ?_))
          · refine Kn.s ?_
            refine A_if_eq (tgt := 45) dX9_loneRow_36 (by decide) (fun h => absurd h (by decide +kernel)) (fun _ => ?_)
            refine A_iload dX9_loneRow_39 rfl ?_
            refine A_iload_n dX9_loneRow_41 rfl ?_
            refine A_iaddN dX9_loneRow_42 ?_
            refine A_istore (ls1 := [_, _, _, _, _, _, _, _, _]) dX9_loneRow_43 (by decide) rfl rfl ?_
            refine A_iload dX9_loneRow_45 rfl ?_
            refine A_iload_n dX9_loneRow_47 rfl ?_
            refine A_icmp_ltN (tgt := 66) dX9_loneRow_48 (by decide) (by omega) (by omega) (fun b48 => ?_) (fun b48 => ?_)
            · refine A_iincN (ls1 := [_, _, _, _, _, _, _, _, _]) dX9_loneRow_66 rfl (by decide) rfl rfl ?_
              refine A_goto (tgt := 12) dX9_loneRow_69 (by decide) ?_
              have ew : (if i % e = 0 then v else 0) = v := if_pos g2
              obtain ⟨k1, k2⟩ := lnS_n (s := s) (r := r) (v := v) (e := e) hd (by rw [ew]; omega)
              rw [k1, bitsN_f k2, ew] at ih1
              rw [hd]
              exact ih1
            · refine A_lload dX9_loneRow_51 rfl ?_
              refine A_lconst (v := 1) dX9_loneRow_53 rfl ?_
              refine A_iload dX9_loneRow_54 rfl ?_
              refine A_lshl dX9_loneRow_56 ?_
              refine A_lor dX9_loneRow_57 ?_
              refine A_lstore (ls1 := [_, _, _, _, _, _, _, _, _]) dX9_loneRow_58 (by decide) rfl rfl ?_
              refine A_iconst (v := nI 0) dX9_loneRow_60 (by decide +kernel) ?_
              refine A_istore (ls1 := [_, _, _, _, _, _, _, _, _]) dX9_loneRow_61 (by decide) rfl rfl ?_
              refine A_iload_n dX9_loneRow_63 rfl ?_
              refine A_istore (ls1 := [_, _, _, _, _, _, _, _, _]) dX9_loneRow_64 (by decide) rfl rfl ?_
              refine A_iincN (ls1 := [_, _, _, _, _, _, _, _, _]) dX9_loneRow_66 rfl (by decide) rfl rfl ?_
              refine A_goto (tgt := 12) dX9_loneRow_69 (by decide) ?_
              have ew : (if i % e = 0 then v else 0) = v := if_pos g2
              obtain ⟨k1, k2⟩ := lnS_k (s := s) (r := r) (v := v) (e := e) hd (by rw [ew]; omega)
              rw [k1, bitsN_t k2] at ih1
              have e9 := lN_or_bit (q := 1) b16 (bitsN_lt (lnK s r v e) i) (Nat.le_refl 1)
              rw [Nat.one_mul] at e9
              rw [show (1 : Int64) = lN 1 from rfl, e9]
              exact ih1
          · refine Kn.s ?_
            refine A_if_eq (tgt := 45) dX9_loneRow_36 (by decide) (fun _ => ?_) (fun h => absurd h (by decide +kernel))
            refine A_iload dX9_loneRow_45 rfl ?_
            refine A_iload_n dX9_loneRow_47 rfl ?_
            refine A_icmp_ltN (tgt := 66) dX9_loneRow_48 (by decide) (by omega) (by omega) (fun b48 => ?_) (fun b48 => ?_)
            · refine A_iincN (ls1 := [_, _, _, _, _, _, _, _, _]) dX9_loneRow_66 rfl (by decide) rfl rfl ?_
              refine A_goto (tgt := 12) dX9_loneRow_69 (by decide) ?_
              have ew : (if i % e = 0 then v else 0) = 0 := if_neg (fun q => g0 ⟨he, q⟩)
              obtain ⟨k1, k2⟩ := lnS_n (s := s) (r := r) (v := v) (e := e) hd (by rw [ew]; omega)
              rw [k1, bitsN_f k2, ew] at ih1
              rw [hd]
              exact ih1
            · refine A_lload dX9_loneRow_51 rfl ?_
              refine A_lconst (v := 1) dX9_loneRow_53 rfl ?_
              refine A_iload dX9_loneRow_54 rfl ?_
              refine A_lshl dX9_loneRow_56 ?_
              refine A_lor dX9_loneRow_57 ?_
              refine A_lstore (ls1 := [_, _, _, _, _, _, _, _, _]) dX9_loneRow_58 (by decide) rfl rfl ?_
              refine A_iconst (v := nI 0) dX9_loneRow_60 (by decide +kernel) ?_
              refine A_istore (ls1 := [_, _, _, _, _, _, _, _, _]) dX9_loneRow_61 (by decide) rfl rfl ?_
              refine A_iload_n dX9_loneRow_63 rfl ?_
              refine A_istore (ls1 := [_, _, _, _, _, _, _, _, _]) dX9_loneRow_64 (by decide) rfl rfl ?_
              refine A_iincN (ls1 := [_, _, _, _, _, _, _, _, _]) dX9_loneRow_66 rfl (by decide) rfl rfl ?_
              refine A_goto (tgt := 12) dX9_loneRow_69 (by decide) ?_
              have ew : (if i % e = 0 then v else 0) = 0 := if_neg (fun q => g0 ⟨he, q⟩)
              obtain ⟨k1, k2⟩ := lnS_k (s := s) (r := r) (v := v) (e := e) hd (by rw [ew]; omega)
              rw [k1, bitsN_t k2] at ih1
              have e9 := lN_or_bit (q := 1) b16 (bitsN_lt (lnK s r v e) i) (Nat.le_refl 1)
              rw [Nat.one_mul] at e9
              rw [show (1 : Int64) = lN 1 from rfl, e9]
              exact ih1
        · refine A_iinc (ls1 := [_, _, _, _, _, _, _, _, _]) dX9_loneRow_24 rfl rfl (by decide) rfl rfl ?_
          refine A_goto (tgt := 66) dX9_loneRow_27 (by decide) ?_
          refine A_iincN (ls1 := [_, _, _, _, _, _, _, _, _]) dX9_loneRow_66 rfl (by decide) rfl rfl ?_
          refine A_goto (tgt := 12) dX9_loneRow_69 (by decide) ?_
          have hd : 0 < (lnS s r v e i).2 := Nat.pos_of_ne_zero (fun q => b21 (by rw [q]; decide +kernel))
          obtain ⟨k1, k2⟩ := lnS_d hd
          rw [k1, bitsN_f k2] at ih1
          have e9 : nI (lnS s r v e i).2 + Int32.ofInt (-1) = nI ((lnS s r v e i).2 - 1) := by
            have := pk_m1 ((lnS s r v e i).2 - 1)
            rw [show (lnS s r v e i).2 - 1 + 1 = (lnS s r v e i).2 by omega] at this
            exact this
          rw [e9]
          exact ih1
  refine A_lconst (v := 0) dX9_loneRow_0 rfl ?_
  refine A_lstore (ls1 := [_, _, _, _, _, _, _, _, _]) dX9_loneRow_1 (by decide) rfl rfl ?_
  refine A_iconst (v := nI 0) dX9_loneRow_3 (by decide +kernel) ?_
  refine A_istore (ls1 := [_, _, _, _, _, _, _, _, _]) dX9_loneRow_4 (by decide) rfl rfl ?_
  refine A_iconst (v := nI 0) dX9_loneRow_6 (by decide +kernel) ?_
  refine A_istore (ls1 := [_, _, _, _, _, _, _, _, _]) dX9_loneRow_7 (by decide) rfl rfl ?_
  refine A_iconst (v := nI 0) dX9_loneRow_9 (by decide +kernel) ?_
  refine A_istore (ls1 := [_, _, _, _, _, _, _, _, _]) dX9_loneRow_10 (by decide) rfl rfl ?_
  exact loop 61 0 (by omega) (by omega)
/-- a row moved by i - 5 ticks -/
def shP (b i : Nat) : Nat := if i < 5 then b / 2 ^ (5 - i) else b * 2 ^ (i - 5) % 2 ^ 60
theorem shP_lt {b : Nat} (hb : b < 2 ^ 60) (i : Nat) : shP b i < 2 ^ 60 := by
  unfold shP
  split
  · exact Nat.lt_of_le_of_lt (Nat.div_le_self _ _) hb
  · exact Nat.mod_lt _ (by decide)
def dI5 (i : Nat) : Nat := if i < 5 then 5 - i else i - 5
def offF (a b m : Nat) : Nat → Nat
  | 0 => m
  | i + 1 => Nat.min (offF a b m i) (popN (a ^^^ shP b i) 60 + dI5 i)
def hI (i : Nat) : Int32 := nI i - nI 5
theorem hI_ok : ∀ i, i < 12 → (nI 5 < hI i ↔ 11 ≤ i) ∧ (0 ≤ hI i ↔ 5 ≤ i) ∧ hI i + Int32.ofInt 1 = hI (i + 1) ∧ (i < 5 → -(hI i) = nI (5 - i)) ∧ (5 ≤ i → hI i = nI (i - 5)) ∧ (if 0 ≤ hI i then hI i else 0 - hI i) = nI (dI5 i) := by decide +kernel
theorem lN_mask60 (m : Nat) : lN m &&& 1152921504606846975 = lN (m % 2 ^ 60) := by
  rw [wb_mod m, show (1152921504606846975 : Int64) = lN (2 ^ 60 - 1) by decide +kernel, wb_mask (Nat.mod_lt _ (by decide)) (by decide), Nat.mod_mod_of_dvd _ (by decide)]
theorem nI_min {a b : Nat} (ha : a < 2 ^ 31) (hb : b < 2 ^ 31) : (if nI b < nI a then nI b else nI a) = nI (Nat.min a b) := by
  by_cases h : b < a
  · rw [if_pos ((nI_ltI hb ha).mpr h), show Nat.min a b = b from Nat.min_eq_right (by omega)]
  · rw [if_neg (fun q => h ((nI_ltI hb ha).mp q)), show Nat.min a b = a from Nat.min_eq_left (by omega)]
theorem offF_le (a b m : Nat) : ∀ i, offF a b m i ≤ m
  | 0 => Nat.le_refl _
  | i + 1 => Nat.le_trans (Nat.min_le_left _ _) (offF_le a b m i)
theorem c_offOf {a b : Nat} (ha : a < 2 ^ 60) (hb : b < 2 ^ 60) {μ : MI} {ν : ML} {P : Po} (hP : P (some (.int (nI (offF a b 60 11)))) μ ν) : Ct mX9_offOf 1 [.long (lN a), .long (lN b)] μ ν P := by
  refine Ct.of (ls0 := [_, _, _, _, _, _, _, _]) (by decide) rfl (Nat.le_of_ble_eq_true rfl) rfl ?_
  have loop : ∀ (n i : Nat), 11 - i < n → i ≤ 11 → AW mX9_offOf (1, none) P 8 [some (.long (lN a)), none, some (.long (lN b)), none, some (.int (nI (offF a b 60 i))), some (.int (hI i)), none, none] [] μ ν := by
    intro n
    induction n with
    | zero => intro i h; omega
    | succ n ih =>
      intro i hn hi
      obtain ⟨q1, q2, q3, q4, q5, q6⟩ := hI_ok i (by omega)
      have hx : a ^^^ shP b i < 2 ^ 60 := Nat.xor_lt_two_pow ha (shP_lt hb i)
      have ho := offF_le a b 60 i
      have hp := popN_le (a ^^^ shP b i) 60
      have hd : dI5 i ≤ 11 := by unfold dI5; split <;> omega
      have ih1 := ih (i + 1)
      rw [offF] at ih1
      refine A_iload dX9_offOf_8 rfl ?_
      refine A_iconst (v := nI 5) dX9_offOf_10 (by decide +kernel) ?_
      refine A_icmp_gt (tgt := 63) dX9_offOf_11 (by decide) (fun b11 => ?_) (fun b11 => ?_)
      · refine A_iload dX9_offOf_63 rfl ?_
        refine A_iret dX9_offOf_65 rfl rfl ?_
        rw [show i = 11 by have := q1.mp b11; omega]; exact hP
      · have h11 : i < 11 := by
          rcases Nat.lt_or_ge i 11 with z | z
          · exact z
          · exact absurd (q1.mpr z) b11
        refine A_iload dX9_offOf_14 rfl ?_
        refine A_if_ge (tgt := 27) dX9_offOf_16 (by decide) (fun b16 => ?_) (fun b16 => ?_)
        · have h5 : 5 ≤ i := q2.mp b16
          refine A_lload_n dX9_offOf_27 rfl ?_
          refine A_iload dX9_offOf_28 rfl ?_
          rw [q5 h5]
          refine A_lshl dX9_offOf_30 ?_
          rw [wb_shl b (by omega)]
          refine A_ldc2 dX9_offOf_31 kcX9_253 ?_
          refine A_land dX9_offOf_34 ?_
          rw [lN_mask60, show b * 2 ^ (i - 5) % 2 ^ 60 = shP b i by unfold shP; rw [if_neg (by omega)]]
          refine A_lstore (ls1 := [_, _, _, _, _, _, _, _]) dX9_offOf_35 (by decide) rfl rfl ?_
          try rw [← q5 (by omega)]
          refine A_iload dX9_offOf_37 rfl ?_
          refine A_lload_n dX9_offOf_39 rfl ?_
          refine A_lload dX9_offOf_40 rfl ?_
          refine A_lxor dX9_offOf_42 ?_
          rw [lN_xor]
          refine A_callS1 dX9_offOf_43 mlX9_255 (by decide) (Nat.le_of_ble_eq_true rfl) (c_lbc hx ?_)
          refine Kn.s ?_
          refine A_iload dX9_offOf_46 rfl ?_
          refine A_abs dX9_offOf_48 mlX9_260 (by decide) (Nat.le_of_ble_eq_true rfl) ?_
          rw [q6]
          refine A_iaddN dX9_offOf_51 ?_
          refine A_min dX9_offOf_52 mlX9_265 (by decide) (Nat.le_of_ble_eq_true rfl) ?_
          rw [nI_min (by omega) (by omega)]
          refine A_istore (ls1 := [_, _, _, _, _, _, _, _]) dX9_offOf_55 (by decide) rfl rfl ?_
          refine A_iinc (ls1 := [_, _, _, _, _, _, _, _]) dX9_offOf_57 rfl rfl (by decide) rfl rfl ?_
          refine A_goto (tgt := 8) dX9_offOf_60 (by decide) ?_
          rw [q3]
          exact A_weak (ih1 (by omega) (by omega)) (by repeat first | exact fw_0 | refine fw_s ?_ | refine fw_n ?_)
        · have h5 : i < 5 := by
            rcases Nat.lt_or_ge i 5 with z | z
            · exact z
            · exact absurd (q2.mpr z) b16
          refine A_lload_n dX9_offOf_19 rfl ?_
          refine A_iload dX9_offOf_20 rfl ?_
          refine A_ineg dX9_offOf_22 ?_
          rw [q4 (by omega)]
          refine A_lushr dX9_offOf_23 ?_
          rw [wb_shr (by omega) (by omega), show b / 2 ^ (5 - i) = shP b i by unfold shP; rw [if_pos (by omega)]]
          refine A_goto (tgt := 35) dX9_offOf_24 (by decide) ?_
          refine A_lstore (ls1 := [_, _, _, _, _, _, _, _]) dX9_offOf_35 (by decide) rfl rfl ?_
          try rw [← q5 (by omega)]
          refine A_iload dX9_offOf_37 rfl ?_
          refine A_lload_n dX9_offOf_39 rfl ?_
          refine A_lload dX9_offOf_40 rfl ?_
          refine A_lxor dX9_offOf_42 ?_
          rw [lN_xor]
          refine A_callS1 dX9_offOf_43 mlX9_255 (by decide) (Nat.le_of_ble_eq_true rfl) (c_lbc hx ?_)
          refine Kn.s ?_
          refine A_iload dX9_offOf_46 rfl ?_
          refine A_abs dX9_offOf_48 mlX9_260 (by decide) (Nat.le_of_ble_eq_true rfl) ?_
          rw [q6]
          refine A_iaddN dX9_offOf_51 ?_
          refine A_min dX9_offOf_52 mlX9_265 (by decide) (Nat.le_of_ble_eq_true rfl) ?_
          rw [nI_min (by omega) (by omega)]
          refine A_istore (ls1 := [_, _, _, _, _, _, _, _]) dX9_offOf_55 (by decide) rfl rfl ?_
          refine A_iinc (ls1 := [_, _, _, _, _, _, _, _]) dX9_offOf_57 rfl rfl (by decide) rfl rfl ?_
          refine A_goto (tgt := 8) dX9_offOf_60 (by decide) ?_
          rw [q3]
          exact A_weak (ih1 (by omega) (by omega)) (by repeat first | exact fw_0 | refine fw_s ?_ | refine fw_n ?_)
  refine A_bipush (v := nI 60) dX9_offOf_0 (by decide +kernel) ?_
  refine A_istore (ls1 := [_, _, _, _, _, _, _, _]) dX9_offOf_2 (by decide) rfl rfl ?_
  refine A_bipush (v := (-5)) dX9_offOf_4 (by decide +kernel) ?_
  refine A_istore (ls1 := [_, _, _, _, _, _, _, _]) dX9_offOf_6 (by decide) rfl rfl ?_
  have h9 := loop 12 0 (by omega) (by omega)
  exact h9
end
section
/-! the drip (the class) -/
def drF (a s r m : Nat) : Nat → Nat × Nat × Nat
  | 0 => (0, 0, m)
  | k + 1 => if offF a (lnR s r (k / 8 + 1) (k % 8 + 1)) 60 11 < (drF a s r m k).2.2 then (k / 8 + 1, k % 8 + 1, offF a (lnR s r (k / 8 + 1) (k % 8 + 1)) 60 11) else drF a s r m k
theorem drF_b (a s r m : Nat) : ∀ k, k ≤ 64 → (drF a s r m k).1 ≤ 8 ∧ (drF a s r m k).2.1 ≤ 8 ∧ (drF a s r m k).2.2 ≤ m
  | 0, _ => ⟨Nat.zero_le _, Nat.zero_le _, Nat.le_refl _⟩
  | k + 1, h => by
    have ih := drF_b a s r m k (by omega)
    rw [drF]
    split
    · next q => exact ⟨by show k / 8 + 1 ≤ 8; omega, by show k % 8 + 1 ≤ 8; omega, Nat.le_of_lt (Nat.lt_of_lt_of_le q ih.2.2)⟩
    · exact ih
theorem drF_t {a s r m k v e : Nat} (hv : k / 8 + 1 = v) (he : k % 8 + 1 = e) (h : offF a (lnR s r v e) 60 11 < (drF a s r m k).2.2) : drF a s r m (k + 1) = (v, e, offF a (lnR s r v e) 60 11) := by
  subst hv
  subst he
  rw [drF, if_pos h]
theorem drF_f {a s r m k v e : Nat} (hv : k / 8 + 1 = v) (he : k % 8 + 1 = e) (h : ¬ offF a (lnR s r v e) 60 11 < (drF a s r m k).2.2) : drF a s r m (k + 1) = drF a s r m k := by
  subst hv
  subst he
  rw [drF, if_neg h]
def drR (x : Nat × Nat × Nat) (j : Nat) : Nat := match j with
  | 0 => x.1
  | 1 => x.2.1
  | _ => x.2.2
abbrev okDr (r : Int64) (s q w : Int32) : Prop := uL r < 2 ^ 60 ∧ (nI 1 ≤ s ∧ s ≤ nI 100) ∧ (nI 0 ≤ q ∧ q ≤ nI 20) ∧ (nI 0 ≤ w ∧ w ≤ nI 2)
theorem c_drip (r : Int64) (x y what : Int32) {μ : MI} {ν : ML} {P : Po} (ho : ¬ okDr r x y what → P (some (.int (-1002))) μ ν) (ha : ∀ s q j, uL r < 2 ^ 60 → x = nI s → 1 ≤ s → s ≤ 100 → y = nI q → q ≤ 20 → what = nI j → j < 3 → P (some (.int (nI (drR (drF (uL r) s q 61 64) j)))) μ ν) : Ct mX9_drip 2 [.ref 0, .long r, .int x, .int y, .int what] μ ν P := by
  refine Ct.of (ls0 := [_, _, _, _, _, _, _, _, _, _, _, _]) (by decide) rfl (Nat.le_of_ble_eq_true rfl) rfl ?_
  have main : ∀ s q j, uL r < 2 ^ 60 → x = nI s → 1 ≤ s → s ≤ 100 → y = nI q → q ≤ 20 → what = nI j → j < 3 → AW mX9_drip (2, none) P 42 [some (.ref 0), some (.long r), none, some (.int x), some (.int y), some (.int what), none, none, none, none, none, none] [] μ ν := by
    intro s q j hr hx hs1 hs hy hq hw hj
    have h9 := ha s q j hr hx hs1 hs hy hq hw hj
    subst hx
    subst hy
    subst hw
    rw [show r = lN (uL r) from (lN_uL r).symm]
    generalize uL r = a at *
    have inner : ∀ (i : Nat), i < 8 → (∀ w0 : Option Value, AW mX9_drip (2, none) P 55 [some (.ref 0), some (.long (lN a)), none, some (.int (nI s)), some (.int (nI q)), some (.int (nI j)), some (.int (nI (drF a s q 61 (8 * (i + 1))).1)), some (.int (nI (drF a s q 61 (8 * (i + 1))).2.1)), some (.int (nI (drF a s q 61 (8 * (i + 1))).2.2)), some (.int (nI (i + 1 + 1))), none, none] [] μ ν) → ∀ (n k : Nat), 8 - k < n → k ≤ 8 → AW mX9_drip (2, none) P 65 [some (.ref 0), some (.long (lN a)), none, some (.int (nI s)), some (.int (nI q)), some (.int (nI j)), some (.int (nI (drF a s q 61 (8 * i + k)).1)), some (.int (nI (drF a s q 61 (8 * i + k)).2.1)), some (.int (nI (drF a s q 61 (8 * i + k)).2.2)), some (.int (nI (i + 1))), some (.int (nI (k + 1))), none] [] μ ν := by
      intro i hi hex n
      induction n with
      | zero => intro k h; omega
      | succ n ih =>
        intro k hn hk
        have hb := drF_b a s q 61 (8 * i + k) (by omega)
        have ho := offF_le a (lnR s q (i + 1) (k + 1)) 60 11
        have ih1 : k < 8 → _ := fun h => ih (k + 1) (by omega) (by omega)
        refine A_iload dX9_drip_65 rfl ?_
        refine A_bipush (v := nI 8) dX9_drip_67 (by decide +kernel) ?_
        refine A_icmp_gtN (tgt := 113) dX9_drip_69 (by decide) (by omega) (by omega) (fun b69 => ?_) (fun b69 => ?_)
        · refine A_iincN (ls1 := [_, _, _, _, _, _, _, _, _, _, _, _]) dX9_drip_113 rfl (by decide) rfl rfl ?_
          refine A_goto (tgt := 55) dX9_drip_116 (by decide) ?_
          have h8 := hex none
          rw [show 8 * (i + 1) = 8 * i + k by omega] at h8
          exact A_weak h8 (by repeat first | exact fw_0 | refine fw_s ?_ | refine fw_n ?_)
        · refine A_lload_n dX9_drip_72 rfl ?_
          refine A_iload_n dX9_drip_73 rfl ?_
          refine A_iload dX9_drip_74 rfl ?_
          refine A_iload dX9_drip_76 rfl ?_
          refine A_iload dX9_drip_78 rfl ?_
          refine A_callS4 dX9_drip_80 mlX9_191 (by decide) (Nat.le_of_ble_eq_true rfl) (c_loneRow hs1 hs hq (by omega) (by omega) (by omega) ?_)
          refine Kn.s ?_
          refine A_callS2 dX9_drip_83 mlX9_195 (by decide) (Nat.le_of_ble_eq_true rfl) (c_offOf hr (lnR_lt _ _ _ _) ?_)
          refine Kn.s ?_
          refine A_istore (ls1 := [_, _, _, _, _, _, _, _, _, _, _, _]) dX9_drip_86 (by decide) rfl rfl ?_
          refine A_iload dX9_drip_88 rfl ?_
          refine A_iload dX9_drip_90 rfl ?_
          refine A_icmp_geN (tgt := 107) dX9_drip_92 (by decide) (by omega) (by omega) (fun b92 => ?_) (fun b92 => ?_)
          · refine A_iincN (ls1 := [_, _, _, _, _, _, _, _, _, _, _, _]) dX9_drip_107 rfl (by decide) rfl rfl ?_
            refine A_goto (tgt := 65) dX9_drip_110 (by decide) ?_
            have h8 := ih1 (by omega)
            rw [← Nat.add_assoc, drF_f (v := i + 1) (e := k + 1) (by omega) (by omega) (by omega)] at h8
            exact A_weak h8 (by repeat first | exact fw_0 | refine fw_s ?_ | refine fw_n ?_)
          · refine A_iload dX9_drip_95 rfl ?_
            refine A_istore (ls1 := [_, _, _, _, _, _, _, _, _, _, _, _]) dX9_drip_97 (by decide) rfl rfl ?_
            refine A_iload dX9_drip_99 rfl ?_
            refine A_istore (ls1 := [_, _, _, _, _, _, _, _, _, _, _, _]) dX9_drip_101 (by decide) rfl rfl ?_
            refine A_iload dX9_drip_103 rfl ?_
            refine A_istore (ls1 := [_, _, _, _, _, _, _, _, _, _, _, _]) dX9_drip_105 (by decide) rfl rfl ?_
            refine A_iincN (ls1 := [_, _, _, _, _, _, _, _, _, _, _, _]) dX9_drip_107 rfl (by decide) rfl rfl ?_
            refine A_goto (tgt := 65) dX9_drip_110 (by decide) ?_
            have h8 := ih1 (by omega)
            rw [← Nat.add_assoc, drF_t (v := i + 1) (e := k + 1) (by omega) (by omega) (by omega)] at h8
            exact A_weak h8 (by repeat first | exact fw_0 | refine fw_s ?_ | refine fw_n ?_)
    have loop : ∀ (n i : Nat), 8 - i < n → i ≤ 8 → AW mX9_drip (2, none) P 55 [some (.ref 0), some (.long (lN a)), none, some (.int (nI s)), some (.int (nI q)), some (.int (nI j)), some (.int (nI (drF a s q 61 (8 * i)).1)), some (.int (nI (drF a s q 61 (8 * i)).2.1)), some (.int (nI (drF a s q 61 (8 * i)).2.2)), some (.int (nI (i + 1))), none, none] [] μ ν := by
      intro n
      induction n with
      | zero => intro i h; omega
      | succ n ih =>
        intro i hn hi
        refine A_iload dX9_drip_55 rfl ?_
        refine A_bipush (v := nI 8) dX9_drip_57 (by decide +kernel) ?_
        refine A_icmp_gtN (tgt := 119) dX9_drip_59 (by decide) (by omega) (by omega) (fun b59 => ?_) (fun b59 => ?_)
        · rw [show 8 * i = 64 by omega]
          refine A_iload dX9_drip_119 rfl ?_
          refine A_if_ne (tgt := 129) dX9_drip_121 (by decide) (fun b121 => ?_) (fun b121 => ?_)
          · refine A_iload dX9_drip_129 rfl ?_
            refine A_iconst (v := nI 1) dX9_drip_131 (by decide +kernel) ?_
            refine A_icmp_neN (tgt := 140) dX9_drip_132 (by decide) (by omega) (by omega) (fun b132 => ?_) (fun b132 => ?_)
            · refine A_iload dX9_drip_140 rfl ?_
              refine A_iret dX9_drip_142 rfl rfl ?_
              have ej : j = 2 := by
                have h1 : ¬ j = 0 := fun q => b121 (by rw [q]; rfl)
                omega
              subst ej
              exact h9
            · refine A_iload dX9_drip_135 rfl ?_
              refine A_goto (tgt := 142) dX9_drip_137 (by decide) ?_
              refine A_iret dX9_drip_142 rfl rfl ?_
              have ej : j = 1 := by omega
              subst ej
              exact h9
          · refine A_iload dX9_drip_124 rfl ?_
            refine A_goto (tgt := 142) dX9_drip_126 (by decide) ?_
            refine A_iret dX9_drip_142 rfl rfl ?_
            have ej : j = 0 := (nI_inj (by omega) (by omega)).mp b121
            subst ej
            exact h9
        · refine A_iconst (v := nI 1) dX9_drip_62 (by decide +kernel) ?_
          refine A_istore (ls1 := [_, _, _, _, _, _, _, _, _, _, _, _]) dX9_drip_63 (by decide) rfl rfl ?_
          exact A_weak (inner i (by omega) (fun _ => ih (i + 1) (by omega) (by omega)) 9 0 (by omega) (by omega)) (by repeat first | exact fw_0 | refine fw_s ?_ | refine fw_n ?_)
    refine A_iconst (v := nI 0) dX9_drip_42 (by decide +kernel) ?_
    refine A_istore (ls1 := [_, _, _, _, _, _, _, _, _, _, _, _]) dX9_drip_43 (by decide) rfl rfl ?_
    refine A_iconst (v := nI 0) dX9_drip_45 (by decide +kernel) ?_
    refine A_istore (ls1 := [_, _, _, _, _, _, _, _, _, _, _, _]) dX9_drip_46 (by decide) rfl rfl ?_
    refine A_bipush (v := nI 61) dX9_drip_48 (by decide +kernel) ?_
    refine A_istore (ls1 := [_, _, _, _, _, _, _, _, _, _, _, _]) dX9_drip_50 (by decide) rfl rfl ?_
    refine A_iconst (v := nI 1) dX9_drip_52 (by decide +kernel) ?_
    refine A_istore (ls1 := [_, _, _, _, _, _, _, _, _, _, _, _]) dX9_drip_53 (by decide) rfl rfl ?_
    exact loop 9 0 (by omega) (by omega)
  refine A_lload_n dX9_drip_0 rfl ?_
  refine A_callS1 dX9_drip_1 mlX9_187 (by decide) (Nat.le_of_ble_eq_true rfl) (c_isRow _ (fun g0 => ?_) (fun g0 => ?_))
  · refine Kn.s ?_
    refine A_if_eq (tgt := 38) dX9_drip_4 (by decide) (fun h => absurd h (by decide +kernel)) (fun _ => ?_)
    refine A_iload_n dX9_drip_7 rfl ?_
    refine A_iconst (v := nI 1) dX9_drip_8 (by decide +kernel) ?_
    refine A_bipush (v := nI 100) dX9_drip_9 (by decide +kernel) ?_
    refine A_callS3 dX9_drip_11 mlX9_52 (by decide) (Nat.le_of_ble_eq_true rfl) (c_within _ _ _ (fun g1 g2 => ?_) (fun g3 => ?_))
    · refine Kn.s ?_
      refine A_if_eq (tgt := 38) dX9_drip_14 (by decide) (fun h => absurd h (by decide +kernel)) (fun _ => ?_)
      refine A_iload dX9_drip_17 rfl ?_
      refine A_iconst (v := nI 0) dX9_drip_19 (by decide +kernel) ?_
      refine A_bipush (v := nI 20) dX9_drip_20 (by decide +kernel) ?_
      refine A_callS3 dX9_drip_22 mlX9_52 (by decide) (Nat.le_of_ble_eq_true rfl) (c_within _ _ _ (fun g4 g5 => ?_) (fun g6 => ?_))
      · refine Kn.s ?_
        refine A_if_eq (tgt := 38) dX9_drip_25 (by decide) (fun h => absurd h (by decide +kernel)) (fun _ => ?_)
        refine A_iload dX9_drip_28 rfl ?_
        refine A_iconst (v := nI 0) dX9_drip_30 (by decide +kernel) ?_
        refine A_iconst (v := nI 2) dX9_drip_31 (by decide +kernel) ?_
        refine A_callS3 dX9_drip_32 mlX9_52 (by decide) (Nat.le_of_ble_eq_true rfl) (c_within _ _ _ (fun g7 g8 => ?_) (fun g9 => ?_))
        · refine Kn.s ?_
          refine A_if_ne (tgt := 42) dX9_drip_35 (by decide) (fun _ => ?_) (fun h => absurd h (by decide +kernel))
          obtain ⟨s, hs, es⟩ := nI_of2 (M := nI 100) (n := 100) rfl (i_le_n (Int32.le_trans (show (0 : Int32) ≤ nI 1 by decide +kernel) g1)) g2
          obtain ⟨q, hq, eq⟩ := nI_of2 (M := nI 20) (n := 20) rfl (i_le_n g4) g5
          obtain ⟨j, hj, ej⟩ := nI_of2 (M := nI 2) (n := 2) rfl (i_le_n g7) g8
          exact main s q j g0 es (by rw [es] at g1; exact (nI_leI (by omega) (by omega)).mp g1) hs eq hq ej (by omega)
        · refine Kn.s ?_
          refine A_if_ne (tgt := 42) dX9_drip_35 (by decide) (fun h => absurd h (by decide +kernel)) (fun _ => ?_)
          refine A_sipush (v := (-1002)) dX9_drip_38 (by decide +kernel) ?_
          refine A_iret dX9_drip_41 rfl rfl ?_
          exact ho (fun z => g9 z.2.2.2)
      · refine Kn.s ?_
        refine A_if_eq (tgt := 38) dX9_drip_25 (by decide) (fun _ => ?_) (fun h => absurd h (by decide +kernel))
        refine A_sipush (v := (-1002)) dX9_drip_38 (by decide +kernel) ?_
        refine A_iret dX9_drip_41 rfl rfl ?_
        exact ho (fun z => g6 z.2.2.1)
    · refine Kn.s ?_
      refine A_if_eq (tgt := 38) dX9_drip_14 (by decide) (fun _ => ?_) (fun h => absurd h (by decide +kernel))
      refine A_sipush (v := (-1002)) dX9_drip_38 (by decide +kernel) ?_
      refine A_iret dX9_drip_41 rfl rfl ?_
      exact ho (fun z => g3 z.2.1)
  · refine Kn.s ?_
    refine A_if_eq (tgt := 38) dX9_drip_4 (by decide) (fun _ => ?_) (fun h => absurd h (by decide +kernel))
    refine A_sipush (v := (-1002)) dX9_drip_38 (by decide +kernel) ?_
    refine A_iret dX9_drip_41 rfl rfl ?_
    exact ho (fun z => g0 z.1)
end
section
/-! the ways that spouts are turned (the class) -/
def chN (x s : Nat) : Nat := match s with
  | 0 => x / 5 / 5 / 5 % 5
  | 1 => x / 5 / 5 % 5
  | 2 => x / 5 % 5
  | _ => x % 5
def chF (x s : Nat) : Int32 := nI (chN x s) - nI 2
theorem chN_lt (x s : Nat) : chN x s < 5 := by
  unfold chN
  split <;> exact Nat.mod_lt _ (by omega)
def ab2 (k : Nat) : Nat := if k < 2 then 2 - k else k - 2
theorem ab2_ok : ∀ k, k < 5 → (if 0 ≤ nI k - nI 2 then nI k - nI 2 else 0 - (nI k - nI 2)) = nI (ab2 k) := by decide +kernel
theorem chF_abs (x s : Nat) : (if 0 ≤ chF x s then chF x s else 0 - chF x s) = nI (ab2 (chN x s)) := ab2_ok _ (chN_lt x s)
theorem c_changeIn {x s : Nat} (hx : x < 625) (hs : s < 4) {μ : MI} {ν : ML} {P : Po} (hP : P (some (.int (chF x s))) μ ν) : Ct mX9_changeIn 0 [.int (nI x), .int (nI s)] μ ν P := by
  refine Ct.of (ls0 := [_, _, _, _]) (by decide) rfl (Nat.le_of_ble_eq_true rfl) rfl ?_
  rcases (show s = 0 ∨ s = 1 ∨ s = 2 ∨ s = 3 by omega) with rfl | rfl | rfl | rfl
  · skip
    refine A_iload_n dX9_changeIn_0 rfl ?_
    refine A_istore_n (ls1 := [_, _, _, _]) dX9_changeIn_1 (by decide) rfl rfl ?_
    refine A_iconst (v := nI 3) dX9_changeIn_2 (by decide +kernel) ?_
    refine A_istore_n (ls1 := [_, _, _, _]) dX9_changeIn_3 (by decide) rfl rfl ?_
    refine A_iload_n dX9_changeIn_4 rfl ?_
    refine A_iload_n dX9_changeIn_5 rfl ?_
    refine A_icmp_le (tgt := 19) dX9_changeIn_6 (by decide) (fun h => absurd h (by decide +kernel)) (fun _ => ?_)
    refine A_iload_n dX9_changeIn_9 rfl ?_
    refine A_iconst (v := nI 5) dX9_changeIn_10 (by decide +kernel) ?_
    refine A_idiv dX9_changeIn_11 (by decide +kernel) ?_
    rw [pk_div (by omega) (by decide) (by decide)]
    refine A_istore_n (ls1 := [_, _, _, _]) dX9_changeIn_12 (by decide) rfl rfl ?_
    refine A_iinc (y := nI 2) (ls1 := [_, _, _, _]) dX9_changeIn_13 rfl (by decide +kernel) (by decide) rfl rfl ?_
    refine A_goto (tgt := 4) dX9_changeIn_16 (by decide) ?_
    refine A_iload_n dX9_changeIn_4 rfl ?_
    refine A_iload_n dX9_changeIn_5 rfl ?_
    refine A_icmp_le (tgt := 19) dX9_changeIn_6 (by decide) (fun h => absurd h (by decide +kernel)) (fun _ => ?_)
    refine A_iload_n dX9_changeIn_9 rfl ?_
    refine A_iconst (v := nI 5) dX9_changeIn_10 (by decide +kernel) ?_
    refine A_idiv dX9_changeIn_11 (by decide +kernel) ?_
    rw [pk_div (by omega) (by decide) (by decide)]
    refine A_istore_n (ls1 := [_, _, _, _]) dX9_changeIn_12 (by decide) rfl rfl ?_
    refine A_iinc (y := nI 1) (ls1 := [_, _, _, _]) dX9_changeIn_13 rfl (by decide +kernel) (by decide) rfl rfl ?_
    refine A_goto (tgt := 4) dX9_changeIn_16 (by decide) ?_
    refine A_iload_n dX9_changeIn_4 rfl ?_
    refine A_iload_n dX9_changeIn_5 rfl ?_
    refine A_icmp_le (tgt := 19) dX9_changeIn_6 (by decide) (fun h => absurd h (by decide +kernel)) (fun _ => ?_)
    refine A_iload_n dX9_changeIn_9 rfl ?_
    refine A_iconst (v := nI 5) dX9_changeIn_10 (by decide +kernel) ?_
    refine A_idiv dX9_changeIn_11 (by decide +kernel) ?_
    rw [pk_div (by omega) (by decide) (by decide)]
    refine A_istore_n (ls1 := [_, _, _, _]) dX9_changeIn_12 (by decide) rfl rfl ?_
    refine A_iinc (y := nI 0) (ls1 := [_, _, _, _]) dX9_changeIn_13 rfl (by decide +kernel) (by decide) rfl rfl ?_
    refine A_goto (tgt := 4) dX9_changeIn_16 (by decide) ?_
    refine A_iload_n dX9_changeIn_4 rfl ?_
    refine A_iload_n dX9_changeIn_5 rfl ?_
    refine A_icmp_le (tgt := 19) dX9_changeIn_6 (by decide) (fun _ => ?_) (fun h => absurd h (by decide +kernel))
    refine A_iload_n dX9_changeIn_19 rfl ?_
    refine A_iconst (v := nI 5) dX9_changeIn_20 (by decide +kernel) ?_
    refine A_iremN dX9_changeIn_21 (by omega) (by omega) (by omega) ?_
    refine A_iconst (v := nI 2) dX9_changeIn_22 (by decide +kernel) ?_
    refine A_isub dX9_changeIn_23 ?_
    refine A_iret dX9_changeIn_24 rfl rfl ?_
    exact hP
  · skip
    refine A_iload_n dX9_changeIn_0 rfl ?_
    refine A_istore_n (ls1 := [_, _, _, _]) dX9_changeIn_1 (by decide) rfl rfl ?_
    refine A_iconst (v := nI 3) dX9_changeIn_2 (by decide +kernel) ?_
    refine A_istore_n (ls1 := [_, _, _, _]) dX9_changeIn_3 (by decide) rfl rfl ?_
    refine A_iload_n dX9_changeIn_4 rfl ?_
    refine A_iload_n dX9_changeIn_5 rfl ?_
    refine A_icmp_le (tgt := 19) dX9_changeIn_6 (by decide) (fun h => absurd h (by decide +kernel)) (fun _ => ?_)
    refine A_iload_n dX9_changeIn_9 rfl ?_
    refine A_iconst (v := nI 5) dX9_changeIn_10 (by decide +kernel) ?_
    refine A_idiv dX9_changeIn_11 (by decide +kernel) ?_
    rw [pk_div (by omega) (by decide) (by decide)]
    refine A_istore_n (ls1 := [_, _, _, _]) dX9_changeIn_12 (by decide) rfl rfl ?_
    refine A_iinc (y := nI 2) (ls1 := [_, _, _, _]) dX9_changeIn_13 rfl (by decide +kernel) (by decide) rfl rfl ?_
    refine A_goto (tgt := 4) dX9_changeIn_16 (by decide) ?_
    refine A_iload_n dX9_changeIn_4 rfl ?_
    refine A_iload_n dX9_changeIn_5 rfl ?_
    refine A_icmp_le (tgt := 19) dX9_changeIn_6 (by decide) (fun h => absurd h (by decide +kernel)) (fun _ => ?_)
    refine A_iload_n dX9_changeIn_9 rfl ?_
    refine A_iconst (v := nI 5) dX9_changeIn_10 (by decide +kernel) ?_
    refine A_idiv dX9_changeIn_11 (by decide +kernel) ?_
    rw [pk_div (by omega) (by decide) (by decide)]
    refine A_istore_n (ls1 := [_, _, _, _]) dX9_changeIn_12 (by decide) rfl rfl ?_
    refine A_iinc (y := nI 1) (ls1 := [_, _, _, _]) dX9_changeIn_13 rfl (by decide +kernel) (by decide) rfl rfl ?_
    refine A_goto (tgt := 4) dX9_changeIn_16 (by decide) ?_
    refine A_iload_n dX9_changeIn_4 rfl ?_
    refine A_iload_n dX9_changeIn_5 rfl ?_
    refine A_icmp_le (tgt := 19) dX9_changeIn_6 (by decide) (fun _ => ?_) (fun h => absurd h (by decide +kernel))
    refine A_iload_n dX9_changeIn_19 rfl ?_
    refine A_iconst (v := nI 5) dX9_changeIn_20 (by decide +kernel) ?_
    refine A_iremN dX9_changeIn_21 (by omega) (by omega) (by omega) ?_
    refine A_iconst (v := nI 2) dX9_changeIn_22 (by decide +kernel) ?_
    refine A_isub dX9_changeIn_23 ?_
    refine A_iret dX9_changeIn_24 rfl rfl ?_
    exact hP
  · skip
    refine A_iload_n dX9_changeIn_0 rfl ?_
    refine A_istore_n (ls1 := [_, _, _, _]) dX9_changeIn_1 (by decide) rfl rfl ?_
    refine A_iconst (v := nI 3) dX9_changeIn_2 (by decide +kernel) ?_
    refine A_istore_n (ls1 := [_, _, _, _]) dX9_changeIn_3 (by decide) rfl rfl ?_
    refine A_iload_n dX9_changeIn_4 rfl ?_
    refine A_iload_n dX9_changeIn_5 rfl ?_
    refine A_icmp_le (tgt := 19) dX9_changeIn_6 (by decide) (fun h => absurd h (by decide +kernel)) (fun _ => ?_)
    refine A_iload_n dX9_changeIn_9 rfl ?_
    refine A_iconst (v := nI 5) dX9_changeIn_10 (by decide +kernel) ?_
    refine A_idiv dX9_changeIn_11 (by decide +kernel) ?_
    rw [pk_div (by omega) (by decide) (by decide)]
    refine A_istore_n (ls1 := [_, _, _, _]) dX9_changeIn_12 (by decide) rfl rfl ?_
    refine A_iinc (y := nI 2) (ls1 := [_, _, _, _]) dX9_changeIn_13 rfl (by decide +kernel) (by decide) rfl rfl ?_
    refine A_goto (tgt := 4) dX9_changeIn_16 (by decide) ?_
    refine A_iload_n dX9_changeIn_4 rfl ?_
    refine A_iload_n dX9_changeIn_5 rfl ?_
    refine A_icmp_le (tgt := 19) dX9_changeIn_6 (by decide) (fun _ => ?_) (fun h => absurd h (by decide +kernel))
    refine A_iload_n dX9_changeIn_19 rfl ?_
    refine A_iconst (v := nI 5) dX9_changeIn_20 (by decide +kernel) ?_
    refine A_iremN dX9_changeIn_21 (by omega) (by omega) (by omega) ?_
    refine A_iconst (v := nI 2) dX9_changeIn_22 (by decide +kernel) ?_
    refine A_isub dX9_changeIn_23 ?_
    refine A_iret dX9_changeIn_24 rfl rfl ?_
    exact hP
  · skip
    refine A_iload_n dX9_changeIn_0 rfl ?_
    refine A_istore_n (ls1 := [_, _, _, _]) dX9_changeIn_1 (by decide) rfl rfl ?_
    refine A_iconst (v := nI 3) dX9_changeIn_2 (by decide +kernel) ?_
    refine A_istore_n (ls1 := [_, _, _, _]) dX9_changeIn_3 (by decide) rfl rfl ?_
    refine A_iload_n dX9_changeIn_4 rfl ?_
    refine A_iload_n dX9_changeIn_5 rfl ?_
    refine A_icmp_le (tgt := 19) dX9_changeIn_6 (by decide) (fun _ => ?_) (fun h => absurd h (by decide +kernel))
    refine A_iload_n dX9_changeIn_19 rfl ?_
    refine A_iconst (v := nI 5) dX9_changeIn_20 (by decide +kernel) ?_
    refine A_iremN dX9_changeIn_21 (by omega) (by omega) (by omega) ?_
    refine A_iconst (v := nI 2) dX9_changeIn_22 (by decide +kernel) ?_
    refine A_isub dX9_changeIn_23 ?_
    refine A_iret dX9_changeIn_24 rfl rfl ?_
    exact hP
/-- a way's size -/
def szW (x : Nat) : Nat := ab2 (chN x 0) + ab2 (chN x 1) + ab2 (chN x 2) + ab2 (chN x 3)
theorem szW_le (x : Nat) : szW x ≤ 8 := by
  have h : ∀ s, ab2 (chN x s) ≤ 2 := fun s => by
    have := chN_lt x s
    unfold ab2
    split <;> omega
  have := h 0
  have := h 1
  have := h 2
  have := h 3
  unfold szW
  omega
theorem c_sizeOf {x : Nat} (hx : x < 625) {μ : MI} {ν : ML} {P : Po} (hP : P (some (.int (nI (szW x)))) μ ν) : Ct mX9_sizeOf 1 [.int (nI x)] μ ν P := by
  refine Ct.of (ls0 := [_, _, _]) (by decide) rfl (Nat.le_of_ble_eq_true rfl) rfl ?_
  refine A_iconst (v := nI 0) dX9_sizeOf_0 (by decide +kernel) ?_
  refine A_istore_n (ls1 := [_, _, _]) dX9_sizeOf_1 (by decide) rfl rfl ?_
  refine A_iconst (v := nI 0) dX9_sizeOf_2 (by decide +kernel) ?_
  refine A_istore_n (ls1 := [_, _, _]) dX9_sizeOf_3 (by decide) rfl rfl ?_
  refine A_iload_n dX9_sizeOf_4 rfl ?_
  refine A_iconst (v := nI 4) dX9_sizeOf_5 (by decide +kernel) ?_
  refine A_icmp_ge (tgt := 26) dX9_sizeOf_6 (by decide) (fun h => absurd h (by decide +kernel)) (fun _ => ?_)
  refine A_iload_n dX9_sizeOf_9 rfl ?_
  refine A_iload_n dX9_sizeOf_10 rfl ?_
  refine A_iload_n dX9_sizeOf_11 rfl ?_
  refine A_callS2 dX9_sizeOf_12 mlX9_233 (by decide) (Nat.le_of_ble_eq_true rfl) (c_changeIn hx (by omega) ?_)
  refine Kn.s ?_
  refine A_abs dX9_sizeOf_15 mlX9_260 (by decide) (Nat.le_of_ble_eq_true rfl) ?_
  rw [chF_abs]
  refine A_iaddN dX9_sizeOf_18 ?_
  refine A_istore_n (ls1 := [_, _, _]) dX9_sizeOf_19 (by decide) rfl rfl ?_
  refine A_iinc (y := nI 1) (ls1 := [_, _, _]) dX9_sizeOf_20 rfl (by decide +kernel) (by decide) rfl rfl ?_
  refine A_goto (tgt := 4) dX9_sizeOf_23 (by decide) ?_
  refine A_iload_n dX9_sizeOf_4 rfl ?_
  refine A_iconst (v := nI 4) dX9_sizeOf_5 (by decide +kernel) ?_
  refine A_icmp_ge (tgt := 26) dX9_sizeOf_6 (by decide) (fun h => absurd h (by decide +kernel)) (fun _ => ?_)
  refine A_iload_n dX9_sizeOf_9 rfl ?_
  refine A_iload_n dX9_sizeOf_10 rfl ?_
  refine A_iload_n dX9_sizeOf_11 rfl ?_
  refine A_callS2 dX9_sizeOf_12 mlX9_233 (by decide) (Nat.le_of_ble_eq_true rfl) (c_changeIn hx (by omega) ?_)
  refine Kn.s ?_
  refine A_abs dX9_sizeOf_15 mlX9_260 (by decide) (Nat.le_of_ble_eq_true rfl) ?_
  rw [chF_abs]
  refine A_iaddN dX9_sizeOf_18 ?_
  refine A_istore_n (ls1 := [_, _, _]) dX9_sizeOf_19 (by decide) rfl rfl ?_
  refine A_iinc (y := nI 2) (ls1 := [_, _, _]) dX9_sizeOf_20 rfl (by decide +kernel) (by decide) rfl rfl ?_
  refine A_goto (tgt := 4) dX9_sizeOf_23 (by decide) ?_
  refine A_iload_n dX9_sizeOf_4 rfl ?_
  refine A_iconst (v := nI 4) dX9_sizeOf_5 (by decide +kernel) ?_
  refine A_icmp_ge (tgt := 26) dX9_sizeOf_6 (by decide) (fun h => absurd h (by decide +kernel)) (fun _ => ?_)
  refine A_iload_n dX9_sizeOf_9 rfl ?_
  refine A_iload_n dX9_sizeOf_10 rfl ?_
  refine A_iload_n dX9_sizeOf_11 rfl ?_
  refine A_callS2 dX9_sizeOf_12 mlX9_233 (by decide) (Nat.le_of_ble_eq_true rfl) (c_changeIn hx (by omega) ?_)
  refine Kn.s ?_
  refine A_abs dX9_sizeOf_15 mlX9_260 (by decide) (Nat.le_of_ble_eq_true rfl) ?_
  rw [chF_abs]
  refine A_iaddN dX9_sizeOf_18 ?_
  refine A_istore_n (ls1 := [_, _, _]) dX9_sizeOf_19 (by decide) rfl rfl ?_
  refine A_iinc (y := nI 3) (ls1 := [_, _, _]) dX9_sizeOf_20 rfl (by decide +kernel) (by decide) rfl rfl ?_
  refine A_goto (tgt := 4) dX9_sizeOf_23 (by decide) ?_
  refine A_iload_n dX9_sizeOf_4 rfl ?_
  refine A_iconst (v := nI 4) dX9_sizeOf_5 (by decide +kernel) ?_
  refine A_icmp_ge (tgt := 26) dX9_sizeOf_6 (by decide) (fun h => absurd h (by decide +kernel)) (fun _ => ?_)
  refine A_iload_n dX9_sizeOf_9 rfl ?_
  refine A_iload_n dX9_sizeOf_10 rfl ?_
  refine A_iload_n dX9_sizeOf_11 rfl ?_
  refine A_callS2 dX9_sizeOf_12 mlX9_233 (by decide) (Nat.le_of_ble_eq_true rfl) (c_changeIn hx (by omega) ?_)
  refine Kn.s ?_
  refine A_abs dX9_sizeOf_15 mlX9_260 (by decide) (Nat.le_of_ble_eq_true rfl) ?_
  rw [chF_abs]
  refine A_iaddN dX9_sizeOf_18 ?_
  refine A_istore_n (ls1 := [_, _, _]) dX9_sizeOf_19 (by decide) rfl rfl ?_
  refine A_iinc (y := nI 4) (ls1 := [_, _, _]) dX9_sizeOf_20 rfl (by decide +kernel) (by decide) rfl rfl ?_
  refine A_goto (tgt := 4) dX9_sizeOf_23 (by decide) ?_
  refine A_iload_n dX9_sizeOf_4 rfl ?_
  refine A_iconst (v := nI 4) dX9_sizeOf_5 (by decide +kernel) ?_
  refine A_icmp_ge (tgt := 26) dX9_sizeOf_6 (by decide) (fun _ => ?_) (fun h => absurd h (by decide +kernel))
  refine A_iload_n dX9_sizeOf_26 rfl ?_
  refine A_iret dX9_sizeOf_27 rfl rfl ?_
  have e : 0 + ab2 (chN x 0) + ab2 (chN x 1) + ab2 (chN x 2) + ab2 (chN x 3) = szW x := by unfold szW; omega
  rw [e]
  exact hP
/-- whether a way's turn is open to a spout -/
def opS (c : MI) (x s : Nat) : Bool := if s < N (c 7 0) then decide (nI 0 ≤ c 9 s + chF x s ∧ c 9 s + chF x s ≤ nI 20) else decide (chF x s = 0)
def opW (c : MI) (x : Nat) : Bool := allB (opS c x) 4
theorem c_isOpen {x n : Nat} (hx : x < 625) {c μ : MI} {ν : ML} {P : Po} (hc : CX c μ) (hn : c 7 0 = nI n) (hn4 : n ≤ 4) (h1 : opW c x = true → P (some (.int (nI 1))) μ ν) (h0 : opW c x = false → P (some (.int (nI 0))) μ ν) : Ct mX9_isOpen 1 [.ref 0, .int (nI x)] μ ν P := by
  refine Ct.of (ls0 := [_, _, _, _]) (by decide) rfl (Nat.le_of_ble_eq_true rfl) rfl ?_
  have hN : N (c 7 0) = n := by rw [hn]; exact N_nI (by omega)
  have hn2 : μ 7 0 = nI n := (hc 7 (by omega) (by omega) 0).trans hn
  have h9 : ∀ s, μ 9 s = c 9 s := fun s => hc 9 (by omega) (by omega) s
  have loop : ∀ (q i : Nat), 4 - i < q → i ≤ 4 → allB (opS c x) i = true → AW mX9_isOpen (1, none) P 2 [some (.ref 0), some (.int (nI x)), some (.int (nI i)), none] [] μ ν := by
    intro q
    induction q with
    | zero => intro i h; omega
    | succ q ih =>
      intro i hq hi ha
      have next : i < 4 → opS c x i = true → _ := fun h h2 => ih (i + 1) (by omega) (by omega) (by rw [allB, ha, h2]; rfl)
      refine A_iload_n dX9_isOpen_2 rfl ?_
      refine A_iconst (v := nI 4) dX9_isOpen_3 (by decide +kernel) ?_
      refine A_icmp_geN (tgt := 65) dX9_isOpen_4 (by decide) (by omega) (by omega) (fun b4 => ?_) (fun b4 => ?_)
      · refine A_iconst (v := nI 1) dX9_isOpen_65 (by decide +kernel) ?_
        refine A_iret dX9_isOpen_66 rfl (by decide +kernel) ?_
        exact h1 (by rw [show i = 4 by omega] at ha; exact ha)
      · refine A_iload_n dX9_isOpen_7 rfl ?_
        refine A_iload_n dX9_isOpen_8 rfl ?_
        refine A_callS2 dX9_isOpen_9 mlX9_233 (by decide) (Nat.le_of_ble_eq_true rfl) (c_changeIn hx b4 ?_)
        refine Kn.s ?_
        refine A_istore_n (ls1 := [_, _, _, _]) dX9_isOpen_12 (by decide) rfl rfl ?_
        refine A_aload_n dX9_isOpen_13 rfl ?_
        refine A_getR dX9_isOpen_14 flX9_12 rfl rfl ?_
        refine A_getR dX9_isOpen_17 flX9_74 rfl rfl ?_
        refine A_iload_n dX9_isOpen_20 rfl ?_
        refine A_callV1 dX9_isOpen_21 mlX9_83 (by decide) rfl rfl (Nat.le_of_ble_eq_true rfl) (c_hasS _ hn2 hn4 (fun g1 => ?_) (fun g1 => ?_))
        · refine Kn.s ?_
          refine A_if_eq (tgt := 53) dX9_isOpen_24 (by decide) (fun h => absurd h (by decide +kernel)) (fun _ => ?_)
          refine A_aload_n dX9_isOpen_27 rfl ?_
          refine A_getR dX9_isOpen_28 flX9_12 rfl rfl ?_
          refine A_getR dX9_isOpen_31 flX9_74 rfl rfl ?_
          refine A_getR dX9_isOpen_34 flX9_84 rfl rfl ?_
          refine A_iload_n dX9_isOpen_37 rfl ?_
          refine A_ialdN (j := i) dX9_isOpen_38 rfl rfl b4 (by decide) ?_
          rw [h9]
          refine A_iload_n dX9_isOpen_39 rfl ?_
          refine A_iadd dX9_isOpen_40 ?_
          refine A_iconst (v := nI 0) dX9_isOpen_41 (by decide +kernel) ?_
          refine A_bipush (v := nI 20) dX9_isOpen_42 (by decide +kernel) ?_
          refine A_callS3 dX9_isOpen_44 mlX9_52 (by decide) (Nat.le_of_ble_eq_true rfl) (c_within _ _ _ (fun g2 g3 => ?_) (fun g4 => ?_))
          · refine Kn.s ?_
            refine A_if_ne (tgt := 59) dX9_isOpen_47 (by decide) (fun _ => ?_) (fun h => absurd h (by decide +kernel))
            refine A_iincN (ls1 := [_, _, _, _]) dX9_isOpen_59 rfl (by decide) rfl rfl ?_
            refine A_goto (tgt := 2) dX9_isOpen_62 (by decide) ?_
            refine A_weak (next b4 ?_) (by repeat first | exact fw_0 | refine fw_s ?_ | refine fw_n ?_)
            obtain ⟨k, ek, hk⟩ := g1
            have ek2 := (nI_inj (by omega) (by omega)).mp ek
            unfold opS
            rw [if_pos (by omega)]
            exact decide_eq_true ⟨g2, g3⟩
          · refine Kn.s ?_
            refine A_if_ne (tgt := 59) dX9_isOpen_47 (by decide) (fun h => absurd h (by decide +kernel)) (fun _ => ?_)
            refine A_goto (tgt := 57) dX9_isOpen_50 (by decide) ?_
            refine A_iconst (v := nI 0) dX9_isOpen_57 (by decide +kernel) ?_
            refine A_iret dX9_isOpen_58 rfl (by decide +kernel) ?_
            refine h0 (allB_f b4 ?_)
            obtain ⟨k, ek, hk⟩ := g1
            have ek2 := (nI_inj (by omega) (by omega)).mp ek
            unfold opS
            rw [if_pos (by omega)]
            exact decide_eq_false g4
        · refine Kn.s ?_
          refine A_if_eq (tgt := 53) dX9_isOpen_24 (by decide) (fun _ => ?_) (fun h => absurd h (by decide +kernel))
          refine A_iload_n dX9_isOpen_53 rfl ?_
          refine A_if_eq (tgt := 59) dX9_isOpen_54 (by decide) (fun b54 => ?_) (fun b54 => ?_)
          · refine A_iincN (ls1 := [_, _, _, _]) dX9_isOpen_59 rfl (by decide) rfl rfl ?_
            refine A_goto (tgt := 2) dX9_isOpen_62 (by decide) ?_
            refine A_weak (next b4 ?_) (by repeat first | exact fw_0 | refine fw_s ?_ | refine fw_n ?_)
            unfold opS
            rw [if_neg (fun q => g1 ⟨i, rfl, by omega⟩)]
            exact decide_eq_true b54
          · refine A_iconst (v := nI 0) dX9_isOpen_57 (by decide +kernel) ?_
            refine A_iret dX9_isOpen_58 rfl (by decide +kernel) ?_
            refine h0 (allB_f b4 ?_)
            unfold opS
            rw [if_neg (fun q => g1 ⟨i, rfl, by omega⟩)]
            exact decide_eq_false b54
  refine A_iconst (v := nI 0) dX9_isOpen_0 (by decide +kernel) ?_
  refine A_istore_n (ls1 := [_, _, _, _]) dX9_isOpen_1 (by decide) rfl rfl ?_
  exact loop 5 0 (by omega) (by omega) rfl
/-- the twist of a way -/
def twC (x : Nat) : MI := fun k s => if k = 1 ∧ s < 4 then chF x s else 0
theorem cntB_mono (K : Nat → Bool) (n : Nat) : ∀ m, cntB K n ≤ cntB K (n + m) ∧ cntB K (n + m) ≤ cntB K n + m
  | 0 => ⟨Nat.le_refl _, Nat.le_refl _⟩
  | m + 1 => by
    have ih := cntB_mono K n m
    rw [← Nat.add_assoc, cntB]
    split <;> omega
def cnW (c : MI) (x b T : Nat) : Nat := cntB (fun t => kb c (twC x) b t) T
theorem c_knocksJust {x b n T : Nat} (hx : x < 625) (hn : n ≤ 200) (hT : T ≤ 200) {c μ : MI} {ν : ML} {P : Po} (hC : WC c) (hc : CX c μ) (hb : b < N (c 2 0)) (h1 : ∀ μ', cnW c x b T = n → Sc μ μ' → P (some (.int (nI 1))) μ' ν) (h0 : ∀ μ', ¬ cnW c x b T = n → Sc μ μ' → P (some (.int (nI 0))) μ' ν) : Ct mX9_knocksJust 5 [.ref 0, .int (nI x), .int (nI b), .int (nI n), .int (nI T)] μ ν P := by
  refine Ct.of (ls0 := [_, _, _, _, _, _, _]) (by decide) rfl (Nat.le_of_ble_eq_true rfl) rfl ?_
  have hnb := hC.1.1
  have fin : ∀ (i k : Nat) (μ1 : MI), (k = n ↔ cnW c x b T = n) → k ≤ 200 → Sc μ μ1 → AW mX9_knocksJust (5, none) P 99 [some (.ref 0), some (.int (nI x)), some (.int (nI b)), some (.int (nI n)), some (.int (nI T)), some (.int (nI k)), none] [] μ1 ν := by
    intro i k μ1 hk hk2 hS
    refine A_iload dX9_knocksJust_99 rfl ?_
    refine A_iload_n dX9_knocksJust_101 rfl ?_
    refine A_icmp_neN (tgt := 109) dX9_knocksJust_102 (by decide) (by omega) (by omega) (fun b102 => ?_) (fun b102 => ?_)
    · refine A_iconst (v := nI 0) dX9_knocksJust_109 (by decide +kernel) ?_
      refine A_iret dX9_knocksJust_110 rfl (by decide +kernel) ?_
      exact h0 μ1 (fun q => b102 (hk.mpr q)) hS
    · refine A_iconst (v := nI 1) dX9_knocksJust_105 (by decide +kernel) ?_
      refine A_goto (tgt := 110) dX9_knocksJust_106 (by decide) ?_
      refine A_iret dX9_knocksJust_110 rfl (by decide +kernel) ?_
      exact h1 μ1 (hk.mp b102) hS
  have loop : ∀ (q i : Nat) (μ1 : MI), T - i < q → i ≤ T → Sc μ μ1 → TW 24 (twC x) μ1 → RX 47 i (runP c (twC x) i) μ1 → AW mX9_knocksJust (5, none) P 52 [some (.ref 0), some (.int (nI x)), some (.int (nI b)), some (.int (nI n)), some (.int (nI T)), some (.int (nI (cnW c x b i))), some (.int (nI i))] [] μ1 ν := by
    intro q
    induction q with
    | zero => intro i μ1 h; omega
    | succ q ih =>
      intro i μ1 hq hi hS hT1 hR1
      have hle : cnW c x b i ≤ i := cntB_le _ _
      have hmo := cntB_mono (fun t => kb c (twC x) b t) i (T - i)
      rw [show i + (T - i) = T by omega] at hmo
      have hm1 : cnW c x b i ≤ cnW c x b T := hmo.1
      have hm2 : cnW c x b T ≤ cnW c x b i + (T - i) := hmo.2
      refine A_iload dX9_knocksJust_52 rfl ?_
      refine A_iload dX9_knocksJust_54 rfl ?_
      refine A_icmp_geN (tgt := 99) dX9_knocksJust_56 (by decide) (by omega) (by omega) (fun b56 => ?_) (fun b56 => ?_)
      · rw [show i = T by omega]
        exact A_weak (fin T _ μ1 Iff.rfl (by have : cnW c x b T ≤ T := cntB_le _ _; omega) hS) (by repeat first | exact fw_0 | refine fw_s ?_ | refine fw_n ?_)
      · refine A_iload dX9_knocksJust_59 rfl ?_
        refine A_iload_n dX9_knocksJust_61 rfl ?_
        refine A_icmp_gtN (tgt := 99) dX9_knocksJust_62 (by decide) (by omega) (by omega) (fun b62 => ?_) (fun b62 => ?_)
        · exact A_weak (fin i (cnW c x b i) μ1 ⟨fun q => by omega, fun q => by omega⟩ (by omega) hS) (by repeat first | exact fw_0 | refine fw_s ?_ | refine fw_n ?_)
        · refine A_iload dX9_knocksJust_65 rfl ?_
          refine A_iload dX9_knocksJust_67 rfl ?_
          refine A_iaddN dX9_knocksJust_69 ?_
          refine A_iload dX9_knocksJust_70 rfl ?_
          refine A_isub dX9_knocksJust_72 ?_
          rw [pk_sub (by omega)]
          refine A_iload_n dX9_knocksJust_73 rfl ?_
          refine A_icmp_ltN (tgt := 99) dX9_knocksJust_74 (by decide) (by omega) (by omega) (fun b74 => ?_) (fun b74 => ?_)
          · exact A_weak (fin i (cnW c x b i) μ1 ⟨fun q => by omega, fun q => by omega⟩ (by omega) hS) (by repeat first | exact fw_0 | refine fw_s ?_ | refine fw_n ?_)
          · refine A_iload dX9_knocksJust_77 rfl ?_
            refine A_aload_n dX9_knocksJust_79 rfl ?_
            refine A_getR dX9_knocksJust_80 flX9_32 rfl rfl ?_
            refine A_callV0 dX9_knocksJust_83 mlX9_163 (by decide) rfl rfl (Nat.le_of_ble_eq_true rfl) (c_stepC flow_47 (by omega) hC (hS.cx hc) hT1 hR1 (GC_run hC i) (fun μ2 hR2 hF2 => ?_))
            refine Kn.s ?_
            refine A_iload_n dX9_knocksJust_86 rfl ?_
            refine A_iushr dX9_knocksJust_87 ?_
            refine A_iconst (v := nI 1) dX9_knocksJust_88 (by decide +kernel) ?_
            refine A_iand dX9_knocksJust_89 ?_
            rw [ushr_bit _ hnb.2 (Nat.lt_of_lt_of_le hb hnb.2)]
            refine A_iaddN dX9_knocksJust_90 ?_
            refine A_istore (ls1 := [_, _, _, _, _, _, _]) dX9_knocksJust_91 (by decide) rfl rfl ?_
            refine A_iincN (ls1 := [_, _, _, _, _, _, _]) dX9_knocksJust_93 rfl (by decide) rfl rfl ?_
            refine A_goto (tgt := 52) dX9_knocksJust_96 (by decide) ?_
            have h9 := ih (i + 1) μ2 (by omega) (by omega) (hS.tr (Sc.fr hF2 (Or.inr (by omega)))) (hT1.fr (by omega) hF2) hR2
            have e : cnW c x b (i + 1) = cnW c x b i + (if b < N (c 2 0) ∧ setP c (twC x) i (runP c (twC x) i) b = true then 1 else 0) := by
              unfold cnW
              rw [cntB]
              congr 1
              unfold kb
              by_cases h : setP c (twC x) i (runP c (twC x) i) b = true
              · rw [if_pos h, if_pos ⟨hb, h⟩]
              · rw [if_neg h, if_neg (fun z => h z.2)]
            rw [e] at h9
            exact h9
  refine A_aload_n dX9_knocksJust_0 rfl ?_
  refine A_getR dX9_knocksJust_1 flX9_28 rfl rfl ?_
  refine A_iconst (v := nI 0) dX9_knocksJust_4 (by decide +kernel) ?_
  refine A_callV1 dX9_knocksJust_5 mlX9_177 (by decide) rfl rfl (Nat.le_of_ble_eq_true rfl) (c_reset _ (Or.inl rfl) (fun μ1 hT1 hF1 => ?_))
  refine Kn.v ?_
  refine A_iconst (v := nI 0) dX9_knocksJust_8 (by decide +kernel) ?_
  refine A_istore (ls1 := [_, _, _, _, _, _, _]) dX9_knocksJust_9 (by decide) rfl rfl ?_
  refine A_iload dX9_knocksJust_11 rfl ?_
  refine A_iconst (v := nI 4) dX9_knocksJust_13 (by decide +kernel) ?_
  refine A_icmp_ge (tgt := 39) dX9_knocksJust_14 (by decide) (fun h => absurd h (by decide +kernel)) (fun _ => ?_)
  refine A_aload_n dX9_knocksJust_17 rfl ?_
  refine A_getR dX9_knocksJust_18 flX9_28 rfl rfl ?_
  refine A_getR dX9_knocksJust_21 flX9_287 rfl rfl ?_
  refine A_iload dX9_knocksJust_24 rfl ?_
  refine A_iload_n dX9_knocksJust_26 rfl ?_
  refine A_iload dX9_knocksJust_27 rfl ?_
  refine A_callS2 dX9_knocksJust_29 mlX9_233 (by decide) (Nat.le_of_ble_eq_true rfl) (c_changeIn hx (by omega) ?_)
  refine Kn.s ?_
  refine A_iastN (j := 0) dX9_knocksJust_32 rfl rfl (by decide) (by decide) ?_
  refine A_iinc (y := nI 1) (ls1 := [_, _, _, _, _, _, _]) dX9_knocksJust_33 rfl (by decide +kernel) (by decide) rfl rfl ?_
  refine A_goto (tgt := 11) dX9_knocksJust_36 (by decide) ?_
  refine A_iload dX9_knocksJust_11 rfl ?_
  refine A_iconst (v := nI 4) dX9_knocksJust_13 (by decide +kernel) ?_
  refine A_icmp_ge (tgt := 39) dX9_knocksJust_14 (by decide) (fun h => absurd h (by decide +kernel)) (fun _ => ?_)
  refine A_aload_n dX9_knocksJust_17 rfl ?_
  refine A_getR dX9_knocksJust_18 flX9_28 rfl rfl ?_
  refine A_getR dX9_knocksJust_21 flX9_287 rfl rfl ?_
  refine A_iload dX9_knocksJust_24 rfl ?_
  refine A_iload_n dX9_knocksJust_26 rfl ?_
  refine A_iload dX9_knocksJust_27 rfl ?_
  refine A_callS2 dX9_knocksJust_29 mlX9_233 (by decide) (Nat.le_of_ble_eq_true rfl) (c_changeIn hx (by omega) ?_)
  refine Kn.s ?_
  refine A_iastN (j := 1) dX9_knocksJust_32 rfl rfl (by decide) (by decide) ?_
  refine A_iinc (y := nI 2) (ls1 := [_, _, _, _, _, _, _]) dX9_knocksJust_33 rfl (by decide +kernel) (by decide) rfl rfl ?_
  refine A_goto (tgt := 11) dX9_knocksJust_36 (by decide) ?_
  refine A_iload dX9_knocksJust_11 rfl ?_
  refine A_iconst (v := nI 4) dX9_knocksJust_13 (by decide +kernel) ?_
  refine A_icmp_ge (tgt := 39) dX9_knocksJust_14 (by decide) (fun h => absurd h (by decide +kernel)) (fun _ => ?_)
  refine A_aload_n dX9_knocksJust_17 rfl ?_
  refine A_getR dX9_knocksJust_18 flX9_28 rfl rfl ?_
  refine A_getR dX9_knocksJust_21 flX9_287 rfl rfl ?_
  refine A_iload dX9_knocksJust_24 rfl ?_
  refine A_iload_n dX9_knocksJust_26 rfl ?_
  refine A_iload dX9_knocksJust_27 rfl ?_
  refine A_callS2 dX9_knocksJust_29 mlX9_233 (by decide) (Nat.le_of_ble_eq_true rfl) (c_changeIn hx (by omega) ?_)
  refine Kn.s ?_
  refine A_iastN (j := 2) dX9_knocksJust_32 rfl rfl (by decide) (by decide) ?_
  refine A_iinc (y := nI 3) (ls1 := [_, _, _, _, _, _, _]) dX9_knocksJust_33 rfl (by decide +kernel) (by decide) rfl rfl ?_
  refine A_goto (tgt := 11) dX9_knocksJust_36 (by decide) ?_
  refine A_iload dX9_knocksJust_11 rfl ?_
  refine A_iconst (v := nI 4) dX9_knocksJust_13 (by decide +kernel) ?_
  refine A_icmp_ge (tgt := 39) dX9_knocksJust_14 (by decide) (fun h => absurd h (by decide +kernel)) (fun _ => ?_)
  refine A_aload_n dX9_knocksJust_17 rfl ?_
  refine A_getR dX9_knocksJust_18 flX9_28 rfl rfl ?_
  refine A_getR dX9_knocksJust_21 flX9_287 rfl rfl ?_
  refine A_iload dX9_knocksJust_24 rfl ?_
  refine A_iload_n dX9_knocksJust_26 rfl ?_
  refine A_iload dX9_knocksJust_27 rfl ?_
  refine A_callS2 dX9_knocksJust_29 mlX9_233 (by decide) (Nat.le_of_ble_eq_true rfl) (c_changeIn hx (by omega) ?_)
  refine Kn.s ?_
  refine A_iastN (j := 3) dX9_knocksJust_32 rfl rfl (by decide) (by decide) ?_
  refine A_iinc (y := nI 4) (ls1 := [_, _, _, _, _, _, _]) dX9_knocksJust_33 rfl (by decide +kernel) (by decide) rfl rfl ?_
  refine A_goto (tgt := 11) dX9_knocksJust_36 (by decide) ?_
  refine A_iload dX9_knocksJust_11 rfl ?_
  refine A_iconst (v := nI 4) dX9_knocksJust_13 (by decide +kernel) ?_
  refine A_icmp_ge (tgt := 39) dX9_knocksJust_14 (by decide) (fun _ => ?_) (fun h => absurd h (by decide +kernel))
  have hT2 : TW 24 (twC x) (up2 (up2 (up2 (up2 μ1 25 0 (chF x 0)) 25 1 (chF x 1)) 25 2 (chF x 2)) 25 3 (chF x 3)) := by
    refine ⟨?_, fun s hs => ⟨?_, ?_⟩, fun b hb => ⟨?_, ?_⟩⟩
    · simp (disch := omega) only [up2_a]; exact hT1.1
    · rcases (show s = 0 ∨ s = 1 ∨ s = 2 ∨ s = 3 by omega) with rfl | rfl | rfl | rfl <;> (simp (disch := omega) only [up2_b, up2_s]; rfl)
    · simp (disch := omega) only [up2_a]; exact (hT1.2.1 s hs).2
    · simp (disch := omega) only [up2_a]; exact (hT1.2.2 b hb).1
    · simp (disch := omega) only [up2_a]; exact (hT1.2.2 b hb).2
  have hF2 : Fr 24 5 μ (up2 (up2 (up2 (up2 μ1 25 0 (chF x 0)) 25 1 (chF x 1)) 25 2 (chF x 2)) 25 3 (chF x 3)) := (((hF1.tr (Fr.up (by omega) (by omega))).tr (Fr.up (by omega) (by omega))).tr (Fr.up (by omega) (by omega))).tr (Fr.up (by omega) (by omega))
  refine A_aload_n dX9_knocksJust_39 rfl ?_
  refine A_getR dX9_knocksJust_40 flX9_32 rfl rfl ?_
  refine A_callV0 dX9_knocksJust_43 mlX9_172 (by decide) rfl rfl (Nat.le_of_ble_eq_true rfl) (c_begin flow_47 (fun μ3 hR3 hF3 => ?_))
  refine Kn.v ?_
  refine A_iconst (v := nI 0) dX9_knocksJust_46 (by decide +kernel) ?_
  refine A_istore (ls1 := [_, _, _, _, _, _, _]) dX9_knocksJust_47 (by decide) rfl rfl ?_
  refine A_iconst (v := nI 0) dX9_knocksJust_49 (by decide +kernel) ?_
  refine A_istore (ls1 := [_, _, _, _, _, _, _]) dX9_knocksJust_50 (by decide) rfl rfl ?_
  exact loop (T + 1) 0 μ3 (by omega) (by omega) ((Sc.fr hF2 (Or.inl (by omega))).tr (Sc.fr hF3 (Or.inr (by omega)))) (hT2.fr (by omega) hF3) hR3
/-- a way that is open and makes the bucket knock just so often -/
def okWy (c : MI) (b n T x : Nat) : Bool := opW c x && decide (cnW c x b T = n)
/-- the least of them -/
def LeastW (c : MI) (b n T x : Nat) : Prop := x < 625 ∧ okWy c b n T x = true ∧ ∀ y, y < 625 → okWy c b n T y = true → szW x < szW y ∨ (szW x = szW y ∧ x ≤ y)
theorem c_leastWay {b n T : Nat} (hn : n ≤ 200) (hT : T ≤ 200) {c μ : MI} {ν : ML} {P : Po} (hC : WC c) (hc : CX c μ) (hb : b < N (c 2 0)) (h1 : ∀ x μ', LeastW c b n T x → Sc μ μ' → P (some (.int (nI x))) μ' ν) (h0 : ∀ μ', (∀ y, y < 625 → okWy c b n T y = false) → Sc μ μ' → P (some (.int (-1))) μ' ν) : Ct mX9_leastWay 6 [.ref 0, .int (nI b), .int (nI n), .int (nI T)] μ ν P := by
  refine Ct.of (ls0 := [_, _, _, _, _, _]) (by decide) rfl (Nat.le_of_ble_eq_true rfl) rfl ?_
  have hnb := hC.1.1
  have hns := hC.2.1.1
  have inner : ∀ (z : Nat), z ≤ 8 → (∀ μ1, Sc μ μ1 → (∀ y, y < 625 → szW y < z + 1 → okWy c b n T y = false) → AW mX9_leastWay (6, none) P 3 [some (.ref 0), some (.int (nI b)), some (.int (nI n)), some (.int (nI T)), some (.int (nI (z + 1))), none] [] μ1 ν) → ∀ (q i : Nat) (μ1 : MI), 625 - i < q → i ≤ 625 → Sc μ μ1 → (∀ y, y < 625 → szW y < z → okWy c b n T y = false) → (∀ y, y < i → szW y = z → okWy c b n T y = false) → AW mX9_leastWay (6, none) P 13 [some (.ref 0), some (.int (nI b)), some (.int (nI n)), some (.int (nI T)), some (.int (nI z)), some (.int (nI i))] [] μ1 ν := by
    intro z hz hex q
    induction q with
    | zero => intro i μ1 h; omega
    | succ q ih =>
      intro i μ1 hq hi hS hg hg2
      have next : ∀ μ2, i < 625 → Sc μ μ2 → (szW i = z → okWy c b n T i = false) → AW mX9_leastWay (6, none) P 13 [some (.ref 0), some (.int (nI b)), some (.int (nI n)), some (.int (nI T)), some (.int (nI z)), some (.int (nI (i + 1)))] [] μ2 ν := fun μ2 h h2 h3 => ih (i + 1) μ2 (by omega) (by omega) h2 hg (fun y hy hy2 => by
        by_cases e : y = i
        · subst e; exact h3 hy2
        · exact hg2 y (by omega) hy2)
      have hsz := szW_le i
      have hc1 := hS.cx hc
      refine A_iload dX9_leastWay_13 rfl ?_
      refine A_sipush (v := nI 625) dX9_leastWay_15 (by decide +kernel) ?_
      refine A_icmp_geN (tgt := 61) dX9_leastWay_18 (by decide) (by omega) (by omega) (fun b18 => ?_) (fun b18 => ?_)
      · refine A_iincN (ls1 := [_, _, _, _, _, _]) dX9_leastWay_61 rfl (by decide) rfl rfl ?_
        refine A_goto (tgt := 3) dX9_leastWay_64 (by decide) ?_
        refine A_weak (hex μ1 hS (fun y hy hy2 => ?_)) (by repeat first | exact fw_0 | refine fw_s ?_ | refine fw_n ?_)
        by_cases e : szW y = z
        · exact hg2 y (by omega) e
        · exact hg y hy (by omega)
      · refine A_iload dX9_leastWay_21 rfl ?_
        refine A_callS1 dX9_leastWay_23 mlX9_230 (by decide) (Nat.le_of_ble_eq_true rfl) (c_sizeOf b18 ?_)
        refine Kn.s ?_
        refine A_iload dX9_leastWay_26 rfl ?_
        refine A_icmp_neN (tgt := 55) dX9_leastWay_28 (by decide) (by omega) (by omega) (fun b28 => ?_) (fun b28 => ?_)
        · refine A_iincN (ls1 := [_, _, _, _, _, _]) dX9_leastWay_55 rfl (by decide) rfl rfl ?_
          refine A_goto (tgt := 13) dX9_leastWay_58 (by decide) ?_
          exact next μ1 b18 hS (fun q => absurd q b28)
        · refine A_aload_n dX9_leastWay_31 rfl ?_
          refine A_iload dX9_leastWay_32 rfl ?_
          refine A_callV1 dX9_leastWay_34 mlX9_280 (by decide) rfl rfl (Nat.le_of_ble_eq_true rfl) (c_isOpen b18 hc1 hns.1 hns.2 (fun g1 => ?_) (fun g1 => ?_))
          · refine Kn.s ?_
            refine A_if_eq (tgt := 55) dX9_leastWay_37 (by decide) (fun h => absurd h (by decide +kernel)) (fun _ => ?_)
            refine A_aload_n dX9_leastWay_40 rfl ?_
            refine A_iload dX9_leastWay_41 rfl ?_
            refine A_iload_n dX9_leastWay_43 rfl ?_
            refine A_iload_n dX9_leastWay_44 rfl ?_
            refine A_iload_n dX9_leastWay_45 rfl ?_
            refine A_callV4 dX9_leastWay_46 mlX9_283 (by decide) rfl rfl (Nat.le_of_ble_eq_true rfl) (c_knocksJust b18 hn hT hC hc1 hb (fun μ2 g2 g3 => ?_) (fun μ2 g2 g3 => ?_))
            · refine Kn.s ?_
              refine A_if_eq (tgt := 55) dX9_leastWay_49 (by decide) (fun h => absurd h (by decide +kernel)) (fun _ => ?_)
              refine A_iload dX9_leastWay_52 rfl ?_
              refine A_iret dX9_leastWay_54 rfl rfl ?_
              refine h1 i μ2 ⟨b18, by unfold okWy; rw [g1, decide_eq_true g2]; rfl, fun y hy hy2 => ?_⟩ (hS.tr g3)
              rcases Nat.lt_trichotomy (szW y) z with k | k | k
              · rw [hg y hy k] at hy2; cases hy2
              · rcases Nat.lt_or_ge y i with k2 | k2
                · rw [hg2 y k2 k] at hy2; cases hy2
                · exact Or.inr ⟨by omega, k2⟩
              · exact Or.inl (by omega)
            · refine Kn.s ?_
              refine A_if_eq (tgt := 55) dX9_leastWay_49 (by decide) (fun _ => ?_) (fun h => absurd h (by decide +kernel))
              refine A_iincN (ls1 := [_, _, _, _, _, _]) dX9_leastWay_55 rfl (by decide) rfl rfl ?_
              refine A_goto (tgt := 13) dX9_leastWay_58 (by decide) ?_
              exact next μ2 b18 (hS.tr g3) (fun _ => by unfold okWy; rw [decide_eq_false g2, Bool.and_false])
          · refine Kn.s ?_
            refine A_if_eq (tgt := 55) dX9_leastWay_37 (by decide) (fun _ => ?_) (fun h => absurd h (by decide +kernel))
            refine A_iincN (ls1 := [_, _, _, _, _, _]) dX9_leastWay_55 rfl (by decide) rfl rfl ?_
            refine A_goto (tgt := 13) dX9_leastWay_58 (by decide) ?_
            exact next μ1 b18 hS (fun _ => by unfold okWy; rw [g1, Bool.false_and])
  have loop : ∀ (q z : Nat) (μ1 : MI), 9 - z < q → z ≤ 9 → Sc μ μ1 → (∀ y, y < 625 → szW y < z → okWy c b n T y = false) → AW mX9_leastWay (6, none) P 3 [some (.ref 0), some (.int (nI b)), some (.int (nI n)), some (.int (nI T)), some (.int (nI z)), none] [] μ1 ν := by
    intro q
    induction q with
    | zero => intro z μ1 h; omega
    | succ q ih =>
      intro z μ1 hq hz hS hg
      refine A_iload dX9_leastWay_3 rfl ?_
      refine A_bipush (v := nI 8) dX9_leastWay_5 (by decide +kernel) ?_
      refine A_icmp_gtN (tgt := 67) dX9_leastWay_7 (by decide) (by omega) (by omega) (fun b7 => ?_) (fun b7 => ?_)
      · refine A_iconst (v := (-1)) dX9_leastWay_67 (by decide +kernel) ?_
        refine A_iret dX9_leastWay_68 rfl rfl ?_
        exact h0 μ1 (fun y hy => hg y hy (by have := szW_le y; omega)) hS
      · refine A_iconst (v := nI 0) dX9_leastWay_10 (by decide +kernel) ?_
        refine A_istore (ls1 := [_, _, _, _, _, _]) dX9_leastWay_11 (by decide) rfl rfl ?_
        exact inner z (by omega) (fun μ2 h1 h2 => ih (z + 1) μ2 (by omega) (by omega) h1 h2) 626 0 μ1 (by omega) (by omega) hS hg (fun y hy => by omega)
  refine A_iconst (v := nI 0) dX9_leastWay_0 (by decide +kernel) ?_
  refine A_istore (ls1 := [_, _, _, _, _, _]) dX9_leastWay_1 (by decide) rfl rfl ?_
  exact loop 10 0 μ (by omega) (by omega) (Sc.rf μ) (fun y hy h => by omega)
theorem nI_nm1 {x : Nat} (h : x < 2 ^ 31) : ¬ nI x = -1 := fun q => by
  have := congrArg Int32.toInt q
  rw [nI_toInt h, show (-1 : Int32).toInt = -1 by decide +kernel] at this
  omega
def meR (o : Option Nat) (s : Int32) : Int32 := match o with
  | none => if s = -1 then -1 else 0
  | some x => if s = -1 then nI (szW x) else chF x (N s)
theorem c_mended (b n T s : Int32) {m k : Nat} {c μ : MI} {ν : ML} {P : Po} (hC : WC c) (hc : CX c μ) (hm : c 2 0 = nI m) (hm8 : m ≤ 8) (hk : c 7 0 = nI k) (hk4 : k ≤ 4) (hu : ¬ (inR b m ∧ (s = -1 ∨ inR s k)) → P (some (.int (-1001))) μ ν) (ho : (inR b m ∧ (s = -1 ∨ inR s k)) → ¬ ((nI 0 ≤ n ∧ n ≤ nI 200) ∧ (nI 1 ≤ T ∧ T ≤ nI 200)) → P (some (.int (-1002))) μ ν)
    (h1 : ∀ b1 n1 T1 x μ', b = nI b1 → b1 < m → n = nI n1 → n1 ≤ 200 → T = nI T1 → 1 ≤ T1 → T1 ≤ 200 → (s = -1 ∨ inR s k) → LeastW c b1 n1 T1 x → Sc μ μ' → P (some (.int (meR (some x) s))) μ' ν) (h0 : ∀ b1 n1 T1 μ', b = nI b1 → b1 < m → n = nI n1 → n1 ≤ 200 → T = nI T1 → 1 ≤ T1 → T1 ≤ 200 → (s = -1 ∨ inR s k) → (∀ y, y < 625 → okWy c b1 n1 T1 y = false) → Sc μ μ' → P (some (.int (meR none s))) μ' ν) : Ct mX9_mended 7 [.ref 0, .int b, .int n, .int T, .int s] μ ν P := by
  refine Ct.of (ls0 := [_, _, _, _, _, _]) (by decide) rfl (Nat.le_of_ble_eq_true rfl) rfl ?_
  have hN : N (c 2 0) = m := by rw [hm]; exact N_nI (by omega)
  have hm2 : μ 2 0 = nI m := (hc 2 (by omega) (by omega) 0).trans hm
  have hk2 : μ 7 0 = nI k := (hc 7 (by omega) (by omega) 0).trans hk
  have main : inR b m → (s = -1 ∨ inR s k) → AW mX9_mended (7, none) P 39 [some (.ref 0), some (.int b), some (.int n), some (.int T), some (.int s), none] [] μ ν := by
    intro gb gs
    refine A_iload_n dX9_mended_39 rfl ?_
    refine A_iconst (v := nI 0) dX9_mended_40 (by decide +kernel) ?_
    refine A_sipush (v := nI 200) dX9_mended_41 (by decide +kernel) ?_
    refine A_callS3 dX9_mended_44 mlX9_52 (by decide) (Nat.le_of_ble_eq_true rfl) (c_within _ _ _ (fun g1 g2 => ?_) (fun g3 => ?_))
    · refine Kn.s ?_
      refine A_if_eq (tgt := 61) dX9_mended_47 (by decide) (fun h => absurd h (by decide +kernel)) (fun _ => ?_)
      refine A_iload_n dX9_mended_50 rfl ?_
      refine A_iconst (v := nI 1) dX9_mended_51 (by decide +kernel) ?_
      refine A_sipush (v := nI 200) dX9_mended_52 (by decide +kernel) ?_
      refine A_callS3 dX9_mended_55 mlX9_52 (by decide) (Nat.le_of_ble_eq_true rfl) (c_within _ _ _ (fun g4 g5 => ?_) (fun g6 => ?_))
      · refine Kn.s ?_
        refine A_if_ne (tgt := 65) dX9_mended_58 (by decide) (fun _ => ?_) (fun h => absurd h (by decide +kernel))
        obtain ⟨b1, hb, hb1⟩ := id gb
        obtain ⟨n1, hn1, en⟩ := nI_of2 (M := nI 200) (n := 200) rfl (i_le_n g1) g2
        obtain ⟨T1, hT1, eT⟩ := nI_of2 (M := nI 200) (n := 200) rfl (i_le_n (Int32.le_trans (show (0 : Int32) ≤ nI 1 by decide +kernel) g4)) g5
        have hT0 : 1 ≤ T1 := by rw [eT] at g4; exact (nI_leI (by omega) (by omega)).mp g4
        have h1' := fun x μ' => h1 b1 n1 T1 x μ' hb hb1 en hn1 eT hT0 hT1 gs
        have h0' := fun μ' => h0 b1 n1 T1 μ' hb hb1 en hn1 eT hT0 hT1 gs
        subst hb
        subst en
        subst eT
        clear h1 h0
        refine A_aload_n dX9_mended_65 rfl ?_
        refine A_iload_n dX9_mended_66 rfl ?_
        refine A_iload_n dX9_mended_67 rfl ?_
        refine A_iload_n dX9_mended_68 rfl ?_
        refine A_callV3 dX9_mended_69 mlX9_227 (by decide) rfl rfl (Nat.le_of_ble_eq_true rfl) (c_leastWay hn1 hT1 hC hc (by omega) (fun x μ2 g7 g8 => ?_) (fun μ2 g7 g8 => ?_))
        · refine Kn.s ?_
          refine A_istore (ls1 := [_, _, _, _, _, _]) dX9_mended_72 (by decide) rfl rfl ?_
          refine A_iload dX9_mended_74 rfl ?_
          refine A_iconst (v := (-1)) dX9_mended_76 (by decide +kernel) ?_
          refine A_icmp_ne (tgt := 96) dX9_mended_77 (by decide) (fun b77 => ?_) (fun b77 => ?_)
          · refine A_iload dX9_mended_96 rfl ?_
            refine A_iconst (v := (-1)) dX9_mended_98 (by decide +kernel) ?_
            refine A_icmp_ne (tgt := 106) dX9_mended_99 (by decide) (fun b99 => ?_) (fun b99 => absurd b99 (nI_nm1 (Nat.lt_trans g7.1 (by decide))))
            obtain ⟨s1, es, hs1⟩ := gs.elim (fun q => absurd q b77) id
            have h9 := h1' x μ2 g7 g8
            simp only [meR] at h9
            rw [if_neg b77] at h9
            subst es
            rw [N_nI (by omega)] at h9
            refine A_iload dX9_mended_106 rfl ?_
            refine A_iload dX9_mended_108 rfl ?_
            refine A_callS2 dX9_mended_110 mlX9_233 (by decide) (Nat.le_of_ble_eq_true rfl) (c_changeIn g7.1 (by omega) ?_)
            refine Kn.s ?_
            refine A_iret dX9_mended_113 rfl rfl ?_
            exact h9
          · refine A_iload dX9_mended_80 rfl ?_
            refine A_iconst (v := (-1)) dX9_mended_82 (by decide +kernel) ?_
            refine A_icmp_ne (tgt := 90) dX9_mended_83 (by decide) (fun b83 => ?_) (fun b83 => absurd b83 (nI_nm1 (Nat.lt_trans g7.1 (by decide))))
            refine A_iload dX9_mended_90 rfl ?_
            refine A_callS1 dX9_mended_92 mlX9_230 (by decide) (Nat.le_of_ble_eq_true rfl) (c_sizeOf g7.1 ?_)
            refine Kn.s ?_
            refine A_iret dX9_mended_95 rfl rfl ?_
            have h9 := h1' x μ2 g7 g8
            simp only [meR] at h9
            rw [if_pos b77] at h9
            exact h9
        · refine Kn.s ?_
          refine A_istore (ls1 := [_, _, _, _, _, _]) dX9_mended_72 (by decide) rfl rfl ?_
          refine A_iload dX9_mended_74 rfl ?_
          refine A_iconst (v := (-1)) dX9_mended_76 (by decide +kernel) ?_
          refine A_icmp_ne (tgt := 96) dX9_mended_77 (by decide) (fun b77 => ?_) (fun b77 => ?_)
          · refine A_iload dX9_mended_96 rfl ?_
            refine A_iconst (v := (-1)) dX9_mended_98 (by decide +kernel) ?_
            refine A_icmp_ne (tgt := 106) dX9_mended_99 (by decide) (fun h => absurd h (by decide +kernel)) (fun _ => ?_)
            refine A_iconst (v := nI 0) dX9_mended_102 (by decide +kernel) ?_
            refine A_goto (tgt := 113) dX9_mended_103 (by decide) ?_
            refine A_iret dX9_mended_113 rfl rfl ?_
            have h9 := h0' μ2 g7 g8
            simp only [meR] at h9
            rw [if_neg b77] at h9
            exact h9
          · refine A_iload dX9_mended_80 rfl ?_
            refine A_iconst (v := (-1)) dX9_mended_82 (by decide +kernel) ?_
            refine A_icmp_ne (tgt := 90) dX9_mended_83 (by decide) (fun h => absurd h (by decide +kernel)) (fun _ => ?_)
            refine A_iconst (v := (-1)) dX9_mended_86 (by decide +kernel) ?_
            refine A_goto (tgt := 95) dX9_mended_87 (by decide) ?_
            refine A_iret dX9_mended_95 rfl rfl ?_
            have h9 := h0' μ2 g7 g8
            simp only [meR] at h9
            rw [if_pos b77] at h9
            exact h9
      · refine Kn.s ?_
        refine A_if_ne (tgt := 65) dX9_mended_58 (by decide) (fun h => absurd h (by decide +kernel)) (fun _ => ?_)
        refine A_sipush (v := (-1002)) dX9_mended_61 (by decide +kernel) ?_
        refine A_iret dX9_mended_64 rfl rfl ?_
        exact ho ⟨gb, gs⟩ (fun q => g6 q.2)
    · refine Kn.s ?_
      refine A_if_eq (tgt := 61) dX9_mended_47 (by decide) (fun _ => ?_) (fun h => absurd h (by decide +kernel))
      refine A_sipush (v := (-1002)) dX9_mended_61 (by decide +kernel) ?_
      refine A_iret dX9_mended_64 rfl rfl ?_
      exact ho ⟨gb, gs⟩ (fun q => g3 q.1)
  refine A_aload_n dX9_mended_0 rfl ?_
  refine A_getR dX9_mended_1 flX9_12 rfl rfl ?_
  refine A_getR dX9_mended_4 flX9_56 rfl rfl ?_
  refine A_iload_n dX9_mended_7 rfl ?_
  refine A_callV1 dX9_mended_8 mlX9_66 (by decide) rfl rfl (Nat.le_of_ble_eq_true rfl) (c_has _ hm2 hm8 (fun g1 => ?_) (fun g1 => ?_))
  · refine Kn.s ?_
    refine A_if_eq (tgt := 35) dX9_mended_11 (by decide) (fun h => absurd h (by decide +kernel)) (fun _ => ?_)
    refine A_iload dX9_mended_14 rfl ?_
    refine A_iconst (v := (-1)) dX9_mended_16 (by decide +kernel) ?_
    refine A_icmp_eq (tgt := 39) dX9_mended_17 (by decide) (fun b17 => ?_) (fun b17 => ?_)
    · exact main g1 (Or.inl b17)
    · refine A_aload_n dX9_mended_20 rfl ?_
      refine A_getR dX9_mended_21 flX9_12 rfl rfl ?_
      refine A_getR dX9_mended_24 flX9_74 rfl rfl ?_
      refine A_iload dX9_mended_27 rfl ?_
      refine A_callV1 dX9_mended_29 mlX9_83 (by decide) rfl rfl (Nat.le_of_ble_eq_true rfl) (c_hasS _ hk2 hk4 (fun g2 => ?_) (fun g2 => ?_))
      · refine Kn.s ?_
        refine A_if_ne (tgt := 39) dX9_mended_32 (by decide) (fun _ => ?_) (fun h => absurd h (by decide +kernel))
        exact main g1 (Or.inr g2)
      · refine Kn.s ?_
        refine A_if_ne (tgt := 39) dX9_mended_32 (by decide) (fun h => absurd h (by decide +kernel)) (fun _ => ?_)
        refine A_sipush (v := (-1001)) dX9_mended_35 (by decide +kernel) ?_
        refine A_iret dX9_mended_38 rfl rfl ?_
        exact hu (fun q => q.2.elim b17 g2)
  · refine Kn.s ?_
    refine A_if_eq (tgt := 35) dX9_mended_11 (by decide) (fun _ => ?_) (fun h => absurd h (by decide +kernel))
    refine A_sipush (v := (-1001)) dX9_mended_35 (by decide +kernel) ?_
    refine A_iret dX9_mended_38 rfl rfl ?_
    exact hu (fun q => g1 q.1)
end
