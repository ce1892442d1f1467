-- ===== PART A: goes FIRST, ahead of the names: the tables' words, and 'selects' of the private methods out of them =====
/-- a private method of a class that the tables say can be made, by its rows of tables_1 -/
def lw_okq (q : MethodName × Nat) : Prop := (q.1.cls ≠ "java/lang/invoke/MethodHandle" ∧ q.1.cls ≠ "java/lang/invoke/VarHandle") ∧ Cond.instantiable q.1.cls q.2 ∈ tables_1 ∧ Cond.privateMethod q.1 ∈ tables_1 ∧ Cond.instanceMethod q.1 ∈ tables_1
theorem lw_p0 : lw_okq (⟨"TickGarden$Flow", "takeDrips", "()V"⟩, 11) := ⟨⟨by decide +kernel, by decide +kernel⟩, List.mem_of_getElem? (i := 156) (by decide +kernel), List.mem_of_getElem? (i := 381) (by decide +kernel), List.mem_of_getElem? (i := 382) (by decide +kernel)⟩
theorem lw_p1 : lw_okq (⟨"TickGarden$Flow", "isHeldBack", "(I)Z"⟩, 11) := ⟨⟨by decide +kernel, by decide +kernel⟩, List.mem_of_getElem? (i := 156) (by decide +kernel), List.mem_of_getElem? (i := 397) (by decide +kernel), List.mem_of_getElem? (i := 398) (by decide +kernel)⟩
theorem lw_p2 : lw_okq (⟨"TickGarden$Flow", "pour", "(II)V"⟩, 11) := ⟨⟨by decide +kernel, by decide +kernel⟩, List.mem_of_getElem? (i := 156) (by decide +kernel), List.mem_of_getElem? (i := 408) (by decide +kernel), List.mem_of_getElem? (i := 409) (by decide +kernel)⟩
theorem lw_p3 : lw_okq (⟨"TickGarden$Flow", "takeFromPipes", "()V"⟩, 11) := ⟨⟨by decide +kernel, by decide +kernel⟩, List.mem_of_getElem? (i := 156) (by decide +kernel), List.mem_of_getElem? (i := 412) (by decide +kernel), List.mem_of_getElem? (i := 413) (by decide +kernel)⟩
theorem lw_p4 : lw_okq (⟨"TickGarden$Flow", "dryUp", "()V"⟩, 11) := ⟨⟨by decide +kernel, by decide +kernel⟩, List.mem_of_getElem? (i := 156) (by decide +kernel), List.mem_of_getElem? (i := 417) (by decide +kernel), List.mem_of_getElem? (i := 418) (by decide +kernel)⟩
theorem lw_p5 : lw_okq (⟨"TickGarden$Flow", "tipAll", "()I"⟩, 11) := ⟨⟨by decide +kernel, by decide +kernel⟩, List.mem_of_getElem? (i := 156) (by decide +kernel), List.mem_of_getElem? (i := 421) (by decide +kernel), List.mem_of_getElem? (i := 422) (by decide +kernel)⟩
theorem lw_p6 : lw_okq (⟨"TickGarden$Flow", "tip", "(I)V"⟩, 11) := ⟨⟨by decide +kernel, by decide +kernel⟩, List.mem_of_getElem? (i := 156) (by decide +kernel), List.mem_of_getElem? (i := 425) (by decide +kernel), List.mem_of_getElem? (i := 426) (by decide +kernel)⟩
theorem lw_p7 : lw_okq (⟨"TickGarden", "roundLength", "()I"⟩, 7) := ⟨⟨by decide +kernel, by decide +kernel⟩, List.mem_of_getElem? (i := 17) (by decide +kernel), List.mem_of_getElem? (i := 457) (by decide +kernel), List.mem_of_getElem? (i := 458) (by decide +kernel)⟩
theorem lw_p8 : lw_okq (⟨"TickGarden", "runPlain", "(LTickGarden$Flow;I)V"⟩, 7) := ⟨⟨by decide +kernel, by decide +kernel⟩, List.mem_of_getElem? (i := 17) (by decide +kernel), List.mem_of_getElem? (i := 461) (by decide +kernel), List.mem_of_getElem? (i := 462) (by decide +kernel)⟩
theorem lw_p9 : lw_okq (⟨"TickGarden$Flow", "hasComing", "(ILTickGarden$Flow;)Z"⟩, 11) := ⟨⟨by decide +kernel, by decide +kernel⟩, List.mem_of_getElem? (i := 156) (by decide +kernel), List.mem_of_getElem? (i := 474) (by decide +kernel), List.mem_of_getElem? (i := 475) (by decide +kernel)⟩
theorem lw_p10 : lw_okq (⟨"TickGarden", "roundStart", "(I)I"⟩, 7) := ⟨⟨by decide +kernel, by decide +kernel⟩, List.mem_of_getElem? (i := 17) (by decide +kernel), List.mem_of_getElem? (i := 478) (by decide +kernel), List.mem_of_getElem? (i := 479) (by decide +kernel)⟩
theorem lw_p11 : lw_okq (⟨"TickGarden", "tryFaults", "(II)V"⟩, 7) := ⟨⟨by decide +kernel, by decide +kernel⟩, List.mem_of_getElem? (i := 17) (by decide +kernel), List.mem_of_getElem? (i := 538) (by decide +kernel), List.mem_of_getElem? (i := 539) (by decide +kernel)⟩
theorem lw_p12 : lw_okq (⟨"TickGarden", "trySingleFaults", "()V"⟩, 7) := ⟨⟨by decide +kernel, by decide +kernel⟩, List.mem_of_getElem? (i := 17) (by decide +kernel), List.mem_of_getElem? (i := 555) (by decide +kernel), List.mem_of_getElem? (i := 556) (by decide +kernel)⟩
theorem lw_p13 : lw_okq (⟨"TickGarden", "tryPairsOfFaults", "()V"⟩, 7) := ⟨⟨by decide +kernel, by decide +kernel⟩, List.mem_of_getElem? (i := 17) (by decide +kernel), List.mem_of_getElem? (i := 565) (by decide +kernel), List.mem_of_getElem? (i := 566) (by decide +kernel)⟩
theorem lw_p14 : lw_okq (⟨"TickGarden", "leastWay", "(III)I"⟩, 7) := ⟨⟨by decide +kernel, by decide +kernel⟩, List.mem_of_getElem? (i := 17) (by decide +kernel), List.mem_of_getElem? (i := 577) (by decide +kernel), List.mem_of_getElem? (i := 578) (by decide +kernel)⟩
theorem lw_p15 : lw_okq (⟨"TickGarden", "isOpen", "(I)Z"⟩, 7) := ⟨⟨by decide +kernel, by decide +kernel⟩, List.mem_of_getElem? (i := 17) (by decide +kernel), List.mem_of_getElem? (i := 587) (by decide +kernel), List.mem_of_getElem? (i := 588) (by decide +kernel)⟩
def lw_privs_1 : List (MethodName × Nat) := [(⟨"TickGarden$Flow", "takeDrips", "()V"⟩, 11), (⟨"TickGarden$Flow", "isHeldBack", "(I)Z"⟩, 11), (⟨"TickGarden$Flow", "pour", "(II)V"⟩, 11), (⟨"TickGarden$Flow", "takeFromPipes", "()V"⟩, 11), (⟨"TickGarden$Flow", "dryUp", "()V"⟩, 11), (⟨"TickGarden$Flow", "tipAll", "()I"⟩, 11), (⟨"TickGarden$Flow", "tip", "(I)V"⟩, 11), (⟨"TickGarden", "roundLength", "()I"⟩, 7), (⟨"TickGarden", "runPlain", "(LTickGarden$Flow;I)V"⟩, 7), (⟨"TickGarden$Flow", "hasComing", "(ILTickGarden$Flow;)Z"⟩, 11), (⟨"TickGarden", "roundStart", "(I)I"⟩, 7), (⟨"TickGarden", "tryFaults", "(II)V"⟩, 7), (⟨"TickGarden", "trySingleFaults", "()V"⟩, 7), (⟨"TickGarden", "tryPairsOfFaults", "()V"⟩, 7), (⟨"TickGarden", "leastWay", "(III)I"⟩, 7), (⟨"TickGarden", "isOpen", "(I)Z"⟩, 7)]
theorem lw_r1 : ∀ q ∈ lw_privs_1, lw_okq q := List.forall_mem_cons.mpr ⟨lw_p0, List.forall_mem_cons.mpr ⟨lw_p1, List.forall_mem_cons.mpr ⟨lw_p2, List.forall_mem_cons.mpr ⟨lw_p3, List.forall_mem_cons.mpr ⟨lw_p4, List.forall_mem_cons.mpr ⟨lw_p5, List.forall_mem_cons.mpr ⟨lw_p6, List.forall_mem_cons.mpr ⟨lw_p7, List.forall_mem_cons.mpr ⟨lw_p8, List.forall_mem_cons.mpr ⟨lw_p9, List.forall_mem_cons.mpr ⟨lw_p10, List.forall_mem_cons.mpr ⟨lw_p11, List.forall_mem_cons.mpr ⟨lw_p12, List.forall_mem_cons.mpr ⟨lw_p13, List.forall_mem_cons.mpr ⟨lw_p14, List.forall_mem_cons.mpr ⟨lw_p15, fun _ h => absurd h List.not_mem_nil⟩⟩⟩⟩⟩⟩⟩⟩⟩⟩⟩⟩⟩⟩⟩⟩
theorem lw_p16 : lw_okq (⟨"TickGarden", "knocksJust", "(IIII)Z"⟩, 7) := ⟨⟨by decide +kernel, by decide +kernel⟩, List.mem_of_getElem? (i := 17) (by decide +kernel), List.mem_of_getElem? (i := 591) (by decide +kernel), List.mem_of_getElem? (i := 592) (by decide +kernel)⟩
theorem lw_p17 : lw_okq (⟨"TickGardenModel", "noBucket", "(I)Z"⟩, 36) := ⟨⟨by decide +kernel, by decide +kernel⟩, List.mem_of_getElem? (i := 595) (by decide +kernel), List.mem_of_getElem? (i := 724) (by decide +kernel), List.mem_of_getElem? (i := 725) (by decide +kernel)⟩
theorem lw_p18 : lw_okq (⟨"TickGardenModel", "noSpout", "(I)Z"⟩, 36) := ⟨⟨by decide +kernel, by decide +kernel⟩, List.mem_of_getElem? (i := 595) (by decide +kernel), List.mem_of_getElem? (i := 737) (by decide +kernel), List.mem_of_getElem? (i := 738) (by decide +kernel)⟩
theorem lw_p19 : lw_okq (⟨"TickGardenModel", "onTheWay", "(I)I"⟩, 36) := ⟨⟨by decide +kernel, by decide +kernel⟩, List.mem_of_getElem? (i := 595) (by decide +kernel), List.mem_of_getElem? (i := 760) (by decide +kernel), List.mem_of_getElem? (i := 761) (by decide +kernel)⟩
theorem lw_p20 : lw_okq (⟨"TickGardenModel", "step", "(IIZ)I"⟩, 36) := ⟨⟨by decide +kernel, by decide +kernel⟩, List.mem_of_getElem? (i := 595) (by decide +kernel), List.mem_of_getElem? (i := 773) (by decide +kernel), List.mem_of_getElem? (i := 774) (by decide +kernel)⟩
theorem lw_p21 : lw_okq (⟨"TickGardenModel", "dripOf", "(IIIZ)I"⟩, 36) := ⟨⟨by decide +kernel, by decide +kernel⟩, List.mem_of_getElem? (i := 595) (by decide +kernel), List.mem_of_getElem? (i := 777) (by decide +kernel), List.mem_of_getElem? (i := 778) (by decide +kernel)⟩
theorem lw_p22 : lw_okq (⟨"TickGardenModel", "hasFrog", "(II)Z"⟩, 36) := ⟨⟨by decide +kernel, by decide +kernel⟩, List.mem_of_getElem? (i := 595) (by decide +kernel), List.mem_of_getElem? (i := 781) (by decide +kernel), List.mem_of_getElem? (i := 782) (by decide +kernel)⟩
theorem lw_p23 : lw_okq (⟨"TickGardenModel", "isFault", "(I)Z"⟩, 36) := ⟨⟨by decide +kernel, by decide +kernel⟩, List.mem_of_getElem? (i := 595) (by decide +kernel), List.mem_of_getElem? (i := 785) (by decide +kernel), List.mem_of_getElem? (i := 786) (by decide +kernel)⟩
theorem lw_p24 : lw_okq (⟨"TickGardenModel", "wetAt", "(I)I"⟩, 36) := ⟨⟨by decide +kernel, by decide +kernel⟩, List.mem_of_getElem? (i := 595) (by decide +kernel), List.mem_of_getElem? (i := 789) (by decide +kernel), List.mem_of_getElem? (i := 790) (by decide +kernel)⟩
theorem lw_p25 : lw_okq (⟨"TickGardenModel", "come", "(IIII)V"⟩, 36) := ⟨⟨by decide +kernel, by decide +kernel⟩, List.mem_of_getElem? (i := 595) (by decide +kernel), List.mem_of_getElem? (i := 793) (by decide +kernel), List.mem_of_getElem? (i := 794) (by decide +kernel)⟩
theorem lw_p26 : lw_okq (⟨"TickGardenModel", "knock", "(III)Z"⟩, 36) := ⟨⟨by decide +kernel, by decide +kernel⟩, List.mem_of_getElem? (i := 595) (by decide +kernel), List.mem_of_getElem? (i := 797) (by decide +kernel), List.mem_of_getElem? (i := 798) (by decide +kernel)⟩
theorem lw_p27 : lw_okq (⟨"TickGardenModel", "begin", "(I)V"⟩, 36) := ⟨⟨by decide +kernel, by decide +kernel⟩, List.mem_of_getElem? (i := 595) (by decide +kernel), List.mem_of_getElem? (i := 805) (by decide +kernel), List.mem_of_getElem? (i := 806) (by decide +kernel)⟩
theorem lw_p28 : lw_okq (⟨"TickGardenModel", "run", "(IZ)V"⟩, 36) := ⟨⟨by decide +kernel, by decide +kernel⟩, List.mem_of_getElem? (i := 595) (by decide +kernel), List.mem_of_getElem? (i := 814) (by decide +kernel), List.mem_of_getElem? (i := 815) (by decide +kernel)⟩
theorem lw_p29 : lw_okq (⟨"TickGardenModel", "keep", "(I)V"⟩, 36) := ⟨⟨by decide +kernel, by decide +kernel⟩, List.mem_of_getElem? (i := 595) (by decide +kernel), List.mem_of_getElem? (i := 822) (by decide +kernel), List.mem_of_getElem? (i := 823) (by decide +kernel)⟩
theorem lw_p30 : lw_okq (⟨"TickGardenModel", "goesInto", "(I)Z"⟩, 36) := ⟨⟨by decide +kernel, by decide +kernel⟩, List.mem_of_getElem? (i := 595) (by decide +kernel), List.mem_of_getElem? (i := 826) (by decide +kernel), List.mem_of_getElem? (i := 827) (by decide +kernel)⟩
theorem lw_p31 : lw_okq (⟨"TickGardenModel", "isLike", "(II)Z"⟩, 36) := ⟨⟨by decide +kernel, by decide +kernel⟩, List.mem_of_getElem? (i := 595) (by decide +kernel), List.mem_of_getElem? (i := 830) (by decide +kernel), List.mem_of_getElem? (i := 831) (by decide +kernel)⟩
def lw_privs_2 : List (MethodName × Nat) := [(⟨"TickGarden", "knocksJust", "(IIII)Z"⟩, 7), (⟨"TickGardenModel", "noBucket", "(I)Z"⟩, 36), (⟨"TickGardenModel", "noSpout", "(I)Z"⟩, 36), (⟨"TickGardenModel", "onTheWay", "(I)I"⟩, 36), (⟨"TickGardenModel", "step", "(IIZ)I"⟩, 36), (⟨"TickGardenModel", "dripOf", "(IIIZ)I"⟩, 36), (⟨"TickGardenModel", "hasFrog", "(II)Z"⟩, 36), (⟨"TickGardenModel", "isFault", "(I)Z"⟩, 36), (⟨"TickGardenModel", "wetAt", "(I)I"⟩, 36), (⟨"TickGardenModel", "come", "(IIII)V"⟩, 36), (⟨"TickGardenModel", "knock", "(III)Z"⟩, 36), (⟨"TickGardenModel", "begin", "(I)V"⟩, 36), (⟨"TickGardenModel", "run", "(IZ)V"⟩, 36), (⟨"TickGardenModel", "keep", "(I)V"⟩, 36), (⟨"TickGardenModel", "goesInto", "(I)Z"⟩, 36), (⟨"TickGardenModel", "isLike", "(II)Z"⟩, 36)]
theorem lw_r2 : ∀ q ∈ lw_privs_2, lw_okq q := List.forall_mem_cons.mpr ⟨lw_p16, List.forall_mem_cons.mpr ⟨lw_p17, List.forall_mem_cons.mpr ⟨lw_p18, List.forall_mem_cons.mpr ⟨lw_p19, List.forall_mem_cons.mpr ⟨lw_p20, List.forall_mem_cons.mpr ⟨lw_p21, List.forall_mem_cons.mpr ⟨lw_p22, List.forall_mem_cons.mpr ⟨lw_p23, List.forall_mem_cons.mpr ⟨lw_p24, List.forall_mem_cons.mpr ⟨lw_p25, List.forall_mem_cons.mpr ⟨lw_p26, List.forall_mem_cons.mpr ⟨lw_p27, List.forall_mem_cons.mpr ⟨lw_p28, List.forall_mem_cons.mpr ⟨lw_p29, List.forall_mem_cons.mpr ⟨lw_p30, List.forall_mem_cons.mpr ⟨lw_p31, fun _ h => absurd h List.not_mem_nil⟩⟩⟩⟩⟩⟩⟩⟩⟩⟩⟩⟩⟩⟩⟩⟩
theorem lw_p32 : lw_okq (⟨"TickGardenModel", "fits", "(II)Z"⟩, 36) := ⟨⟨by decide +kernel, by decide +kernel⟩, List.mem_of_getElem? (i := 595) (by decide +kernel), List.mem_of_getElem? (i := 870) (by decide +kernel), List.mem_of_getElem? (i := 871) (by decide +kernel)⟩
theorem lw_p33 : lw_okq (⟨"TickGardenModel", "isFaulty", "(I)Z"⟩, 36) := ⟨⟨by decide +kernel, by decide +kernel⟩, List.mem_of_getElem? (i := 595) (by decide +kernel), List.mem_of_getElem? (i := 874) (by decide +kernel), List.mem_of_getElem? (i := 875) (by decide +kernel)⟩
theorem lw_p34 : lw_okq (⟨"TickGardenModel", "findTurn", "(III)I"⟩, 36) := ⟨⟨by decide +kernel, by decide +kernel⟩, List.mem_of_getElem? (i := 595) (by decide +kernel), List.mem_of_getElem? (i := 882) (by decide +kernel), List.mem_of_getElem? (i := 883) (by decide +kernel)⟩
theorem lw_p35 : lw_okq (⟨"TickGardenModel", "knocksOf", "(II)I"⟩, 36) := ⟨⟨by decide +kernel, by decide +kernel⟩, List.mem_of_getElem? (i := 595) (by decide +kernel), List.mem_of_getElem? (i := 886) (by decide +kernel), List.mem_of_getElem? (i := 887) (by decide +kernel)⟩
def lw_privs_3 : List (MethodName × Nat) := [(⟨"TickGardenModel", "fits", "(II)Z"⟩, 36), (⟨"TickGardenModel", "isFaulty", "(I)Z"⟩, 36), (⟨"TickGardenModel", "findTurn", "(III)I"⟩, 36), (⟨"TickGardenModel", "knocksOf", "(II)I"⟩, 36)]
theorem lw_r3 : ∀ q ∈ lw_privs_3, lw_okq q := List.forall_mem_cons.mpr ⟨lw_p32, List.forall_mem_cons.mpr ⟨lw_p33, List.forall_mem_cons.mpr ⟨lw_p34, List.forall_mem_cons.mpr ⟨lw_p35, fun _ h => absurd h List.not_mem_nil⟩⟩⟩⟩
def lw_privs : List (MethodName × Nat) := lw_privs_1 ++ (lw_privs_2 ++ (lw_privs_3))
def lw_tbl : List Cond := k2_sels lw_privs ++ tables_1
theorem lw_privs_ok : ∀ q ∈ lw_privs, lw_okq q := by
  show ∀ q ∈ lw_privs_1 ++ (lw_privs_2 ++ (lw_privs_3)), lw_okq q
  exact List.forall_mem_append.mpr ⟨lw_r1, List.forall_mem_append.mpr ⟨lw_r2, lw_r3⟩⟩
/-- the tables' words that stay over every call -/
def lw_g : List Cond := lw_tbl.filter goodWord
theorem gI {w : Cond} (h : w ∈ lw_tbl) (hg : goodWord w = true) : w ∈ lw_g := List.mem_filter.mpr ⟨h, hg⟩
theorem gT {w : Cond} (h : w ∈ lw_g) : w ∈ lw_tbl := (List.mem_filter.mp h).1
theorem tI {w : Cond} (i : Nat) (h : tables_1[i]? = some w) (hg : goodWord w = true) : w ∈ lw_g := gI (List.mem_append_right _ (List.mem_of_getElem? h)) hg
theorem sI {w : Cond} (i : Nat) (h : (k2_sels lw_privs)[i]? = some w) (hg : goodWord w = true) : w ∈ lw_g := gI (List.mem_append_left _ (List.mem_of_getElem? h)) hg
theorem lw_good : ∀ w ∈ lw_g, (w.onTables && w.keeps) = true ∨ ∃ ty, w = .arrayClass ty := fun w h => good_of_word (List.mem_filter.mp h).2
def RX0 : String := "TickGarden$Blame"
def TX0 : u_T := fun k => match k with
  | 0 => ("TickGarden$Blame", "many", "I", false)
  | 1 => ("TickGarden$Blame", "first", "I", false)
  | _ => ("TickGarden$Blame", "second", "I", false)
def tyX0 : Nat → FieldType := fun k => match k with
  | 0 => .int
  | 1 => .int
  | _ => .int
theorem nmX0 : ∀ a, a < 3 → ∀ b, b < 3 → a ≠ b → (TX0 a).2.1 ≠ (TX0 b).2.1 := by decide +kernel
theorem tyX0_ok : ∀ k, k < 3 → parseFieldDescriptor (TX0 k).2.2.1 = some (tyX0 k) := by decide +kernel
abbrev wsX00 : List Cond := u_ws RX0 TX0 3
theorem tinX0 : ∀ w ∈ wsX00, w ∈ lw_tbl := by decide +kernel
theorem inX0 : ∀ w ∈ wsX00, w ∈ lw_g := fun w h => gI (tinX0 w h) (List.all_eq_true.mp (show wsX00.all goodWord = true by decide +kernel) w h)
def RX1 : String := "TickGarden$Buckets"
def TX1 : u_T := fun k => match k with
  | 0 => ("TickGarden$Buckets", "many", "I", false)
  | 1 => ("TickGarden$Buckets", "size", "[I", true)
  | 2 => ("TickGarden$Buckets", "rest", "[I", true)
  | 3 => ("TickGarden$Buckets", "leads", "[I", true)
  | _ => ("TickGarden$Buckets", "delay", "[I", true)
def tyX1 : Nat → FieldType := fun k => match k with
  | 0 => .int
  | 1 => .array .int
  | 2 => .array .int
  | 3 => .array .int
  | _ => .array .int
theorem nmX1 : ∀ a, a < 5 → ∀ b, b < 5 → a ≠ b → (TX1 a).2.1 ≠ (TX1 b).2.1 := by decide +kernel
theorem tyX1_ok : ∀ k, k < 5 → parseFieldDescriptor (TX1 k).2.2.1 = some (tyX1 k) := by decide +kernel
abbrev wsX10 : List Cond := u_ws RX1 TX1 5
theorem tinX1 : ∀ w ∈ wsX10, w ∈ lw_tbl := by decide +kernel
theorem inX1 : ∀ w ∈ wsX10, w ∈ lw_g := fun w h => gI (tinX1 w h) (List.all_eq_true.mp (show wsX10.all goodWord = true by decide +kernel) w h)
def RX2 : String := "TickGarden$Flow"
def TX2 : u_T := fun k => match k with
  | 0 => ("TickGarden$Flow", "plan", "LTickGarden$Plan;", true)
  | 1 => ("TickGarden$Flow", "twist", "LTickGarden$Twist;", true)
  | 2 => ("TickGarden$Flow", "now", "I", false)
  | 3 => ("TickGarden$Flow", "dripped", "I", false)
  | 4 => ("TickGarden$Flow", "brook", "I", false)
  | 5 => ("TickGarden$Flow", "lost", "I", false)
  | 6 => ("TickGarden$Flow", "holds", "[I", true)
  | 7 => ("TickGarden$Flow", "down", "[I", true)
  | 8 => ("TickGarden$Flow", "knocks", "[I", true)
  | 9 => ("TickGarden$Flow", "lastKnock", "[I", true)
  | _ => ("TickGarden$Flow", "coming", "[[I", true)
def tyX2 : Nat → FieldType := fun k => match k with
  | 0 => .object "TickGarden$Plan"
  | 1 => .object "TickGarden$Twist"
  | 2 => .int
  | 3 => .int
  | 4 => .int
  | 5 => .int
  | 6 => .array .int
  | 7 => .array .int
  | 8 => .array .int
  | 9 => .array .int
  | _ => .array (.array .int)
theorem nmX2 : ∀ a, a < 11 → ∀ b, b < 11 → a ≠ b → (TX2 a).2.1 ≠ (TX2 b).2.1 := by decide +kernel
theorem tyX2_ok : ∀ k, k < 11 → parseFieldDescriptor (TX2 k).2.2.1 = some (tyX2 k) := by decide +kernel
abbrev wsX20 : List Cond := u_ws RX2 TX2 11
theorem tinX2 : ∀ w ∈ wsX20, w ∈ lw_tbl := by decide +kernel
theorem inX2 : ∀ w ∈ wsX20, w ∈ lw_g := fun w h => gI (tinX2 w h) (List.all_eq_true.mp (show wsX20.all goodWord = true by decide +kernel) w h)
def RX3 : String := "TickGarden$Frogs"
def TX3 : u_T := fun k => match k with
  | 0 => ("TickGarden$Frogs", "many", "I", false)
  | 1 => ("TickGarden$Frogs", "seat", "[I", true)
  | 2 => ("TickGarden$Frogs", "from", "[I", true)
  | _ => ("TickGarden$Frogs", "to", "[I", true)
def tyX3 : Nat → FieldType := fun k => match k with
  | 0 => .int
  | 1 => .array .int
  | 2 => .array .int
  | _ => .array .int
theorem nmX3 : ∀ a, a < 4 → ∀ b, b < 4 → a ≠ b → (TX3 a).2.1 ≠ (TX3 b).2.1 := by decide +kernel
theorem tyX3_ok : ∀ k, k < 4 → parseFieldDescriptor (TX3 k).2.2.1 = some (tyX3 k) := by decide +kernel
abbrev wsX30 : List Cond := u_ws RX3 TX3 4
theorem tinX3 : ∀ w ∈ wsX30, w ∈ lw_tbl := by decide +kernel
theorem inX3 : ∀ w ∈ wsX30, w ∈ lw_g := fun w h => gI (tinX3 w h) (List.all_eq_true.mp (show wsX30.all goodWord = true by decide +kernel) w h)
def RX4 : String := "TickGarden$Heard"
def TX4 : u_T := fun k => match k with
  | 0 => ("TickGarden$Heard", "many", "I", false)
  | 1 => ("TickGarden$Heard", "known", "[Z", true)
  | _ => ("TickGarden$Heard", "rows", "[J", true)
def tyX4 : Nat → FieldType := fun k => match k with
  | 0 => .int
  | 1 => .array .boolean
  | _ => .array .long
theorem nmX4 : ∀ a, a < 3 → ∀ b, b < 3 → a ≠ b → (TX4 a).2.1 ≠ (TX4 b).2.1 := by decide +kernel
theorem tyX4_ok : ∀ k, k < 3 → parseFieldDescriptor (TX4 k).2.2.1 = some (tyX4 k) := by decide +kernel
abbrev wsX40 : List Cond := u_ws RX4 TX4 3
theorem tinX4 : ∀ w ∈ wsX40, w ∈ lw_tbl := by decide +kernel
theorem inX4 : ∀ w ∈ wsX40, w ∈ lw_g := fun w h => gI (tinX4 w h) (List.all_eq_true.mp (show wsX40.all goodWord = true by decide +kernel) w h)
def RX5 : String := "TickGarden$Plan"
def TX5 : u_T := fun k => match k with
  | 0 => ("TickGarden$Plan", "buckets", "LTickGarden$Buckets;", true)
  | 1 => ("TickGarden$Plan", "spouts", "LTickGarden$Spouts;", true)
  | 2 => ("TickGarden$Plan", "frogs", "LTickGarden$Frogs;", true)
  | 3 => ("TickGarden$Plan", "spells", "LTickGarden$Spells;", true)
  | _ => ("TickGarden$Plan", "dryness", "I", false)
def tyX5 : Nat → FieldType := fun k => match k with
  | 0 => .object "TickGarden$Buckets"
  | 1 => .object "TickGarden$Spouts"
  | 2 => .object "TickGarden$Frogs"
  | 3 => .object "TickGarden$Spells"
  | _ => .int
theorem nmX5 : ∀ a, a < 5 → ∀ b, b < 5 → a ≠ b → (TX5 a).2.1 ≠ (TX5 b).2.1 := by decide +kernel
theorem tyX5_ok : ∀ k, k < 5 → parseFieldDescriptor (TX5 k).2.2.1 = some (tyX5 k) := by decide +kernel
abbrev wsX50 : List Cond := u_ws RX5 TX5 5
theorem tinX5 : ∀ w ∈ wsX50, w ∈ lw_tbl := by decide +kernel
theorem inX5 : ∀ w ∈ wsX50, w ∈ lw_g := fun w h => gI (tinX5 w h) (List.all_eq_true.mp (show wsX50.all goodWord = true by decide +kernel) w h)
def RX6 : String := "TickGarden$Spells"
def TX6 : u_T := fun k => match k with
  | 0 => ("TickGarden$Spells", "many", "I", false)
  | 1 => ("TickGarden$Spells", "from", "[I", true)
  | _ => ("TickGarden$Spells", "wet", "[I", true)
def tyX6 : Nat → FieldType := fun k => match k with
  | 0 => .int
  | 1 => .array .int
  | _ => .array .int
theorem nmX6 : ∀ a, a < 3 → ∀ b, b < 3 → a ≠ b → (TX6 a).2.1 ≠ (TX6 b).2.1 := by decide +kernel
theorem tyX6_ok : ∀ k, k < 3 → parseFieldDescriptor (TX6 k).2.2.1 = some (tyX6 k) := by decide +kernel
abbrev wsX60 : List Cond := u_ws RX6 TX6 3
theorem tinX6 : ∀ w ∈ wsX60, w ∈ lw_tbl := by decide +kernel
theorem inX6 : ∀ w ∈ wsX60, w ∈ lw_g := fun w h => gI (tinX6 w h) (List.all_eq_true.mp (show wsX60.all goodWord = true by decide +kernel) w h)
def RX7 : String := "TickGarden$Spouts"
def TX7 : u_T := fun k => match k with
  | 0 => ("TickGarden$Spouts", "many", "I", false)
  | 1 => ("TickGarden$Spouts", "leads", "[I", true)
  | 2 => ("TickGarden$Spouts", "drop", "[I", true)
  | 3 => ("TickGarden$Spouts", "every", "[I", true)
  | _ => ("TickGarden$Spouts", "first", "[I", true)
def tyX7 : Nat → FieldType := fun k => match k with
  | 0 => .int
  | 1 => .array .int
  | 2 => .array .int
  | 3 => .array .int
  | _ => .array .int
theorem nmX7 : ∀ a, a < 5 → ∀ b, b < 5 → a ≠ b → (TX7 a).2.1 ≠ (TX7 b).2.1 := by decide +kernel
theorem tyX7_ok : ∀ k, k < 5 → parseFieldDescriptor (TX7 k).2.2.1 = some (tyX7 k) := by decide +kernel
abbrev wsX70 : List Cond := u_ws RX7 TX7 5
theorem tinX7 : ∀ w ∈ wsX70, w ∈ lw_tbl := by decide +kernel
theorem inX7 : ∀ w ∈ wsX70, w ∈ lw_g := fun w h => gI (tinX7 w h) (List.all_eq_true.mp (show wsX70.all goodWord = true by decide +kernel) w h)
def RX8 : String := "TickGarden$Twist"
def TX8 : u_T := fun k => match k with
  | 0 => ("TickGarden$Twist", "plain", "Z", false)
  | 1 => ("TickGarden$Twist", "change", "[I", true)
  | 2 => ("TickGarden$Twist", "stopped", "[Z", true)
  | 3 => ("TickGarden$Twist", "mute", "[Z", true)
  | _ => ("TickGarden$Twist", "cut", "[Z", true)
def tyX8 : Nat → FieldType := fun k => match k with
  | 0 => .boolean
  | 1 => .array .int
  | 2 => .array .boolean
  | 3 => .array .boolean
  | _ => .array .boolean
theorem nmX8 : ∀ a, a < 5 → ∀ b, b < 5 → a ≠ b → (TX8 a).2.1 ≠ (TX8 b).2.1 := by decide +kernel
theorem tyX8_ok : ∀ k, k < 5 → parseFieldDescriptor (TX8 k).2.2.1 = some (tyX8 k) := by decide +kernel
abbrev wsX80 : List Cond := u_ws RX8 TX8 5
theorem tinX8 : ∀ w ∈ wsX80, w ∈ lw_tbl := by decide +kernel
theorem inX8 : ∀ w ∈ wsX80, w ∈ lw_g := fun w h => gI (tinX8 w h) (List.all_eq_true.mp (show wsX80.all goodWord = true by decide +kernel) w h)
def RX9 : String := "TickGarden"
def TX9 : u_T := fun k => match k with
  | 0 => ("TickGarden", "plan", "LTickGarden$Plan;", true)
  | 1 => ("TickGarden", "live", "LTickGarden$Flow;", true)
  | 2 => ("TickGarden", "twist", "LTickGarden$Twist;", true)
  | 3 => ("TickGarden", "trial", "LTickGarden$Flow;", true)
  | 4 => ("TickGarden", "later", "LTickGarden$Flow;", true)
  | 5 => ("TickGarden", "heard", "LTickGarden$Heard;", true)
  | _ => ("TickGarden", "blame", "LTickGarden$Blame;", true)
def tyX9 : Nat → FieldType := fun k => match k with
  | 0 => .object "TickGarden$Plan"
  | 1 => .object "TickGarden$Flow"
  | 2 => .object "TickGarden$Twist"
  | 3 => .object "TickGarden$Flow"
  | 4 => .object "TickGarden$Flow"
  | 5 => .object "TickGarden$Heard"
  | _ => .object "TickGarden$Blame"
theorem nmX9 : ∀ a, a < 7 → ∀ b, b < 7 → a ≠ b → (TX9 a).2.1 ≠ (TX9 b).2.1 := by decide +kernel
theorem tyX9_ok : ∀ k, k < 7 → parseFieldDescriptor (TX9 k).2.2.1 = some (tyX9 k) := by decide +kernel
abbrev wsX90 : List Cond := u_ws RX9 TX9 7
theorem tinX9 : ∀ w ∈ wsX90, w ∈ lw_tbl := by decide +kernel
theorem inX9 : ∀ w ∈ wsX90, w ∈ lw_g := fun w h => gI (tinX9 w h) (List.all_eq_true.mp (show wsX90.all goodWord = true by decide +kernel) w h)
def RX10 : String := "TickGardenModel"
def TX10 : u_T := fun k => match k with
  | 0 => ("TickGardenModel", "buckets", "I", false)
  | 1 => ("TickGardenModel", "size", "[I", true)
  | 2 => ("TickGardenModel", "rest", "[I", true)
  | 3 => ("TickGardenModel", "leadsTo", "[I", true)
  | 4 => ("TickGardenModel", "delay", "[I", true)
  | 5 => ("TickGardenModel", "spouts", "I", false)
  | 6 => ("TickGardenModel", "spoutTo", "[I", true)
  | 7 => ("TickGardenModel", "drop", "[I", true)
  | 8 => ("TickGardenModel", "every", "[I", true)
  | 9 => ("TickGardenModel", "first", "[I", true)
  | 10 => ("TickGardenModel", "frogs", "I", false)
  | 11 => ("TickGardenModel", "frogOn", "[I", true)
  | 12 => ("TickGardenModel", "frogFrom", "[I", true)
  | 13 => ("TickGardenModel", "frogUntil", "[I", true)
  | 14 => ("TickGardenModel", "spells", "I", false)
  | 15 => ("TickGardenModel", "spellFrom", "[I", true)
  | 16 => ("TickGardenModel", "spellWet", "[I", true)
  | 17 => ("TickGardenModel", "dry", "I", false)
  | 18 => ("TickGardenModel", "level", "[I", true)
  | 19 => ("TickGardenModel", "until", "[I", true)
  | 20 => ("TickGardenModel", "coming", "[I", true)
  | 21 => ("TickGardenModel", "now", "I", false)
  | 22 => ("TickGardenModel", "knocks", "I", false)
  | 23 => ("TickGardenModel", "fromSpouts", "I", false)
  | 24 => ("TickGardenModel", "inBrook", "I", false)
  | 25 => ("TickGardenModel", "dried", "I", false)
  | 26 => ("TickGardenModel", "knocked", "[I", true)
  | 27 => ("TickGardenModel", "lastKnock", "[I", true)
  | 28 => ("TickGardenModel", "faultOne", "I", false)
  | 29 => ("TickGardenModel", "faultTwo", "I", false)
  | 30 => ("TickGardenModel", "change", "[I", true)
  | 31 => ("TickGardenModel", "rows", "[J", true)
  | 32 => ("TickGardenModel", "states", "[I", true)
  | 33 => ("TickGardenModel", "isHeard", "[Z", true)
  | 34 => ("TickGardenModel", "heardRow", "[J", true)
  | _ => ("TickGardenModel", "best", "[I", true)
def tyX10 : Nat → FieldType := fun k => match k with
  | 0 => .int
  | 1 => .array .int
  | 2 => .array .int
  | 3 => .array .int
  | 4 => .array .int
  | 5 => .int
  | 6 => .array .int
  | 7 => .array .int
  | 8 => .array .int
  | 9 => .array .int
  | 10 => .int
  | 11 => .array .int
  | 12 => .array .int
  | 13 => .array .int
  | 14 => .int
  | 15 => .array .int
  | 16 => .array .int
  | 17 => .int
  | 18 => .array .int
  | 19 => .array .int
  | 20 => .array .int
  | 21 => .int
  | 22 => .int
  | 23 => .int
  | 24 => .int
  | 25 => .int
  | 26 => .array .int
  | 27 => .array .int
  | 28 => .int
  | 29 => .int
  | 30 => .array .int
  | 31 => .array .long
  | 32 => .array .int
  | 33 => .array .boolean
  | 34 => .array .long
  | _ => .array .int
theorem nmX10 : ∀ a, a < 36 → ∀ b, b < 36 → a ≠ b → (TX10 a).2.1 ≠ (TX10 b).2.1 := by decide +kernel
theorem tyX10_ok : ∀ k, k < 36 → parseFieldDescriptor (TX10 k).2.2.1 = some (tyX10 k) := by decide +kernel
abbrev wsX100 : List Cond := u_ws RX10 TX10 36
theorem tinX10 : ∀ w ∈ wsX100, w ∈ lw_tbl := by decide +kernel
theorem inX10 : ∀ w ∈ wsX100, w ∈ lw_g := fun w h => gI (tinX10 w h) (List.all_eq_true.mp (show wsX100.all goodWord = true by decide +kernel) w h)
def RJ6 : String := "java/lang/Integer"
def RJ13 : String := "java/lang/Long"
def RJ9 : String := "java/lang/Math"
def RJ7 : String := "java/util/Arrays"
def RL : String := "TickGardenLaw"
abbrev vwCl : List vw_C := [(RX0, TX0, 3), (RX1, TX1, 5), (RX2, TX2, 11), (RX3, TX3, 4), (RX4, TX4, 3), (RX5, TX5, 5), (RX6, TX6, 3), (RX7, TX7, 5), (RX8, TX8, 5), (RX9, TX9, 7), (RX10, TX10, 36)]
abbrev MInfo : Type := String × ByteArray × Nat × Option FieldType × MethodName
abbrev mOwn (M : MInfo) : String := M.1
abbrev mCode (M : MInfo) : ByteArray := M.2.1
abbrev mLoc (M : MInfo) : Nat := M.2.2.1
abbrev mRet (M : MInfo) : Option FieldType := M.2.2.2.1
abbrev mName (M : MInfo) : MethodName := M.2.2.2.2
/-- the instruction of a method at a place, with its length -/
abbrev DC (M : MInfo) (pc : Nat) (i : Instr) (n : Nat) : Prop := decode (mCode M) pc = .ok (i, n)
def FL (own : String) (idx ci k : Nat) : Prop := ∃ (C : String) (T : u_T) (N : Nat), vwCl[ci]? = some (C, T, N) ∧ k < N ∧ Cond.fieldLink own idx C (T k).2.1 (T k).2.2.1 ∈ lw_g ∧ (T k).1 = C ∧ (∀ w ∈ u_ws C T N, w ∈ lw_g)
def FP (own : String) (idx ci k : Nat) (ty : FieldType) : Prop := ∃ (C : String) (T : u_T) (N : Nat) (ty0 : Nat → FieldType), vwCl[ci]? = some (C, T, N) ∧ k < N ∧ Cond.fieldLink own idx C (T k).2.1 (T k).2.2.1 ∈ lw_g ∧ (T k).1 = C ∧ (∀ w ∈ u_ws C T N, w ∈ lw_g) ∧ (∀ k, k < N → parseFieldDescriptor (T k).2.2.1 = some (ty0 k)) ∧ (∀ a, a < N → ∀ b, b < N → a ≠ b → (T a).2.1 ≠ (T b).2.1) ∧ (T k).2.2.2 = false ∧ parseFieldDescriptor (T k).2.2.1 = some ty
/-- what the words say of a method that is called: its code is there, its class stands, its arguments are n -/
def MW (M : MInfo) (n : Nat) : Prop := Cond.initialized (mName M).cls ∈ lw_g ∧ Cond.code (mName M) (mCode M) (mLoc M) (mRet M) ∈ lw_g ∧ ((mName M).cls ≠ "java/lang/invoke/MethodHandle" ∧ (mName M).cls ≠ "java/lang/invoke/VarHandle") ∧ (parseMethodDescriptor (mName M).desc).map (fun d => d.parameters.length) = some n ∧ mLoc M ≤ 17
def VL (own : String) (idx : Nat) (C : String) (M : MInfo) (n : Nat) : Prop := MW M n ∧ Cond.methodLink own idx (mName M) ∈ lw_g ∧ Cond.instanceMethod (mName M) ∈ lw_g ∧ Cond.selects C (mName M) (mName M) ∈ lw_g
def SL (own : String) (idx : Nat) (M : MInfo) (n : Nat) : Prop := MW M n ∧ Cond.methodLink own idx (mName M) ∈ lw_g ∧ Cond.static (mName M) ∈ lw_g
def nestL : List (String × Nat × MethodName × String) := [("TickGarden$Flow", 172, ⟨"TickGarden", "sum", "([I)I"⟩, "TickGarden"), ("TickGarden$Spells", 22, ⟨"TickGarden", "within", "(III)Z"⟩, "TickGarden"), ("TickGarden$Spouts", 28, ⟨"TickGarden", "goesInto", "(II)Z"⟩, "TickGarden"), ("TickGarden$Flow", 67, ⟨"TickGarden", "goesInto", "(II)Z"⟩, "TickGarden"), ("TickGarden$Plan", 47, ⟨"TickGarden", "goesInto", "(II)Z"⟩, "TickGarden"), ("TickGarden$Twist", 29, ⟨"TickGarden", "within", "(III)Z"⟩, "TickGarden")]
/-- the nest mates' words: they stay too, but by another road -/
def NW (U : State) : Prop := ∀ q ∈ nestL, va_Nw (.methodLinkNest q.1 q.2.1 q.2.2.1 q.2.2.2) U
theorem NW.warm {s U : State} (hW : s.WarmedH U.vm) (h : NW s) : NW U := fun q hq => va_Nw.warmM hW (h q hq)
theorem NW.same {s U : State} (hv : s.vm = U.vm) (h : NW s) : NW U := fun q hq => va_Nw.same rfl hv (h q hq)
def SN (own : String) (idx : Nat) (host : String) (M : MInfo) (n : Nat) : Prop := MW M n ∧ (own, idx, mName M, host) ∈ nestL ∧ Cond.static (mName M) ∈ lw_g
def KI (own : String) (idx : Nat) (v : Int32) : Prop := Cond.constant own idx v ∈ lw_g
def KL (own : String) (idx : Nat) (v : Int64) : Prop := Cond.constantLong own idx v ∈ lw_g
def mX0_init : MInfo := (RX0, prog_2_method_1_code, 1, none, ⟨RX0, "<init>", "()V"⟩)
def mX0_forget : MInfo := (RX0, prog_2_method_2_code, 1, none, ⟨RX0, "forget", "()V"⟩)
def mX0_add : MInfo := (RX0, prog_2_method_3_code, 3, none, ⟨RX0, "add", "(II)V"⟩)
def mX0_faultsInEach : MInfo := (RX0, prog_2_method_4_code, 1, (some .int), ⟨RX0, "faultsInEach", "()I"⟩)
def mX1_init : MInfo := (RX1, prog_3_method_1_code, 1, none, ⟨RX1, "<init>", "()V"⟩)
def mX1_has : MInfo := (RX1, prog_3_method_2_code, 2, (some .boolean), ⟨RX1, "has", "(I)Z"⟩)
def mX1_add : MInfo := (RX1, prog_3_method_3_code, 3, (some .int), ⟨RX1, "add", "(II)I"⟩)
def mX1_lead : MInfo := (RX1, prog_3_method_4_code, 4, none, ⟨RX1, "lead", "(III)V"⟩)
def mX2_init : MInfo := (RX2, prog_4_method_1_code, 3, none, ⟨RX2, "<init>", "(LTickGarden$Plan;LTickGarden$Twist;)V"⟩)
def mX2_begin : MInfo := (RX2, prog_4_method_2_code, 2, none, ⟨RX2, "begin", "()V"⟩)
def mX2_step : MInfo := (RX2, prog_4_method_3_code, 2, (some .int), ⟨RX2, "step", "()I"⟩)
def mX2_takeDrips : MInfo := (RX2, prog_4_method_4_code, 4, none, ⟨RX2, "takeDrips", "()V"⟩)
def mX2_isHeldBack : MInfo := (RX2, prog_4_method_5_code, 2, (some .boolean), ⟨RX2, "isHeldBack", "(I)Z"⟩)
def mX2_takeFromPipes : MInfo := (RX2, prog_4_method_6_code, 3, none, ⟨RX2, "takeFromPipes", "()V"⟩)
def mX2_pour : MInfo := (RX2, prog_4_method_7_code, 3, none, ⟨RX2, "pour", "(II)V"⟩)
def mX2_dryUp : MInfo := (RX2, prog_4_method_8_code, 2, none, ⟨RX2, "dryUp", "()V"⟩)
def mX2_tipAll : MInfo := (RX2, prog_4_method_9_code, 3, (some .int), ⟨RX2, "tipAll", "()I"⟩)
def mX2_tip : MInfo := (RX2, prog_4_method_10_code, 3, none, ⟨RX2, "tip", "(I)V"⟩)
def mX2_inPipes : MInfo := (RX2, prog_4_method_11_code, 3, (some .int), ⟨RX2, "inPipes", "()I"⟩)
def mX2_isLike : MInfo := (RX2, prog_4_method_12_code, 3, (some .boolean), ⟨RX2, "isLike", "(LTickGarden$Flow;)Z"⟩)
def mX2_hasComing : MInfo := (RX2, prog_4_method_13_code, 4, (some .boolean), ⟨RX2, "hasComing", "(ILTickGarden$Flow;)Z"⟩)
def mX3_init : MInfo := (RX3, prog_5_method_1_code, 1, none, ⟨RX3, "<init>", "()V"⟩)
def mX3_add : MInfo := (RX3, prog_5_method_2_code, 4, (some .int), ⟨RX3, "add", "(III)I"⟩)
def mX3_sitOn : MInfo := (RX3, prog_5_method_3_code, 4, (some .boolean), ⟨RX3, "sitOn", "(II)Z"⟩)
def mX4_init : MInfo := (RX4, prog_6_method_1_code, 1, none, ⟨RX4, "<init>", "()V"⟩)
def mX4_note : MInfo := (RX4, prog_6_method_2_code, 4, (some .int), ⟨RX4, "note", "(IJ)I"⟩)
def mX4_forget : MInfo := (RX4, prog_6_method_3_code, 2, none, ⟨RX4, "forget", "()V"⟩)
def mX4_agrees : MInfo := (RX4, prog_6_method_4_code, 4, (some .boolean), ⟨RX4, "agrees", "(II)Z"⟩)
def mX5_init : MInfo := (RX5, prog_7_method_1_code, 1, none, ⟨RX5, "<init>", "()V"⟩)
def mX5_isBeat : MInfo := (RX5, prog_7_method_2_code, 3, (some .boolean), ⟨RX5, "isBeat", "(I)Z"⟩)
def mX5_canFail : MInfo := (RX5, prog_7_method_3_code, 2, (some .boolean), ⟨RX5, "canFail", "(I)Z"⟩)
def mX6_init : MInfo := (RX6, prog_8_method_1_code, 1, none, ⟨RX6, "<init>", "()V"⟩)
def mX6_add : MInfo := (RX6, prog_8_method_2_code, 3, (some .int), ⟨RX6, "add", "(II)I"⟩)
def mX6_wetAt : MInfo := (RX6, prog_8_method_3_code, 5, (some .int), ⟨RX6, "wetAt", "(I)I"⟩)
def mX7_init : MInfo := (RX7, prog_9_method_1_code, 1, none, ⟨RX7, "<init>", "()V"⟩)
def mX7_has : MInfo := (RX7, prog_9_method_2_code, 2, (some .boolean), ⟨RX7, "has", "(I)Z"⟩)
def mX7_add : MInfo := (RX7, prog_9_method_3_code, 5, (some .int), ⟨RX7, "add", "(IIII)I"⟩)
def mX7_isDue : MInfo := (RX7, prog_9_method_4_code, 3, (some .boolean), ⟨RX7, "isDue", "(II)Z"⟩)
def mX8_init : MInfo := (RX8, prog_10_method_1_code, 1, none, ⟨RX8, "<init>", "()V"⟩)
def mX8_reset : MInfo := (RX8, prog_10_method_2_code, 3, none, ⟨RX8, "reset", "(Z)V"⟩)
def mX8_fail : MInfo := (RX8, prog_10_method_3_code, 2, none, ⟨RX8, "fail", "(I)V"⟩)
def mX9_init : MInfo := (RX9, prog_1_method_1_code, 1, none, ⟨RX9, "<init>", "()V"⟩)
def mX9_bucket : MInfo := (RX9, prog_1_method_2_code, 3, (some .int), ⟨RX9, "bucket", "(II)I"⟩)
def mX9_pipe : MInfo := (RX9, prog_1_method_3_code, 4, (some .int), ⟨RX9, "pipe", "(III)I"⟩)
def mX9_spout : MInfo := (RX9, prog_1_method_4_code, 5, (some .int), ⟨RX9, "spout", "(IIII)I"⟩)
def mX9_turn : MInfo := (RX9, prog_1_method_5_code, 4, (some .int), ⟨RX9, "turn", "(II)I"⟩)
def mX9_frog : MInfo := (RX9, prog_1_method_6_code, 4, (some .int), ⟨RX9, "frog", "(III)I"⟩)
def mX9_weather : MInfo := (RX9, prog_1_method_7_code, 3, (some .int), ⟨RX9, "weather", "(II)I"⟩)
def mX9_dry : MInfo := (RX9, prog_1_method_8_code, 3, (some .int), ⟨RX9, "dry", "(I)I"⟩)
def mX9_told : MInfo := (RX9, prog_1_method_9_code, 3, (some .int), ⟨RX9, "told", "(II)I"⟩)
def mX9_count : MInfo := (RX9, prog_1_method_10_code, 2, (some .int), ⟨RX9, "count", "(I)I"⟩)
def mX9_tick : MInfo := (RX9, prog_1_method_11_code, 4, (some .int), ⟨RX9, "tick", "(I)I"⟩)
def mX9_again : MInfo := (RX9, prog_1_method_12_code, 2, (some .int), ⟨RX9, "again", "()I"⟩)
def mX9_row : MInfo := (RX9, prog_1_method_13_code, 8, (some .long), ⟨RX9, "row", "(IZ)J"⟩)
def mX9_round : MInfo := (RX9, prog_1_method_14_code, 4, (some .int), ⟨RX9, "round", "(I)I"⟩)
def mX9_meeting : MInfo := (RX9, prog_1_method_15_code, 5, (some .int), ⟨RX9, "meeting", "(II)I"⟩)
def mX9_drip : MInfo := (RX9, prog_1_method_16_code, 12, (some .int), ⟨RX9, "drip", "(JIII)I"⟩)
def mX9_hear : MInfo := (RX9, prog_1_method_17_code, 4, (some .int), ⟨RX9, "hear", "(IJ)I"⟩)
def mX9_hush : MInfo := (RX9, prog_1_method_18_code, 2, (some .int), ⟨RX9, "hush", "()I"⟩)
def mX9_blamed : MInfo := (RX9, prog_1_method_19_code, 2, (some .int), ⟨RX9, "blamed", "(I)I"⟩)
def mX9_mended : MInfo := (RX9, prog_1_method_20_code, 6, (some .int), ⟨RX9, "mended", "(IIII)I"⟩)
def mX9_within : MInfo := (RX9, prog_1_method_21_code, 3, (some .boolean), ⟨RX9, "within", "(III)Z"⟩)
def mX9_isRow : MInfo := (RX9, prog_1_method_22_code, 2, (some .boolean), ⟨RX9, "isRow", "(J)Z"⟩)
def mX9_goesInto : MInfo := (RX9, prog_1_method_23_code, 2, (some .boolean), ⟨RX9, "goesInto", "(II)Z"⟩)
def mX9_sum : MInfo := (RX9, prog_1_method_24_code, 6, (some .int), ⟨RX9, "sum", "([I)I"⟩)
def mX9_roundLength : MInfo := (RX9, prog_1_method_25_code, 2, (some .int), ⟨RX9, "roundLength", "()I"⟩)
def mX9_roundStart : MInfo := (RX9, prog_1_method_26_code, 3, (some .int), ⟨RX9, "roundStart", "(I)I"⟩)
def mX9_runPlain : MInfo := (RX9, prog_1_method_27_code, 4, none, ⟨RX9, "runPlain", "(LTickGarden$Flow;I)V"⟩)
def mX9_loneRow : MInfo := (RX9, prog_1_method_28_code, 9, (some .long), ⟨RX9, "loneRow", "(IIII)J"⟩)
def mX9_offOf : MInfo := (RX9, prog_1_method_29_code, 8, (some .int), ⟨RX9, "offOf", "(JJ)I"⟩)
def mX9_trySingleFaults : MInfo := (RX9, prog_1_method_30_code, 2, none, ⟨RX9, "trySingleFaults", "()V"⟩)
def mX9_tryPairsOfFaults : MInfo := (RX9, prog_1_method_31_code, 3, none, ⟨RX9, "tryPairsOfFaults", "()V"⟩)
def mX9_tryFaults : MInfo := (RX9, prog_1_method_32_code, 4, none, ⟨RX9, "tryFaults", "(II)V"⟩)
def mX9_leastWay : MInfo := (RX9, prog_1_method_33_code, 6, (some .int), ⟨RX9, "leastWay", "(III)I"⟩)
def mX9_changeIn : MInfo := (RX9, prog_1_method_34_code, 4, (some .int), ⟨RX9, "changeIn", "(II)I"⟩)
def mX9_sizeOf : MInfo := (RX9, prog_1_method_35_code, 3, (some .int), ⟨RX9, "sizeOf", "(I)I"⟩)
def mX9_isOpen : MInfo := (RX9, prog_1_method_36_code, 4, (some .boolean), ⟨RX9, "isOpen", "(I)Z"⟩)
def mX9_knocksJust : MInfo := (RX9, prog_1_method_37_code, 7, (some .boolean), ⟨RX9, "knocksJust", "(IIII)Z"⟩)
def mX10_init : MInfo := (RX10, prog_12_method_1_code, 2, none, ⟨RX10, "<init>", "()V"⟩)
def mX10_in : MInfo := (RX10, prog_12_method_3_code, 6, (some .boolean), ⟨RX10, "in", "(JJJ)Z"⟩)
def mX10_noBucket : MInfo := (RX10, prog_12_method_4_code, 2, (some .boolean), ⟨RX10, "noBucket", "(I)Z"⟩)
def mX10_noSpout : MInfo := (RX10, prog_12_method_5_code, 2, (some .boolean), ⟨RX10, "noSpout", "(I)Z"⟩)
def mX10_bucket : MInfo := (RX10, prog_12_method_6_code, 3, (some .int), ⟨RX10, "bucket", "(II)I"⟩)
def mX10_pipe : MInfo := (RX10, prog_12_method_7_code, 4, (some .int), ⟨RX10, "pipe", "(III)I"⟩)
def mX10_spout : MInfo := (RX10, prog_12_method_8_code, 5, (some .int), ⟨RX10, "spout", "(IIII)I"⟩)
def mX10_turn : MInfo := (RX10, prog_12_method_9_code, 4, (some .int), ⟨RX10, "turn", "(II)I"⟩)
def mX10_frog : MInfo := (RX10, prog_12_method_10_code, 4, (some .int), ⟨RX10, "frog", "(III)I"⟩)
def mX10_weather : MInfo := (RX10, prog_12_method_11_code, 3, (some .int), ⟨RX10, "weather", "(II)I"⟩)
def mX10_dry : MInfo := (RX10, prog_12_method_12_code, 3, (some .int), ⟨RX10, "dry", "(I)I"⟩)
def mX10_isFault : MInfo := (RX10, prog_12_method_13_code, 2, (some .boolean), ⟨RX10, "isFault", "(I)Z"⟩)
def mX10_wetAt : MInfo := (RX10, prog_12_method_14_code, 5, (some .int), ⟨RX10, "wetAt", "(I)I"⟩)
def mX10_hasFrog : MInfo := (RX10, prog_12_method_15_code, 5, (some .boolean), ⟨RX10, "hasFrog", "(II)Z"⟩)
def mX10_dripOf : MInfo := (RX10, prog_12_method_16_code, 7, (some .int), ⟨RX10, "dripOf", "(IIIZ)I"⟩)
def mX10_come : MInfo := (RX10, prog_12_method_17_code, 5, none, ⟨RX10, "come", "(IIII)V"⟩)
def mX10_knock : MInfo := (RX10, prog_12_method_18_code, 6, (some .boolean), ⟨RX10, "knock", "(III)Z"⟩)
def mX10_step : MInfo := (RX10, prog_12_method_19_code, 6, (some .int), ⟨RX10, "step", "(IIZ)I"⟩)
def mX10_begin : MInfo := (RX10, prog_12_method_20_code, 3, none, ⟨RX10, "begin", "(I)V"⟩)
def mX10_onTheWay : MInfo := (RX10, prog_12_method_21_code, 4, (some .int), ⟨RX10, "onTheWay", "(I)I"⟩)
def mX10_told : MInfo := (RX10, prog_12_method_22_code, 3, (some .int), ⟨RX10, "told", "(II)I"⟩)
def mX10_count : MInfo := (RX10, prog_12_method_23_code, 6, (some .int), ⟨RX10, "count", "(I)I"⟩)
def mX10_tick : MInfo := (RX10, prog_12_method_24_code, 6, (some .int), ⟨RX10, "tick", "(I)I"⟩)
def mX10_again : MInfo := (RX10, prog_12_method_25_code, 3, (some .int), ⟨RX10, "again", "()I"⟩)
def mX10_run : MInfo := (RX10, prog_12_method_26_code, 6, none, ⟨RX10, "run", "(IZ)V"⟩)
def mX10_row : MInfo := (RX10, prog_12_method_27_code, 3, (some .long), ⟨RX10, "row", "(IZ)J"⟩)
def mX10_keep : MInfo := (RX10, prog_12_method_28_code, 5, none, ⟨RX10, "keep", "(I)V"⟩)
def mX10_isLike : MInfo := (RX10, prog_12_method_29_code, 4, (some .boolean), ⟨RX10, "isLike", "(II)Z"⟩)
def mX10_goesInto : MInfo := (RX10, prog_12_method_30_code, 4, (some .boolean), ⟨RX10, "goesInto", "(I)Z"⟩)
def mX10_round : MInfo := (RX10, prog_12_method_31_code, 5, (some .int), ⟨RX10, "round", "(I)I"⟩)
def mX10_meeting : MInfo := (RX10, prog_12_method_32_code, 5, (some .int), ⟨RX10, "meeting", "(II)I"⟩)
def mX10_ones : MInfo := (RX10, prog_12_method_33_code, 4, (some .int), ⟨RX10, "ones", "(J)I"⟩)
def mX10_offOf : MInfo := (RX10, prog_12_method_34_code, 11, (some .int), ⟨RX10, "offOf", "(JJ)I"⟩)
def mX10_loneRow : MInfo := (RX10, prog_12_method_35_code, 9, (some .long), ⟨RX10, "loneRow", "(IIII)J"⟩)
def mX10_isRow : MInfo := (RX10, prog_12_method_36_code, 2, (some .boolean), ⟨RX10, "isRow", "(J)Z"⟩)
def mX10_drip : MInfo := (RX10, prog_12_method_37_code, 12, (some .int), ⟨RX10, "drip", "(JIII)I"⟩)
def mX10_hear : MInfo := (RX10, prog_12_method_38_code, 4, (some .int), ⟨RX10, "hear", "(IJ)I"⟩)
def mX10_hush : MInfo := (RX10, prog_12_method_39_code, 3, (some .int), ⟨RX10, "hush", "()I"⟩)
def mX10_isFaulty : MInfo := (RX10, prog_12_method_40_code, 2, (some .boolean), ⟨RX10, "isFaulty", "(I)Z"⟩)
def mX10_fits : MInfo := (RX10, prog_12_method_41_code, 5, (some .boolean), ⟨RX10, "fits", "(II)Z"⟩)
def mX10_blamed : MInfo := (RX10, prog_12_method_42_code, 9, (some .int), ⟨RX10, "blamed", "(I)I"⟩)
def mX10_knocksOf : MInfo := (RX10, prog_12_method_43_code, 5, (some .int), ⟨RX10, "knocksOf", "(II)I"⟩)
def mX10_findTurn : MInfo := (RX10, prog_12_method_44_code, 11, (some .int), ⟨RX10, "findTurn", "(III)I"⟩)
def mX10_mended : MInfo := (RX10, prog_12_method_45_code, 6, (some .int), ⟨RX10, "mended", "(IIII)I"⟩)
def mJ6_bitCount_0f7a4 : MInfo := (RJ6, prog_13_method_49_code, 1, (some .int), ⟨RJ6, "bitCount", "(I)I"⟩)
def mJ13_bitCount_95d88 : MInfo := (RJ13, prog_14_method_50_code, 2, (some .int), ⟨RJ13, "bitCount", "(J)I"⟩)
def mJ9_abs_0f7a4 : MInfo := (RJ9, prog_15_method_59_code, 1, (some .int), ⟨RJ9, "abs", "(I)I"⟩)
def mJ9_max_7cf53 : MInfo := (RJ9, prog_15_method_65_code, 2, (some .int), ⟨RJ9, "max", "(II)I"⟩)
def mJ9_min_7cf53 : MInfo := (RJ9, prog_15_method_69_code, 2, (some .int), ⟨RJ9, "min", "(II)I"⟩)
def mJ7_fill_53178 : MInfo := (RJ7, prog_16_method_103_code, 4, none, ⟨RJ7, "fill", "([II)V"⟩)
def mL_law : MInfo := (RL, code, 4, (some .boolean), ⟨RL, "law", "([I)Z"⟩)
theorem mwX0_init : MW mX0_init 0 := ⟨tI 11 (by decide +kernel) rfl, tI 260 (by decide +kernel) rfl, ⟨by decide +kernel, by decide +kernel⟩, by decide +kernel, by decide +kernel⟩
theorem mwX0_forget : MW mX0_forget 0 := ⟨tI 11 (by decide +kernel) rfl, tI 536 (by decide +kernel) rfl, ⟨by decide +kernel, by decide +kernel⟩, by decide +kernel, by decide +kernel⟩
theorem mwX0_add : MW mX0_add 2 := ⟨tI 11 (by decide +kernel) rfl, tI 553 (by decide +kernel) rfl, ⟨by decide +kernel, by decide +kernel⟩, by decide +kernel, by decide +kernel⟩
theorem mwX0_faultsInEach : MW mX0_faultsInEach 0 := ⟨tI 11 (by decide +kernel) rfl, tI 571 (by decide +kernel) rfl, ⟨by decide +kernel, by decide +kernel⟩, by decide +kernel, by decide +kernel⟩
theorem mwX1_init : MW mX1_init 0 := ⟨tI 3 (by decide +kernel) rfl, tI 34 (by decide +kernel) rfl, ⟨by decide +kernel, by decide +kernel⟩, by decide +kernel, by decide +kernel⟩
theorem mwX1_has : MW mX1_has 1 := ⟨tI 3 (by decide +kernel) rfl, tI 315 (by decide +kernel) rfl, ⟨by decide +kernel, by decide +kernel⟩, by decide +kernel, by decide +kernel⟩
theorem mwX1_add : MW mX1_add 2 := ⟨tI 3 (by decide +kernel) rfl, tI 307 (by decide +kernel) rfl, ⟨by decide +kernel, by decide +kernel⟩, by decide +kernel, by decide +kernel⟩
theorem mwX1_lead : MW mX1_lead 3 := ⟨tI 3 (by decide +kernel) rfl, tI 319 (by decide +kernel) rfl, ⟨by decide +kernel, by decide +kernel⟩, by decide +kernel, by decide +kernel⟩
theorem mwX2_init : MW mX2_init 2 := ⟨tI 7 (by decide +kernel) rfl, tI 188 (by decide +kernel) rfl, ⟨by decide +kernel, by decide +kernel⟩, by decide +kernel, by decide +kernel⟩
theorem mwX2_begin : MW mX2_begin 0 := ⟨tI 7 (by decide +kernel) rfl, tI 442 (by decide +kernel) rfl, ⟨by decide +kernel, by decide +kernel⟩, by decide +kernel, by decide +kernel⟩
theorem mwX2_step : MW mX2_step 0 := ⟨tI 7 (by decide +kernel) rfl, tI 379 (by decide +kernel) rfl, ⟨by decide +kernel, by decide +kernel⟩, by decide +kernel, by decide +kernel⟩
theorem mwX2_takeDrips : MW mX2_takeDrips 0 := ⟨tI 7 (by decide +kernel) rfl, tI 383 (by decide +kernel) rfl, ⟨by decide +kernel, by decide +kernel⟩, by decide +kernel, by decide +kernel⟩
theorem mwX2_isHeldBack : MW mX2_isHeldBack 1 := ⟨tI 7 (by decide +kernel) rfl, tI 399 (by decide +kernel) rfl, ⟨by decide +kernel, by decide +kernel⟩, by decide +kernel, by decide +kernel⟩
theorem mwX2_takeFromPipes : MW mX2_takeFromPipes 0 := ⟨tI 7 (by decide +kernel) rfl, tI 414 (by decide +kernel) rfl, ⟨by decide +kernel, by decide +kernel⟩, by decide +kernel, by decide +kernel⟩
theorem mwX2_pour : MW mX2_pour 2 := ⟨tI 7 (by decide +kernel) rfl, tI 410 (by decide +kernel) rfl, ⟨by decide +kernel, by decide +kernel⟩, by decide +kernel, by decide +kernel⟩
theorem mwX2_dryUp : MW mX2_dryUp 0 := ⟨tI 7 (by decide +kernel) rfl, tI 419 (by decide +kernel) rfl, ⟨by decide +kernel, by decide +kernel⟩, by decide +kernel, by decide +kernel⟩
theorem mwX2_tipAll : MW mX2_tipAll 0 := ⟨tI 7 (by decide +kernel) rfl, tI 423 (by decide +kernel) rfl, ⟨by decide +kernel, by decide +kernel⟩, by decide +kernel, by decide +kernel⟩
theorem mwX2_tip : MW mX2_tip 1 := ⟨tI 7 (by decide +kernel) rfl, tI 427 (by decide +kernel) rfl, ⟨by decide +kernel, by decide +kernel⟩, by decide +kernel, by decide +kernel⟩
theorem mwX2_inPipes : MW mX2_inPipes 0 := ⟨tI 7 (by decide +kernel) rfl, tI 370 (by decide +kernel) rfl, ⟨by decide +kernel, by decide +kernel⟩, by decide +kernel, by decide +kernel⟩
theorem mwX2_isLike : MW mX2_isLike 1 := ⟨tI 7 (by decide +kernel) rfl, tI 472 (by decide +kernel) rfl, ⟨by decide +kernel, by decide +kernel⟩, by decide +kernel, by decide +kernel⟩
theorem mwX2_hasComing : MW mX2_hasComing 2 := ⟨tI 7 (by decide +kernel) rfl, tI 476 (by decide +kernel) rfl, ⟨by decide +kernel, by decide +kernel⟩, by decide +kernel, by decide +kernel⟩
theorem mwX3_init : MW mX3_init 0 := ⟨tI 5 (by decide +kernel) rfl, tI 96 (by decide +kernel) rfl, ⟨by decide +kernel, by decide +kernel⟩, by decide +kernel, by decide +kernel⟩
theorem mwX3_add : MW mX3_add 3 := ⟨tI 5 (by decide +kernel) rfl, tI 343 (by decide +kernel) rfl, ⟨by decide +kernel, by decide +kernel⟩, by decide +kernel, by decide +kernel⟩
theorem mwX3_sitOn : MW mX3_sitOn 2 := ⟨tI 5 (by decide +kernel) rfl, tI 403 (by decide +kernel) rfl, ⟨by decide +kernel, by decide +kernel⟩, by decide +kernel, by decide +kernel⟩
theorem mwX4_init : MW mX4_init 0 := ⟨tI 10 (by decide +kernel) rfl, tI 242 (by decide +kernel) rfl, ⟨by decide +kernel, by decide +kernel⟩, by decide +kernel, by decide +kernel⟩
theorem mwX4_note : MW mX4_note 2 := ⟨tI 10 (by decide +kernel) rfl, tI 520 (by decide +kernel) rfl, ⟨by decide +kernel, by decide +kernel⟩, by decide +kernel, by decide +kernel⟩
theorem mwX4_forget : MW mX4_forget 0 := ⟨tI 10 (by decide +kernel) rfl, tI 528 (by decide +kernel) rfl, ⟨by decide +kernel, by decide +kernel⟩, by decide +kernel, by decide +kernel⟩
theorem mwX4_agrees : MW mX4_agrees 2 := ⟨tI 10 (by decide +kernel) rfl, tI 549 (by decide +kernel) rfl, ⟨by decide +kernel, by decide +kernel⟩, by decide +kernel, by decide +kernel⟩
theorem mwX5_init : MW mX5_init 0 := ⟨tI 2 (by decide +kernel) rfl, tI 28 (by decide +kernel) rfl, ⟨by decide +kernel, by decide +kernel⟩, by decide +kernel, by decide +kernel⟩
theorem mwX5_isBeat : MW mX5_isBeat 1 := ⟨tI 2 (by decide +kernel) rfl, tI 467 (by decide +kernel) rfl, ⟨by decide +kernel, by decide +kernel⟩, by decide +kernel, by decide +kernel⟩
theorem mwX5_canFail : MW mX5_canFail 1 := ⟨tI 2 (by decide +kernel) rfl, tI 561 (by decide +kernel) rfl, ⟨by decide +kernel, by decide +kernel⟩, by decide +kernel, by decide +kernel⟩
theorem mwX6_init : MW mX6_init 0 := ⟨tI 6 (by decide +kernel) rfl, tI 116 (by decide +kernel) rfl, ⟨by decide +kernel, by decide +kernel⟩, by decide +kernel, by decide +kernel⟩
theorem mwX6_add : MW mX6_add 2 := ⟨tI 6 (by decide +kernel) rfl, tI 351 (by decide +kernel) rfl, ⟨by decide +kernel, by decide +kernel⟩, by decide +kernel, by decide +kernel⟩
theorem mwX6_wetAt : MW mX6_wetAt 1 := ⟨tI 6 (by decide +kernel) rfl, tI 387 (by decide +kernel) rfl, ⟨by decide +kernel, by decide +kernel⟩, by decide +kernel, by decide +kernel⟩
theorem mwX7_init : MW mX7_init 0 := ⟨tI 4 (by decide +kernel) rfl, tI 67 (by decide +kernel) rfl, ⟨by decide +kernel, by decide +kernel⟩, by decide +kernel, by decide +kernel⟩
theorem mwX7_has : MW mX7_has 1 := ⟨tI 4 (by decide +kernel) rfl, tI 335 (by decide +kernel) rfl, ⟨by decide +kernel, by decide +kernel⟩, by decide +kernel, by decide +kernel⟩
theorem mwX7_add : MW mX7_add 4 := ⟨tI 4 (by decide +kernel) rfl, tI 327 (by decide +kernel) rfl, ⟨by decide +kernel, by decide +kernel⟩, by decide +kernel, by decide +kernel⟩
theorem mwX7_isDue : MW mX7_isDue 2 := ⟨tI 4 (by decide +kernel) rfl, tI 392 (by decide +kernel) rfl, ⟨by decide +kernel, by decide +kernel⟩, by decide +kernel, by decide +kernel⟩
theorem mwX8_init : MW mX8_init 0 := ⟨tI 8 (by decide +kernel) rfl, tI 161 (by decide +kernel) rfl, ⟨by decide +kernel, by decide +kernel⟩, by decide +kernel, by decide +kernel⟩
theorem mwX8_reset : MW mX8_reset 1 := ⟨tI 8 (by decide +kernel) rfl, tI 451 (by decide +kernel) rfl, ⟨by decide +kernel, by decide +kernel⟩, by decide +kernel, by decide +kernel⟩
theorem mwX8_fail : MW mX8_fail 1 := ⟨tI 8 (by decide +kernel) rfl, tI 544 (by decide +kernel) rfl, ⟨by decide +kernel, by decide +kernel⟩, by decide +kernel, by decide +kernel⟩
theorem mwX9_init : MW mX9_init 0 := ⟨tI 1 (by decide +kernel) rfl, tI 20 (by decide +kernel) rfl, ⟨by decide +kernel, by decide +kernel⟩, by decide +kernel, by decide +kernel⟩
theorem mwX9_bucket : MW mX9_bucket 2 := ⟨tI 1 (by decide +kernel) rfl, tI 300 (by decide +kernel) rfl, ⟨by decide +kernel, by decide +kernel⟩, by decide +kernel, by decide +kernel⟩
theorem mwX9_pipe : MW mX9_pipe 3 := ⟨tI 1 (by decide +kernel) rfl, tI 311 (by decide +kernel) rfl, ⟨by decide +kernel, by decide +kernel⟩, by decide +kernel, by decide +kernel⟩
theorem mwX9_spout : MW mX9_spout 4 := ⟨tI 1 (by decide +kernel) rfl, tI 323 (by decide +kernel) rfl, ⟨by decide +kernel, by decide +kernel⟩, by decide +kernel, by decide +kernel⟩
theorem mwX9_turn : MW mX9_turn 2 := ⟨tI 1 (by decide +kernel) rfl, tI 331 (by decide +kernel) rfl, ⟨by decide +kernel, by decide +kernel⟩, by decide +kernel, by decide +kernel⟩
theorem mwX9_frog : MW mX9_frog 3 := ⟨tI 1 (by decide +kernel) rfl, tI 339 (by decide +kernel) rfl, ⟨by decide +kernel, by decide +kernel⟩, by decide +kernel, by decide +kernel⟩
theorem mwX9_weather : MW mX9_weather 2 := ⟨tI 1 (by decide +kernel) rfl, tI 347 (by decide +kernel) rfl, ⟨by decide +kernel, by decide +kernel⟩, by decide +kernel, by decide +kernel⟩
theorem mwX9_dry : MW mX9_dry 1 := ⟨tI 1 (by decide +kernel) rfl, tI 355 (by decide +kernel) rfl, ⟨by decide +kernel, by decide +kernel⟩, by decide +kernel, by decide +kernel⟩
theorem mwX9_told : MW mX9_told 2 := ⟨tI 1 (by decide +kernel) rfl, tI 359 (by decide +kernel) rfl, ⟨by decide +kernel, by decide +kernel⟩, by decide +kernel, by decide +kernel⟩
theorem mwX9_count : MW mX9_count 1 := ⟨tI 1 (by decide +kernel) rfl, tI 366 (by decide +kernel) rfl, ⟨by decide +kernel, by decide +kernel⟩, by decide +kernel, by decide +kernel⟩
theorem mwX9_tick : MW mX9_tick 1 := ⟨tI 1 (by decide +kernel) rfl, tI 375 (by decide +kernel) rfl, ⟨by decide +kernel, by decide +kernel⟩, by decide +kernel, by decide +kernel⟩
theorem mwX9_again : MW mX9_again 0 := ⟨tI 1 (by decide +kernel) rfl, tI 438 (by decide +kernel) rfl, ⟨by decide +kernel, by decide +kernel⟩, by decide +kernel, by decide +kernel⟩
theorem mwX9_row : MW mX9_row 2 := ⟨tI 1 (by decide +kernel) rfl, tI 446 (by decide +kernel) rfl, ⟨by decide +kernel, by decide +kernel⟩, by decide +kernel, by decide +kernel⟩
theorem mwX9_round : MW mX9_round 1 := ⟨tI 1 (by decide +kernel) rfl, tI 455 (by decide +kernel) rfl, ⟨by decide +kernel, by decide +kernel⟩, by decide +kernel, by decide +kernel⟩
theorem mwX9_meeting : MW mX9_meeting 2 := ⟨tI 1 (by decide +kernel) rfl, tI 484 (by decide +kernel) rfl, ⟨by decide +kernel, by decide +kernel⟩, by decide +kernel, by decide +kernel⟩
theorem mwX9_drip : MW mX9_drip 4 := ⟨tI 1 (by decide +kernel) rfl, tI 488 (by decide +kernel) rfl, ⟨by decide +kernel, by decide +kernel⟩, by decide +kernel, by decide +kernel⟩
theorem mwX9_hear : MW mX9_hear 2 := ⟨tI 1 (by decide +kernel) rfl, tI 516 (by decide +kernel) rfl, ⟨by decide +kernel, by decide +kernel⟩, by decide +kernel, by decide +kernel⟩
theorem mwX9_hush : MW mX9_hush 0 := ⟨tI 1 (by decide +kernel) rfl, tI 524 (by decide +kernel) rfl, ⟨by decide +kernel, by decide +kernel⟩, by decide +kernel, by decide +kernel⟩
theorem mwX9_blamed : MW mX9_blamed 1 := ⟨tI 1 (by decide +kernel) rfl, tI 532 (by decide +kernel) rfl, ⟨by decide +kernel, by decide +kernel⟩, by decide +kernel, by decide +kernel⟩
theorem mwX9_mended : MW mX9_mended 4 := ⟨tI 1 (by decide +kernel) rfl, tI 575 (by decide +kernel) rfl, ⟨by decide +kernel, by decide +kernel⟩, by decide +kernel, by decide +kernel⟩
theorem mwX9_within : MW mX9_within 3 := ⟨tI 1 (by decide +kernel) rfl, tI 303 (by decide +kernel) rfl, ⟨by decide +kernel, by decide +kernel⟩, by decide +kernel, by decide +kernel⟩
theorem mwX9_isRow : MW mX9_isRow 1 := ⟨tI 1 (by decide +kernel) rfl, tI 491 (by decide +kernel) rfl, ⟨by decide +kernel, by decide +kernel⟩, by decide +kernel, by decide +kernel⟩
theorem mwX9_goesInto : MW mX9_goesInto 2 := ⟨tI 1 (by decide +kernel) rfl, tI 395 (by decide +kernel) rfl, ⟨by decide +kernel, by decide +kernel⟩, by decide +kernel, by decide +kernel⟩
theorem mwX9_sum : MW mX9_sum 1 := ⟨tI 1 (by decide +kernel) rfl, tI 362 (by decide +kernel) rfl, ⟨by decide +kernel, by decide +kernel⟩, by decide +kernel, by decide +kernel⟩
theorem mwX9_roundLength : MW mX9_roundLength 0 := ⟨tI 1 (by decide +kernel) rfl, tI 459 (by decide +kernel) rfl, ⟨by decide +kernel, by decide +kernel⟩, by decide +kernel, by decide +kernel⟩
theorem mwX9_roundStart : MW mX9_roundStart 1 := ⟨tI 1 (by decide +kernel) rfl, tI 480 (by decide +kernel) rfl, ⟨by decide +kernel, by decide +kernel⟩, by decide +kernel, by decide +kernel⟩
theorem mwX9_runPlain : MW mX9_runPlain 2 := ⟨tI 1 (by decide +kernel) rfl, tI 463 (by decide +kernel) rfl, ⟨by decide +kernel, by decide +kernel⟩, by decide +kernel, by decide +kernel⟩
theorem mwX9_loneRow : MW mX9_loneRow 4 := ⟨tI 1 (by decide +kernel) rfl, tI 495 (by decide +kernel) rfl, ⟨by decide +kernel, by decide +kernel⟩, by decide +kernel, by decide +kernel⟩
theorem mwX9_offOf : MW mX9_offOf 2 := ⟨tI 1 (by decide +kernel) rfl, tI 499 (by decide +kernel) rfl, ⟨by decide +kernel, by decide +kernel⟩, by decide +kernel, by decide +kernel⟩
theorem mwX9_trySingleFaults : MW mX9_trySingleFaults 0 := ⟨tI 1 (by decide +kernel) rfl, tI 557 (by decide +kernel) rfl, ⟨by decide +kernel, by decide +kernel⟩, by decide +kernel, by decide +kernel⟩
theorem mwX9_tryPairsOfFaults : MW mX9_tryPairsOfFaults 0 := ⟨tI 1 (by decide +kernel) rfl, tI 567 (by decide +kernel) rfl, ⟨by decide +kernel, by decide +kernel⟩, by decide +kernel, by decide +kernel⟩
theorem mwX9_tryFaults : MW mX9_tryFaults 2 := ⟨tI 1 (by decide +kernel) rfl, tI 540 (by decide +kernel) rfl, ⟨by decide +kernel, by decide +kernel⟩, by decide +kernel, by decide +kernel⟩
theorem mwX9_leastWay : MW mX9_leastWay 3 := ⟨tI 1 (by decide +kernel) rfl, tI 579 (by decide +kernel) rfl, ⟨by decide +kernel, by decide +kernel⟩, by decide +kernel, by decide +kernel⟩
theorem mwX9_changeIn : MW mX9_changeIn 2 := ⟨tI 1 (by decide +kernel) rfl, tI 585 (by decide +kernel) rfl, ⟨by decide +kernel, by decide +kernel⟩, by decide +kernel, by decide +kernel⟩
theorem mwX9_sizeOf : MW mX9_sizeOf 1 := ⟨tI 1 (by decide +kernel) rfl, tI 582 (by decide +kernel) rfl, ⟨by decide +kernel, by decide +kernel⟩, by decide +kernel, by decide +kernel⟩
theorem mwX9_isOpen : MW mX9_isOpen 1 := ⟨tI 1 (by decide +kernel) rfl, tI 589 (by decide +kernel) rfl, ⟨by decide +kernel, by decide +kernel⟩, by decide +kernel, by decide +kernel⟩
theorem mwX9_knocksJust : MW mX9_knocksJust 4 := ⟨tI 1 (by decide +kernel) rfl, tI 593 (by decide +kernel) rfl, ⟨by decide +kernel, by decide +kernel⟩, by decide +kernel, by decide +kernel⟩
theorem mwX10_init : MW mX10_init 0 := ⟨tI 12 (by decide +kernel) rfl, tI 598 (by decide +kernel) rfl, ⟨by decide +kernel, by decide +kernel⟩, by decide +kernel, by decide +kernel⟩
theorem mwX10_in : MW mX10_in 3 := ⟨tI 12 (by decide +kernel) rfl, tI 717 (by decide +kernel) rfl, ⟨by decide +kernel, by decide +kernel⟩, by decide +kernel, by decide +kernel⟩
theorem mwX10_noBucket : MW mX10_noBucket 1 := ⟨tI 12 (by decide +kernel) rfl, tI 726 (by decide +kernel) rfl, ⟨by decide +kernel, by decide +kernel⟩, by decide +kernel, by decide +kernel⟩
theorem mwX10_noSpout : MW mX10_noSpout 1 := ⟨tI 12 (by decide +kernel) rfl, tI 739 (by decide +kernel) rfl, ⟨by decide +kernel, by decide +kernel⟩, by decide +kernel, by decide +kernel⟩
theorem mwX10_bucket : MW mX10_bucket 2 := ⟨tI 12 (by decide +kernel) rfl, tI 713 (by decide +kernel) rfl, ⟨by decide +kernel, by decide +kernel⟩, by decide +kernel, by decide +kernel⟩
theorem mwX10_pipe : MW mX10_pipe 3 := ⟨tI 12 (by decide +kernel) rfl, tI 722 (by decide +kernel) rfl, ⟨by decide +kernel, by decide +kernel⟩, by decide +kernel, by decide +kernel⟩
theorem mwX10_spout : MW mX10_spout 4 := ⟨tI 12 (by decide +kernel) rfl, tI 730 (by decide +kernel) rfl, ⟨by decide +kernel, by decide +kernel⟩, by decide +kernel, by decide +kernel⟩
theorem mwX10_turn : MW mX10_turn 2 := ⟨tI 12 (by decide +kernel) rfl, tI 735 (by decide +kernel) rfl, ⟨by decide +kernel, by decide +kernel⟩, by decide +kernel, by decide +kernel⟩
theorem mwX10_frog : MW mX10_frog 3 := ⟨tI 12 (by decide +kernel) rfl, tI 743 (by decide +kernel) rfl, ⟨by decide +kernel, by decide +kernel⟩, by decide +kernel, by decide +kernel⟩
theorem mwX10_weather : MW mX10_weather 2 := ⟨tI 12 (by decide +kernel) rfl, tI 748 (by decide +kernel) rfl, ⟨by decide +kernel, by decide +kernel⟩, by decide +kernel, by decide +kernel⟩
theorem mwX10_dry : MW mX10_dry 1 := ⟨tI 12 (by decide +kernel) rfl, tI 753 (by decide +kernel) rfl, ⟨by decide +kernel, by decide +kernel⟩, by decide +kernel, by decide +kernel⟩
theorem mwX10_isFault : MW mX10_isFault 1 := ⟨tI 12 (by decide +kernel) rfl, tI 787 (by decide +kernel) rfl, ⟨by decide +kernel, by decide +kernel⟩, by decide +kernel, by decide +kernel⟩
theorem mwX10_wetAt : MW mX10_wetAt 1 := ⟨tI 12 (by decide +kernel) rfl, tI 791 (by decide +kernel) rfl, ⟨by decide +kernel, by decide +kernel⟩, by decide +kernel, by decide +kernel⟩
theorem mwX10_hasFrog : MW mX10_hasFrog 2 := ⟨tI 12 (by decide +kernel) rfl, tI 783 (by decide +kernel) rfl, ⟨by decide +kernel, by decide +kernel⟩, by decide +kernel, by decide +kernel⟩
theorem mwX10_dripOf : MW mX10_dripOf 4 := ⟨tI 12 (by decide +kernel) rfl, tI 779 (by decide +kernel) rfl, ⟨by decide +kernel, by decide +kernel⟩, by decide +kernel, by decide +kernel⟩
theorem mwX10_come : MW mX10_come 4 := ⟨tI 12 (by decide +kernel) rfl, tI 795 (by decide +kernel) rfl, ⟨by decide +kernel, by decide +kernel⟩, by decide +kernel, by decide +kernel⟩
theorem mwX10_knock : MW mX10_knock 3 := ⟨tI 12 (by decide +kernel) rfl, tI 799 (by decide +kernel) rfl, ⟨by decide +kernel, by decide +kernel⟩, by decide +kernel, by decide +kernel⟩
theorem mwX10_step : MW mX10_step 3 := ⟨tI 12 (by decide +kernel) rfl, tI 775 (by decide +kernel) rfl, ⟨by decide +kernel, by decide +kernel⟩, by decide +kernel, by decide +kernel⟩
theorem mwX10_begin : MW mX10_begin 1 := ⟨tI 12 (by decide +kernel) rfl, tI 807 (by decide +kernel) rfl, ⟨by decide +kernel, by decide +kernel⟩, by decide +kernel, by decide +kernel⟩
theorem mwX10_onTheWay : MW mX10_onTheWay 1 := ⟨tI 12 (by decide +kernel) rfl, tI 762 (by decide +kernel) rfl, ⟨by decide +kernel, by decide +kernel⟩, by decide +kernel, by decide +kernel⟩
theorem mwX10_told : MW mX10_told 2 := ⟨tI 12 (by decide +kernel) rfl, tI 758 (by decide +kernel) rfl, ⟨by decide +kernel, by decide +kernel⟩, by decide +kernel, by decide +kernel⟩
theorem mwX10_count : MW mX10_count 1 := ⟨tI 12 (by decide +kernel) rfl, tI 766 (by decide +kernel) rfl, ⟨by decide +kernel, by decide +kernel⟩, by decide +kernel, by decide +kernel⟩
theorem mwX10_tick : MW mX10_tick 1 := ⟨tI 12 (by decide +kernel) rfl, tI 770 (by decide +kernel) rfl, ⟨by decide +kernel, by decide +kernel⟩, by decide +kernel, by decide +kernel⟩
theorem mwX10_again : MW mX10_again 0 := ⟨tI 12 (by decide +kernel) rfl, tI 803 (by decide +kernel) rfl, ⟨by decide +kernel, by decide +kernel⟩, by decide +kernel, by decide +kernel⟩
theorem mwX10_run : MW mX10_run 2 := ⟨tI 12 (by decide +kernel) rfl, tI 816 (by decide +kernel) rfl, ⟨by decide +kernel, by decide +kernel⟩, by decide +kernel, by decide +kernel⟩
theorem mwX10_row : MW mX10_row 2 := ⟨tI 12 (by decide +kernel) rfl, tI 811 (by decide +kernel) rfl, ⟨by decide +kernel, by decide +kernel⟩, by decide +kernel, by decide +kernel⟩
theorem mwX10_keep : MW mX10_keep 1 := ⟨tI 12 (by decide +kernel) rfl, tI 824 (by decide +kernel) rfl, ⟨by decide +kernel, by decide +kernel⟩, by decide +kernel, by decide +kernel⟩
theorem mwX10_isLike : MW mX10_isLike 2 := ⟨tI 12 (by decide +kernel) rfl, tI 832 (by decide +kernel) rfl, ⟨by decide +kernel, by decide +kernel⟩, by decide +kernel, by decide +kernel⟩
theorem mwX10_goesInto : MW mX10_goesInto 1 := ⟨tI 12 (by decide +kernel) rfl, tI 828 (by decide +kernel) rfl, ⟨by decide +kernel, by decide +kernel⟩, by decide +kernel, by decide +kernel⟩
theorem mwX10_round : MW mX10_round 1 := ⟨tI 12 (by decide +kernel) rfl, tI 820 (by decide +kernel) rfl, ⟨by decide +kernel, by decide +kernel⟩, by decide +kernel, by decide +kernel⟩
theorem mwX10_meeting : MW mX10_meeting 2 := ⟨tI 12 (by decide +kernel) rfl, tI 836 (by decide +kernel) rfl, ⟨by decide +kernel, by decide +kernel⟩, by decide +kernel, by decide +kernel⟩
theorem mwX10_ones : MW mX10_ones 1 := ⟨tI 12 (by decide +kernel) rfl, tI 854 (by decide +kernel) rfl, ⟨by decide +kernel, by decide +kernel⟩, by decide +kernel, by decide +kernel⟩
theorem mwX10_offOf : MW mX10_offOf 2 := ⟨tI 12 (by decide +kernel) rfl, tI 850 (by decide +kernel) rfl, ⟨by decide +kernel, by decide +kernel⟩, by decide +kernel, by decide +kernel⟩
theorem mwX10_loneRow : MW mX10_loneRow 4 := ⟨tI 12 (by decide +kernel) rfl, tI 847 (by decide +kernel) rfl, ⟨by decide +kernel, by decide +kernel⟩, by decide +kernel, by decide +kernel⟩
theorem mwX10_isRow : MW mX10_isRow 1 := ⟨tI 12 (by decide +kernel) rfl, tI 843 (by decide +kernel) rfl, ⟨by decide +kernel, by decide +kernel⟩, by decide +kernel, by decide +kernel⟩
theorem mwX10_drip : MW mX10_drip 4 := ⟨tI 12 (by decide +kernel) rfl, tI 840 (by decide +kernel) rfl, ⟨by decide +kernel, by decide +kernel⟩, by decide +kernel, by decide +kernel⟩
theorem mwX10_hear : MW mX10_hear 2 := ⟨tI 12 (by decide +kernel) rfl, tI 858 (by decide +kernel) rfl, ⟨by decide +kernel, by decide +kernel⟩, by decide +kernel, by decide +kernel⟩
theorem mwX10_hush : MW mX10_hush 0 := ⟨tI 12 (by decide +kernel) rfl, tI 863 (by decide +kernel) rfl, ⟨by decide +kernel, by decide +kernel⟩, by decide +kernel, by decide +kernel⟩
theorem mwX10_isFaulty : MW mX10_isFaulty 1 := ⟨tI 12 (by decide +kernel) rfl, tI 876 (by decide +kernel) rfl, ⟨by decide +kernel, by decide +kernel⟩, by decide +kernel, by decide +kernel⟩
theorem mwX10_fits : MW mX10_fits 2 := ⟨tI 12 (by decide +kernel) rfl, tI 872 (by decide +kernel) rfl, ⟨by decide +kernel, by decide +kernel⟩, by decide +kernel, by decide +kernel⟩
theorem mwX10_blamed : MW mX10_blamed 1 := ⟨tI 12 (by decide +kernel) rfl, tI 867 (by decide +kernel) rfl, ⟨by decide +kernel, by decide +kernel⟩, by decide +kernel, by decide +kernel⟩
theorem mwX10_knocksOf : MW mX10_knocksOf 2 := ⟨tI 12 (by decide +kernel) rfl, tI 888 (by decide +kernel) rfl, ⟨by decide +kernel, by decide +kernel⟩, by decide +kernel, by decide +kernel⟩
theorem mwX10_findTurn : MW mX10_findTurn 3 := ⟨tI 12 (by decide +kernel) rfl, tI 884 (by decide +kernel) rfl, ⟨by decide +kernel, by decide +kernel⟩, by decide +kernel, by decide +kernel⟩
theorem mwX10_mended : MW mX10_mended 4 := ⟨tI 12 (by decide +kernel) rfl, tI 880 (by decide +kernel) rfl, ⟨by decide +kernel, by decide +kernel⟩, by decide +kernel, by decide +kernel⟩
theorem mwJ6_bitCount_0f7a4 : MW mJ6_bitCount_0f7a4 1 := ⟨tI 14 (by decide +kernel) rfl, tI 431 (by decide +kernel) rfl, ⟨by decide +kernel, by decide +kernel⟩, by decide +kernel, by decide +kernel⟩
theorem mwJ13_bitCount_95d88 : MW mJ13_bitCount_95d88 1 := ⟨tI 15 (by decide +kernel) rfl, tI 503 (by decide +kernel) rfl, ⟨by decide +kernel, by decide +kernel⟩, by decide +kernel, by decide +kernel⟩
theorem mwJ9_abs_0f7a4 : MW mJ9_abs_0f7a4 1 := ⟨tI 13 (by decide +kernel) rfl, tI 509 (by decide +kernel) rfl, ⟨by decide +kernel, by decide +kernel⟩, by decide +kernel, by decide +kernel⟩
theorem mwJ9_max_7cf53 : MW mJ9_max_7cf53 2 := ⟨tI 13 (by decide +kernel) rfl, tI 406 (by decide +kernel) rfl, ⟨by decide +kernel, by decide +kernel⟩, by decide +kernel, by decide +kernel⟩
theorem mwJ9_min_7cf53 : MW mJ9_min_7cf53 2 := ⟨tI 13 (by decide +kernel) rfl, tI 512 (by decide +kernel) rfl, ⟨by decide +kernel, by decide +kernel⟩, by decide +kernel, by decide +kernel⟩
theorem mwJ7_fill_53178 : MW mJ7_fill_53178 2 := ⟨tI 9 (by decide +kernel) rfl, tI 194 (by decide +kernel) rfl, ⟨by decide +kernel, by decide +kernel⟩, by decide +kernel, by decide +kernel⟩
theorem flX1_24 : FL RX1 24 1 0 := ⟨RX1, TX1, 5, rfl, by decide, tI 36 (by decide +kernel) rfl, rfl, inX1⟩
theorem fpX1_24 : FP RX1 24 1 0 .int := ⟨RX1, TX1, 5, tyX1, rfl, by decide, tI 36 (by decide +kernel) rfl, rfl, inX1, tyX1_ok, nmX1, rfl, by decide +kernel⟩
theorem flX2_146 : FL RX2 146 1 0 := ⟨RX1, TX1, 5, rfl, by decide, tI 37 (by decide +kernel) rfl, rfl, inX1⟩
theorem fpX2_146 : FP RX2 146 1 0 .int := ⟨RX1, TX1, 5, tyX1, rfl, by decide, tI 37 (by decide +kernel) rfl, rfl, inX1, tyX1_ok, nmX1, rfl, by decide +kernel⟩
theorem flX9_143 : FL RX9 143 1 0 := ⟨RX1, TX1, 5, rfl, by decide, tI 38 (by decide +kernel) rfl, rfl, inX1⟩
theorem fpX9_143 : FP RX9 143 1 0 .int := ⟨RX1, TX1, 5, tyX1, rfl, by decide, tI 38 (by decide +kernel) rfl, rfl, inX1, tyX1_ok, nmX1, rfl, by decide +kernel⟩
theorem flX1_9 : FL RX1 9 1 1 := ⟨RX1, TX1, 5, rfl, by decide, tI 39 (by decide +kernel) rfl, rfl, inX1⟩
theorem flX2_149 : FL RX2 149 1 1 := ⟨RX1, TX1, 5, rfl, by decide, tI 40 (by decide +kernel) rfl, rfl, inX1⟩
theorem flX9_108 : FL RX9 108 1 1 := ⟨RX1, TX1, 5, rfl, by decide, tI 41 (by decide +kernel) rfl, rfl, inX1⟩
theorem flX1_15 : FL RX1 15 1 2 := ⟨RX1, TX1, 5, rfl, by decide, tI 42 (by decide +kernel) rfl, rfl, inX1⟩
theorem flX9_111 : FL RX9 111 1 2 := ⟨RX1, TX1, 5, rfl, by decide, tI 43 (by decide +kernel) rfl, rfl, inX1⟩
theorem flX2_169 : FL RX2 169 1 2 := ⟨RX1, TX1, 5, rfl, by decide, tI 44 (by decide +kernel) rfl, rfl, inX1⟩
theorem flX1_18 : FL RX1 18 1 3 := ⟨RX1, TX1, 5, rfl, by decide, tI 45 (by decide +kernel) rfl, rfl, inX1⟩
theorem flX9_114 : FL RX9 114 1 3 := ⟨RX1, TX1, 5, rfl, by decide, tI 46 (by decide +kernel) rfl, rfl, inX1⟩
theorem flX2_159 : FL RX2 159 1 3 := ⟨RX1, TX1, 5, rfl, by decide, tI 47 (by decide +kernel) rfl, rfl, inX1⟩
theorem flX1_21 : FL RX1 21 1 4 := ⟨RX1, TX1, 5, rfl, by decide, tI 48 (by decide +kernel) rfl, rfl, inX1⟩
theorem flX9_117 : FL RX9 117 1 4 := ⟨RX1, TX1, 5, rfl, by decide, tI 49 (by decide +kernel) rfl, rfl, inX1⟩
theorem flX2_166 : FL RX2 166 1 4 := ⟨RX1, TX1, 5, rfl, by decide, tI 50 (by decide +kernel) rfl, rfl, inX1⟩
theorem flX7_24 : FL RX7 24 7 0 := ⟨RX7, TX7, 5, rfl, by decide, tI 69 (by decide +kernel) rfl, rfl, inX7⟩
theorem fpX7_24 : FP RX7 24 7 0 .int := ⟨RX7, TX7, 5, tyX7, rfl, by decide, tI 69 (by decide +kernel) rfl, rfl, inX7, tyX7_ok, nmX7, rfl, by decide +kernel⟩
theorem flX5_39 : FL RX5 39 7 0 := ⟨RX7, TX7, 5, rfl, by decide, tI 70 (by decide +kernel) rfl, rfl, inX7⟩
theorem fpX5_39 : FP RX5 39 7 0 .int := ⟨RX7, TX7, 5, tyX7, rfl, by decide, tI 70 (by decide +kernel) rfl, rfl, inX7, tyX7_ok, nmX7, rfl, by decide +kernel⟩
theorem flX2_98 : FL RX2 98 7 0 := ⟨RX7, TX7, 5, rfl, by decide, tI 71 (by decide +kernel) rfl, rfl, inX7⟩
theorem fpX2_98 : FP RX2 98 7 0 .int := ⟨RX7, TX7, 5, tyX7, rfl, by decide, tI 71 (by decide +kernel) rfl, rfl, inX7, tyX7_ok, nmX7, rfl, by decide +kernel⟩
theorem flX9_146 : FL RX9 146 7 0 := ⟨RX7, TX7, 5, rfl, by decide, tI 72 (by decide +kernel) rfl, rfl, inX7⟩
theorem fpX9_146 : FP RX9 146 7 0 .int := ⟨RX7, TX7, 5, tyX7, rfl, by decide, tI 72 (by decide +kernel) rfl, rfl, inX7, tyX7_ok, nmX7, rfl, by decide +kernel⟩
theorem flX7_9 : FL RX7 9 7 1 := ⟨RX7, TX7, 5, rfl, by decide, tI 73 (by decide +kernel) rfl, rfl, inX7⟩
theorem flX2_122 : FL RX2 122 7 1 := ⟨RX7, TX7, 5, rfl, by decide, tI 74 (by decide +kernel) rfl, rfl, inX7⟩
theorem flX7_15 : FL RX7 15 7 2 := ⟨RX7, TX7, 5, rfl, by decide, tI 75 (by decide +kernel) rfl, rfl, inX7⟩
theorem flX2_110 : FL RX2 110 7 2 := ⟨RX7, TX7, 5, rfl, by decide, tI 76 (by decide +kernel) rfl, rfl, inX7⟩
theorem flX9_84 : FL RX9 84 7 2 := ⟨RX7, TX7, 5, rfl, by decide, tI 77 (by decide +kernel) rfl, rfl, inX7⟩
theorem flX7_18 : FL RX7 18 7 3 := ⟨RX7, TX7, 5, rfl, by decide, tI 78 (by decide +kernel) rfl, rfl, inX7⟩
theorem flX5_43 : FL RX5 43 7 3 := ⟨RX7, TX7, 5, rfl, by decide, tI 79 (by decide +kernel) rfl, rfl, inX7⟩
theorem flX7_21 : FL RX7 21 7 4 := ⟨RX7, TX7, 5, rfl, by decide, tI 80 (by decide +kernel) rfl, rfl, inX7⟩
theorem flX3_21 : FL RX3 21 3 0 := ⟨RX3, TX3, 4, rfl, by decide, tI 98 (by decide +kernel) rfl, rfl, inX3⟩
theorem fpX3_21 : FP RX3 21 3 0 .int := ⟨RX3, TX3, 4, tyX3, rfl, by decide, tI 98 (by decide +kernel) rfl, rfl, inX3, tyX3_ok, nmX3, rfl, by decide +kernel⟩
theorem flX9_147 : FL RX9 147 3 0 := ⟨RX3, TX3, 4, rfl, by decide, tI 99 (by decide +kernel) rfl, rfl, inX3⟩
theorem fpX9_147 : FP RX9 147 3 0 .int := ⟨RX3, TX3, 4, tyX3, rfl, by decide, tI 99 (by decide +kernel) rfl, rfl, inX3, tyX3_ok, nmX3, rfl, by decide +kernel⟩
theorem flX3_9 : FL RX3 9 3 1 := ⟨RX3, TX3, 4, rfl, by decide, tI 100 (by decide +kernel) rfl, rfl, inX3⟩
theorem flX3_15 : FL RX3 15 3 2 := ⟨RX3, TX3, 4, rfl, by decide, tI 101 (by decide +kernel) rfl, rfl, inX3⟩
theorem flX3_18 : FL RX3 18 3 3 := ⟨RX3, TX3, 4, rfl, by decide, tI 102 (by decide +kernel) rfl, rfl, inX3⟩
theorem flX6_18 : FL RX6 18 6 0 := ⟨RX6, TX6, 3, rfl, by decide, tI 118 (by decide +kernel) rfl, rfl, inX6⟩
theorem fpX6_18 : FP RX6 18 6 0 .int := ⟨RX6, TX6, 3, tyX6, rfl, by decide, tI 118 (by decide +kernel) rfl, rfl, inX6, tyX6_ok, nmX6, rfl, by decide +kernel⟩
theorem flX9_148 : FL RX9 148 6 0 := ⟨RX6, TX6, 3, rfl, by decide, tI 119 (by decide +kernel) rfl, rfl, inX6⟩
theorem fpX9_148 : FP RX9 148 6 0 .int := ⟨RX6, TX6, 3, tyX6, rfl, by decide, tI 119 (by decide +kernel) rfl, rfl, inX6, tyX6_ok, nmX6, rfl, by decide +kernel⟩
theorem flX6_9 : FL RX6 9 6 1 := ⟨RX6, TX6, 3, rfl, by decide, tI 120 (by decide +kernel) rfl, rfl, inX6⟩
theorem flX6_15 : FL RX6 15 6 2 := ⟨RX6, TX6, 3, rfl, by decide, tI 121 (by decide +kernel) rfl, rfl, inX6⟩
theorem flX5_12 : FL RX5 12 5 0 := ⟨RX5, TX5, 5, rfl, by decide, tI 129 (by decide +kernel) rfl, rfl, inX5⟩
theorem flX9_56 : FL RX9 56 5 0 := ⟨RX5, TX5, 5, rfl, by decide, tI 130 (by decide +kernel) rfl, rfl, inX5⟩
theorem flX2_142 : FL RX2 142 5 0 := ⟨RX5, TX5, 5, rfl, by decide, tI 131 (by decide +kernel) rfl, rfl, inX5⟩
theorem flX5_21 : FL RX5 21 5 1 := ⟨RX5, TX5, 5, rfl, by decide, tI 132 (by decide +kernel) rfl, rfl, inX5⟩
theorem flX2_94 : FL RX2 94 5 1 := ⟨RX5, TX5, 5, rfl, by decide, tI 133 (by decide +kernel) rfl, rfl, inX5⟩
theorem flX9_74 : FL RX9 74 5 1 := ⟨RX5, TX5, 5, rfl, by decide, tI 134 (by decide +kernel) rfl, rfl, inX5⟩
theorem flX5_28 : FL RX5 28 5 2 := ⟨RX5, TX5, 5, rfl, by decide, tI 135 (by decide +kernel) rfl, rfl, inX5⟩
theorem flX2_133 : FL RX2 133 5 2 := ⟨RX5, TX5, 5, rfl, by decide, tI 136 (by decide +kernel) rfl, rfl, inX5⟩
theorem flX9_88 : FL RX9 88 5 2 := ⟨RX5, TX5, 5, rfl, by decide, tI 137 (by decide +kernel) rfl, rfl, inX5⟩
theorem flX5_35 : FL RX5 35 5 3 := ⟨RX5, TX5, 5, rfl, by decide, tI 138 (by decide +kernel) rfl, rfl, inX5⟩
theorem flX2_84 : FL RX2 84 5 3 := ⟨RX5, TX5, 5, rfl, by decide, tI 139 (by decide +kernel) rfl, rfl, inX5⟩
theorem flX9_97 : FL RX9 97 5 3 := ⟨RX5, TX5, 5, rfl, by decide, tI 140 (by decide +kernel) rfl, rfl, inX5⟩
theorem flX5_51 : FL RX5 51 5 4 := ⟨RX5, TX5, 5, rfl, by decide, tI 141 (by decide +kernel) rfl, rfl, inX5⟩
theorem fpX5_51 : FP RX5 51 5 4 .int := ⟨RX5, TX5, 5, tyX5, rfl, by decide, tI 141 (by decide +kernel) rfl, rfl, inX5, tyX5_ok, nmX5, rfl, by decide +kernel⟩
theorem flX2_62 : FL RX2 62 5 4 := ⟨RX5, TX5, 5, rfl, by decide, tI 142 (by decide +kernel) rfl, rfl, inX5⟩
theorem fpX2_62 : FP RX2 62 5 4 .int := ⟨RX5, TX5, 5, tyX5, rfl, by decide, tI 142 (by decide +kernel) rfl, rfl, inX5, tyX5_ok, nmX5, rfl, by decide +kernel⟩
theorem flX9_104 : FL RX9 104 5 4 := ⟨RX5, TX5, 5, rfl, by decide, tI 143 (by decide +kernel) rfl, rfl, inX5⟩
theorem fpX9_104 : FP RX9 104 5 4 .int := ⟨RX5, TX5, 5, tyX5, rfl, by decide, tI 143 (by decide +kernel) rfl, rfl, inX5, tyX5_ok, nmX5, rfl, by decide +kernel⟩
theorem flX8_25 : FL RX8 25 8 0 := ⟨RX8, TX8, 5, rfl, by decide, tI 163 (by decide +kernel) rfl, rfl, inX8⟩
theorem fpX8_25 : FP RX8 25 8 0 .boolean := ⟨RX8, TX8, 5, tyX8, rfl, by decide, tI 163 (by decide +kernel) rfl, rfl, inX8, tyX8_ok, nmX8, rfl, by decide +kernel⟩
theorem flX2_78 : FL RX2 78 8 0 := ⟨RX8, TX8, 5, rfl, by decide, tI 164 (by decide +kernel) rfl, rfl, inX8⟩
theorem fpX2_78 : FP RX2 78 8 0 .boolean := ⟨RX8, TX8, 5, tyX8, rfl, by decide, tI 164 (by decide +kernel) rfl, rfl, inX8, tyX8_ok, nmX8, rfl, by decide +kernel⟩
theorem flX8_9 : FL RX8 9 8 1 := ⟨RX8, TX8, 5, rfl, by decide, tI 165 (by decide +kernel) rfl, rfl, inX8⟩
theorem flX2_113 : FL RX2 113 8 1 := ⟨RX8, TX8, 5, rfl, by decide, tI 166 (by decide +kernel) rfl, rfl, inX8⟩
theorem flX9_287 : FL RX9 287 8 1 := ⟨RX8, TX8, 5, rfl, by decide, tI 167 (by decide +kernel) rfl, rfl, inX8⟩
theorem flX8_15 : FL RX8 15 8 2 := ⟨RX8, TX8, 5, rfl, by decide, tI 168 (by decide +kernel) rfl, rfl, inX8⟩
theorem flX2_129 : FL RX2 129 8 2 := ⟨RX8, TX8, 5, rfl, by decide, tI 169 (by decide +kernel) rfl, rfl, inX8⟩
theorem flX8_19 : FL RX8 19 8 3 := ⟨RX8, TX8, 5, rfl, by decide, tI 170 (by decide +kernel) rfl, rfl, inX8⟩
theorem flX2_152 : FL RX2 152 8 3 := ⟨RX8, TX8, 5, rfl, by decide, tI 171 (by decide +kernel) rfl, rfl, inX8⟩
theorem flX8_22 : FL RX8 22 8 4 := ⟨RX8, TX8, 5, rfl, by decide, tI 172 (by decide +kernel) rfl, rfl, inX8⟩
theorem flX2_160 : FL RX2 160 8 4 := ⟨RX8, TX8, 5, rfl, by decide, tI 173 (by decide +kernel) rfl, rfl, inX8⟩
theorem mlX2_37 : SL RX2 37 mJ7_fill_53178 2 := ⟨mwJ7_fill_53178, tI 192 (by decide +kernel) rfl, tI 193 (by decide +kernel) rfl⟩
theorem flX2_29 : FL RX2 29 2 0 := ⟨RX2, TX2, 11, rfl, by decide, tI 195 (by decide +kernel) rfl, rfl, inX2⟩
theorem flX2_33 : FL RX2 33 2 1 := ⟨RX2, TX2, 11, rfl, by decide, tI 196 (by decide +kernel) rfl, rfl, inX2⟩
theorem flX2_43 : FL RX2 43 2 2 := ⟨RX2, TX2, 11, rfl, by decide, tI 197 (by decide +kernel) rfl, rfl, inX2⟩
theorem fpX2_43 : FP RX2 43 2 2 .int := ⟨RX2, TX2, 11, tyX2, rfl, by decide, tI 197 (by decide +kernel) rfl, rfl, inX2, tyX2_ok, nmX2, rfl, by decide +kernel⟩
theorem flX9_140 : FL RX9 140 2 2 := ⟨RX2, TX2, 11, rfl, by decide, tI 198 (by decide +kernel) rfl, rfl, inX2⟩
theorem fpX9_140 : FP RX9 140 2 2 .int := ⟨RX2, TX2, 11, tyX2, rfl, by decide, tI 198 (by decide +kernel) rfl, rfl, inX2, tyX2_ok, nmX2, rfl, by decide +kernel⟩
theorem flX2_47 : FL RX2 47 2 3 := ⟨RX2, TX2, 11, rfl, by decide, tI 199 (by decide +kernel) rfl, rfl, inX2⟩
theorem fpX2_47 : FP RX2 47 2 3 .int := ⟨RX2, TX2, 11, tyX2, rfl, by decide, tI 199 (by decide +kernel) rfl, rfl, inX2, tyX2_ok, nmX2, rfl, by decide +kernel⟩
theorem flX9_149 : FL RX9 149 2 3 := ⟨RX2, TX2, 11, rfl, by decide, tI 200 (by decide +kernel) rfl, rfl, inX2⟩
theorem fpX9_149 : FP RX9 149 2 3 .int := ⟨RX2, TX2, 11, tyX2, rfl, by decide, tI 200 (by decide +kernel) rfl, rfl, inX2, tyX2_ok, nmX2, rfl, by decide +kernel⟩
theorem flX2_50 : FL RX2 50 2 4 := ⟨RX2, TX2, 11, rfl, by decide, tI 201 (by decide +kernel) rfl, rfl, inX2⟩
theorem fpX2_50 : FP RX2 50 2 4 .int := ⟨RX2, TX2, 11, tyX2, rfl, by decide, tI 201 (by decide +kernel) rfl, rfl, inX2, tyX2_ok, nmX2, rfl, by decide +kernel⟩
theorem flX9_156 : FL RX9 156 2 4 := ⟨RX2, TX2, 11, rfl, by decide, tI 202 (by decide +kernel) rfl, rfl, inX2⟩
theorem fpX9_156 : FP RX9 156 2 4 .int := ⟨RX2, TX2, 11, tyX2, rfl, by decide, tI 202 (by decide +kernel) rfl, rfl, inX2, tyX2_ok, nmX2, rfl, by decide +kernel⟩
theorem flX2_53 : FL RX2 53 2 5 := ⟨RX2, TX2, 11, rfl, by decide, tI 203 (by decide +kernel) rfl, rfl, inX2⟩
theorem fpX2_53 : FP RX2 53 2 5 .int := ⟨RX2, TX2, 11, tyX2, rfl, by decide, tI 203 (by decide +kernel) rfl, rfl, inX2, tyX2_ok, nmX2, rfl, by decide +kernel⟩
theorem flX9_159 : FL RX9 159 2 5 := ⟨RX2, TX2, 11, rfl, by decide, tI 204 (by decide +kernel) rfl, rfl, inX2⟩
theorem fpX9_159 : FP RX9 159 2 5 .int := ⟨RX2, TX2, 11, tyX2, rfl, by decide, tI 204 (by decide +kernel) rfl, rfl, inX2, tyX2_ok, nmX2, rfl, by decide +kernel⟩
theorem flX2_9 : FL RX2 9 2 6 := ⟨RX2, TX2, 11, rfl, by decide, tI 205 (by decide +kernel) rfl, rfl, inX2⟩
theorem flX9_120 : FL RX9 120 2 6 := ⟨RX2, TX2, 11, rfl, by decide, tI 206 (by decide +kernel) rfl, rfl, inX2⟩
theorem flX2_15 : FL RX2 15 2 7 := ⟨RX2, TX2, 11, rfl, by decide, tI 207 (by decide +kernel) rfl, rfl, inX2⟩
theorem flX9_123 : FL RX9 123 2 7 := ⟨RX2, TX2, 11, rfl, by decide, tI 208 (by decide +kernel) rfl, rfl, inX2⟩
theorem flX2_18 : FL RX2 18 2 8 := ⟨RX2, TX2, 11, rfl, by decide, tI 209 (by decide +kernel) rfl, rfl, inX2⟩
theorem flX9_126 : FL RX9 126 2 8 := ⟨RX2, TX2, 11, rfl, by decide, tI 210 (by decide +kernel) rfl, rfl, inX2⟩
theorem flX2_21 : FL RX2 21 2 9 := ⟨RX2, TX2, 11, rfl, by decide, tI 211 (by decide +kernel) rfl, rfl, inX2⟩
theorem flX9_129 : FL RX9 129 2 9 := ⟨RX2, TX2, 11, rfl, by decide, tI 212 (by decide +kernel) rfl, rfl, inX2⟩
theorem flX2_26 : FL RX2 26 2 10 := ⟨RX2, TX2, 11, rfl, by decide, tI 213 (by decide +kernel) rfl, rfl, inX2⟩
theorem flX9_132 : FL RX9 132 2 10 := ⟨RX2, TX2, 11, rfl, by decide, tI 214 (by decide +kernel) rfl, rfl, inX2⟩
theorem flX4_19 : FL RX4 19 4 0 := ⟨RX4, TX4, 3, rfl, by decide, tI 244 (by decide +kernel) rfl, rfl, inX4⟩
theorem fpX4_19 : FP RX4 19 4 0 .int := ⟨RX4, TX4, 3, tyX4, rfl, by decide, tI 244 (by decide +kernel) rfl, rfl, inX4, tyX4_ok, nmX4, rfl, by decide +kernel⟩
theorem flX9_162 : FL RX9 162 4 0 := ⟨RX4, TX4, 3, rfl, by decide, tI 245 (by decide +kernel) rfl, rfl, inX4⟩
theorem fpX9_162 : FP RX9 162 4 0 .int := ⟨RX4, TX4, 3, tyX4, rfl, by decide, tI 245 (by decide +kernel) rfl, rfl, inX4, tyX4_ok, nmX4, rfl, by decide +kernel⟩
theorem flX4_9 : FL RX4 9 4 1 := ⟨RX4, TX4, 3, rfl, by decide, tI 246 (by decide +kernel) rfl, rfl, inX4⟩
theorem flX4_15 : FL RX4 15 4 2 := ⟨RX4, TX4, 3, rfl, by decide, tI 247 (by decide +kernel) rfl, rfl, inX4⟩
theorem flX0_9 : FL RX0 9 0 0 := ⟨RX0, TX0, 3, rfl, by decide, tI 262 (by decide +kernel) rfl, rfl, inX0⟩
theorem fpX0_9 : FP RX0 9 0 0 .int := ⟨RX0, TX0, 3, tyX0, rfl, by decide, tI 262 (by decide +kernel) rfl, rfl, inX0, tyX0_ok, nmX0, rfl, by decide +kernel⟩
theorem flX9_211 : FL RX9 211 0 0 := ⟨RX0, TX0, 3, rfl, by decide, tI 263 (by decide +kernel) rfl, rfl, inX0⟩
theorem fpX9_211 : FP RX9 211 0 0 .int := ⟨RX0, TX0, 3, tyX0, rfl, by decide, tI 263 (by decide +kernel) rfl, rfl, inX0, tyX0_ok, nmX0, rfl, by decide +kernel⟩
theorem flX0_15 : FL RX0 15 0 1 := ⟨RX0, TX0, 3, rfl, by decide, tI 264 (by decide +kernel) rfl, rfl, inX0⟩
theorem fpX0_15 : FP RX0 15 0 1 .int := ⟨RX0, TX0, 3, tyX0, rfl, by decide, tI 264 (by decide +kernel) rfl, rfl, inX0, tyX0_ok, nmX0, rfl, by decide +kernel⟩
theorem flX9_221 : FL RX9 221 0 1 := ⟨RX0, TX0, 3, rfl, by decide, tI 265 (by decide +kernel) rfl, rfl, inX0⟩
theorem fpX9_221 : FP RX9 221 0 1 .int := ⟨RX0, TX0, 3, tyX0, rfl, by decide, tI 265 (by decide +kernel) rfl, rfl, inX0, tyX0_ok, nmX0, rfl, by decide +kernel⟩
theorem flX0_18 : FL RX0 18 0 2 := ⟨RX0, TX0, 3, rfl, by decide, tI 266 (by decide +kernel) rfl, rfl, inX0⟩
theorem fpX0_18 : FP RX0 18 0 2 .int := ⟨RX0, TX0, 3, tyX0, rfl, by decide, tI 266 (by decide +kernel) rfl, rfl, inX0, tyX0_ok, nmX0, rfl, by decide +kernel⟩
theorem flX9_224 : FL RX9 224 0 2 := ⟨RX0, TX0, 3, rfl, by decide, tI 267 (by decide +kernel) rfl, rfl, inX0⟩
theorem fpX9_224 : FP RX9 224 0 2 .int := ⟨RX0, TX0, 3, tyX0, rfl, by decide, tI 267 (by decide +kernel) rfl, rfl, inX0, tyX0_ok, nmX0, rfl, by decide +kernel⟩
theorem flX9_12 : FL RX9 12 9 0 := ⟨RX9, TX9, 7, rfl, by decide, tI 275 (by decide +kernel) rfl, rfl, inX9⟩
theorem flX9_24 : FL RX9 24 9 1 := ⟨RX9, TX9, 7, rfl, by decide, tI 276 (by decide +kernel) rfl, rfl, inX9⟩
theorem flX9_28 : FL RX9 28 9 2 := ⟨RX9, TX9, 7, rfl, by decide, tI 277 (by decide +kernel) rfl, rfl, inX9⟩
theorem flX9_32 : FL RX9 32 9 3 := ⟨RX9, TX9, 7, rfl, by decide, tI 278 (by decide +kernel) rfl, rfl, inX9⟩
theorem flX9_35 : FL RX9 35 9 4 := ⟨RX9, TX9, 7, rfl, by decide, tI 279 (by decide +kernel) rfl, rfl, inX9⟩
theorem flX9_41 : FL RX9 41 9 5 := ⟨RX9, TX9, 7, rfl, by decide, tI 280 (by decide +kernel) rfl, rfl, inX9⟩
theorem flX9_48 : FL RX9 48 9 6 := ⟨RX9, TX9, 7, rfl, by decide, tI 281 (by decide +kernel) rfl, rfl, inX9⟩
theorem mlL_13 : VL RL 13 RX9 mX9_bucket 2 := ⟨mwX9_bucket, tI 297 (by decide +kernel) rfl, tI 298 (by decide +kernel) rfl, tI 299 (by decide +kernel) rfl⟩
theorem mlX9_52 : SL RX9 52 mX9_within 3 := ⟨mwX9_within, tI 301 (by decide +kernel) rfl, tI 302 (by decide +kernel) rfl⟩
theorem mlX9_60 : VL RX9 60 RX1 mX1_add 2 := ⟨mwX1_add, tI 304 (by decide +kernel) rfl, tI 305 (by decide +kernel) rfl, tI 306 (by decide +kernel) rfl⟩
theorem mlL_18 : VL RL 18 RX9 mX9_pipe 3 := ⟨mwX9_pipe, tI 308 (by decide +kernel) rfl, tI 309 (by decide +kernel) rfl, tI 310 (by decide +kernel) rfl⟩
theorem mlX9_66 : VL RX9 66 RX1 mX1_has 1 := ⟨mwX1_has, tI 312 (by decide +kernel) rfl, tI 313 (by decide +kernel) rfl, tI 314 (by decide +kernel) rfl⟩
theorem mlX9_70 : VL RX9 70 RX1 mX1_lead 3 := ⟨mwX1_lead, tI 316 (by decide +kernel) rfl, tI 317 (by decide +kernel) rfl, tI 318 (by decide +kernel) rfl⟩
theorem mlL_23 : VL RL 23 RX9 mX9_spout 4 := ⟨mwX9_spout, tI 320 (by decide +kernel) rfl, tI 321 (by decide +kernel) rfl, tI 322 (by decide +kernel) rfl⟩
theorem mlX9_78 : VL RX9 78 RX7 mX7_add 4 := ⟨mwX7_add, tI 324 (by decide +kernel) rfl, tI 325 (by decide +kernel) rfl, tI 326 (by decide +kernel) rfl⟩
theorem mlL_28 : VL RL 28 RX9 mX9_turn 2 := ⟨mwX9_turn, tI 328 (by decide +kernel) rfl, tI 329 (by decide +kernel) rfl, tI 330 (by decide +kernel) rfl⟩
theorem mlX9_83 : VL RX9 83 RX7 mX7_has 1 := ⟨mwX7_has, tI 332 (by decide +kernel) rfl, tI 333 (by decide +kernel) rfl, tI 334 (by decide +kernel) rfl⟩
theorem mlL_32 : VL RL 32 RX9 mX9_frog 3 := ⟨mwX9_frog, tI 336 (by decide +kernel) rfl, tI 337 (by decide +kernel) rfl, tI 338 (by decide +kernel) rfl⟩
theorem mlX9_92 : VL RX9 92 RX3 mX3_add 3 := ⟨mwX3_add, tI 340 (by decide +kernel) rfl, tI 341 (by decide +kernel) rfl, tI 342 (by decide +kernel) rfl⟩
theorem mlL_36 : VL RL 36 RX9 mX9_weather 2 := ⟨mwX9_weather, tI 344 (by decide +kernel) rfl, tI 345 (by decide +kernel) rfl, tI 346 (by decide +kernel) rfl⟩
theorem mlX9_101 : VL RX9 101 RX6 mX6_add 2 := ⟨mwX6_add, tI 348 (by decide +kernel) rfl, tI 349 (by decide +kernel) rfl, tI 350 (by decide +kernel) rfl⟩
theorem mlL_40 : VL RL 40 RX9 mX9_dry 1 := ⟨mwX9_dry, tI 352 (by decide +kernel) rfl, tI 353 (by decide +kernel) rfl, tI 354 (by decide +kernel) rfl⟩
theorem mlL_45 : VL RL 45 RX9 mX9_told 2 := ⟨mwX9_told, tI 356 (by decide +kernel) rfl, tI 357 (by decide +kernel) rfl, tI 358 (by decide +kernel) rfl⟩
theorem mlX9_136 : SL RX9 136 mX9_sum 1 := ⟨mwX9_sum, tI 360 (by decide +kernel) rfl, tI 361 (by decide +kernel) rfl⟩
theorem mlL_49 : VL RL 49 RX9 mX9_count 1 := ⟨mwX9_count, tI 363 (by decide +kernel) rfl, tI 364 (by decide +kernel) rfl, tI 365 (by decide +kernel) rfl⟩
theorem mlX9_152 : VL RX9 152 RX2 mX2_inPipes 0 := ⟨mwX2_inPipes, tI 367 (by decide +kernel) rfl, tI 368 (by decide +kernel) rfl, tI 369 (by decide +kernel) rfl⟩
theorem mlX2_172 : SN RX2 172 "TickGarden" mX9_sum 1 := ⟨mwX9_sum, by decide +kernel, tI 361 (by decide +kernel) rfl⟩
theorem mlL_53 : VL RL 53 RX9 mX9_tick 1 := ⟨mwX9_tick, tI 372 (by decide +kernel) rfl, tI 373 (by decide +kernel) rfl, tI 374 (by decide +kernel) rfl⟩
theorem mlX9_163 : VL RX9 163 RX2 mX2_step 0 := ⟨mwX2_step, tI 376 (by decide +kernel) rfl, tI 377 (by decide +kernel) rfl, tI 378 (by decide +kernel) rfl⟩
theorem mlX2_56 : VL RX2 56 RX2 mX2_takeDrips 0 := ⟨mwX2_takeDrips, tI 380 (by decide +kernel) rfl, tI 382 (by decide +kernel) rfl, sI 0 (by decide +kernel) rfl⟩
theorem mlX2_88 : VL RX2 88 RX6 mX6_wetAt 1 := ⟨mwX6_wetAt, tI 384 (by decide +kernel) rfl, tI 385 (by decide +kernel) rfl, tI 386 (by decide +kernel) rfl⟩
theorem mlX6_22 : SN RX6 22 "TickGarden" mX9_within 3 := ⟨mwX9_within, by decide +kernel, tI 302 (by decide +kernel) rfl⟩
theorem mlX2_103 : VL RX2 103 RX7 mX7_isDue 2 := ⟨mwX7_isDue, tI 389 (by decide +kernel) rfl, tI 390 (by decide +kernel) rfl, tI 391 (by decide +kernel) rfl⟩
theorem mlX7_28 : SN RX7 28 "TickGarden" mX9_goesInto 2 := ⟨mwX9_goesInto, by decide +kernel, tI 394 (by decide +kernel) rfl⟩
theorem mlX2_106 : VL RX2 106 RX2 mX2_isHeldBack 1 := ⟨mwX2_isHeldBack, tI 396 (by decide +kernel) rfl, tI 398 (by decide +kernel) rfl, sI 1 (by decide +kernel) rfl⟩
theorem mlX2_137 : VL RX2 137 RX3 mX3_sitOn 2 := ⟨mwX3_sitOn, tI 400 (by decide +kernel) rfl, tI 401 (by decide +kernel) rfl, tI 402 (by decide +kernel) rfl⟩
theorem mlX2_116 : SL RX2 116 mJ9_max_7cf53 2 := ⟨mwJ9_max_7cf53, tI 404 (by decide +kernel) rfl, tI 405 (by decide +kernel) rfl⟩
theorem mlX2_125 : VL RX2 125 RX2 mX2_pour 2 := ⟨mwX2_pour, tI 407 (by decide +kernel) rfl, tI 409 (by decide +kernel) rfl, sI 2 (by decide +kernel) rfl⟩
theorem mlX2_59 : VL RX2 59 RX2 mX2_takeFromPipes 0 := ⟨mwX2_takeFromPipes, tI 411 (by decide +kernel) rfl, tI 413 (by decide +kernel) rfl, sI 3 (by decide +kernel) rfl⟩
theorem mlX2_67 : SN RX2 67 "TickGarden" mX9_goesInto 2 := ⟨mwX9_goesInto, by decide +kernel, tI 394 (by decide +kernel) rfl⟩
theorem mlX2_71 : VL RX2 71 RX2 mX2_dryUp 0 := ⟨mwX2_dryUp, tI 416 (by decide +kernel) rfl, tI 418 (by decide +kernel) rfl, sI 4 (by decide +kernel) rfl⟩
theorem mlX2_74 : VL RX2 74 RX2 mX2_tipAll 0 := ⟨mwX2_tipAll, tI 420 (by decide +kernel) rfl, tI 422 (by decide +kernel) rfl, sI 5 (by decide +kernel) rfl⟩
theorem mlX2_155 : VL RX2 155 RX2 mX2_tip 1 := ⟨mwX2_tip, tI 424 (by decide +kernel) rfl, tI 426 (by decide +kernel) rfl, sI 6 (by decide +kernel) rfl⟩
theorem mlX2_163 : VL RX2 163 RX1 mX1_has 1 := ⟨mwX1_has, tI 428 (by decide +kernel) rfl, tI 313 (by decide +kernel) rfl, tI 314 (by decide +kernel) rfl⟩
theorem mlX9_166 : SL RX9 166 mJ6_bitCount_0f7a4 1 := ⟨mwJ6_bitCount_0f7a4, tI 429 (by decide +kernel) rfl, tI 430 (by decide +kernel) rfl⟩
theorem kcJ6_265 : KI RJ6 265 (1431655765) := tI 432 (by decide +kernel) rfl
theorem kcJ6_266 : KI RJ6 266 (858993459) := tI 433 (by decide +kernel) rfl
theorem kcJ6_267 : KI RJ6 267 (252645135) := tI 434 (by decide +kernel) rfl
theorem mlL_57 : VL RL 57 RX9 mX9_again 0 := ⟨mwX9_again, tI 435 (by decide +kernel) rfl, tI 436 (by decide +kernel) rfl, tI 437 (by decide +kernel) rfl⟩
theorem mlX9_172 : VL RX9 172 RX2 mX2_begin 0 := ⟨mwX2_begin, tI 439 (by decide +kernel) rfl, tI 440 (by decide +kernel) rfl, tI 441 (by decide +kernel) rfl⟩
theorem mlL_62 : VL RL 62 RX9 mX9_row 2 := ⟨mwX9_row, tI 443 (by decide +kernel) rfl, tI 444 (by decide +kernel) rfl, tI 445 (by decide +kernel) rfl⟩
theorem kcX9_175 : KL RX9 175 (-1001) := tI 447 (by decide +kernel) rfl
theorem mlX9_177 : VL RX9 177 RX8 mX8_reset 1 := ⟨mwX8_reset, tI 448 (by decide +kernel) rfl, tI 449 (by decide +kernel) rfl, tI 450 (by decide +kernel) rfl⟩
theorem mlL_67 : VL RL 67 RX9 mX9_round 1 := ⟨mwX9_round, tI 452 (by decide +kernel) rfl, tI 453 (by decide +kernel) rfl, tI 454 (by decide +kernel) rfl⟩
theorem mlX9_181 : VL RX9 181 RX9 mX9_roundLength 0 := ⟨mwX9_roundLength, tI 456 (by decide +kernel) rfl, tI 458 (by decide +kernel) rfl, sI 7 (by decide +kernel) rfl⟩
theorem mlX9_238 : VL RX9 238 RX9 mX9_runPlain 2 := ⟨mwX9_runPlain, tI 460 (by decide +kernel) rfl, tI 462 (by decide +kernel) rfl, sI 8 (by decide +kernel) rfl⟩
theorem mlX9_242 : VL RX9 242 RX5 mX5_isBeat 1 := ⟨mwX5_isBeat, tI 464 (by decide +kernel) rfl, tI 465 (by decide +kernel) rfl, tI 466 (by decide +kernel) rfl⟩
theorem mlX5_47 : SN RX5 47 "TickGarden" mX9_goesInto 2 := ⟨mwX9_goesInto, by decide +kernel, tI 394 (by decide +kernel) rfl⟩
theorem mlX9_245 : VL RX9 245 RX2 mX2_isLike 1 := ⟨mwX2_isLike, tI 469 (by decide +kernel) rfl, tI 470 (by decide +kernel) rfl, tI 471 (by decide +kernel) rfl⟩
theorem mlX2_176 : VL RX2 176 RX2 mX2_hasComing 2 := ⟨mwX2_hasComing, tI 473 (by decide +kernel) rfl, tI 475 (by decide +kernel) rfl, sI 9 (by decide +kernel) rfl⟩
theorem mlX9_184 : VL RX9 184 RX9 mX9_roundStart 1 := ⟨mwX9_roundStart, tI 477 (by decide +kernel) rfl, tI 479 (by decide +kernel) rfl, sI 10 (by decide +kernel) rfl⟩
theorem mlL_71 : VL RL 71 RX9 mX9_meeting 2 := ⟨mwX9_meeting, tI 481 (by decide +kernel) rfl, tI 482 (by decide +kernel) rfl, tI 483 (by decide +kernel) rfl⟩
theorem mlL_77 : VL RL 77 RX9 mX9_drip 4 := ⟨mwX9_drip, tI 485 (by decide +kernel) rfl, tI 486 (by decide +kernel) rfl, tI 487 (by decide +kernel) rfl⟩
theorem mlX9_187 : SL RX9 187 mX9_isRow 1 := ⟨mwX9_isRow, tI 489 (by decide +kernel) rfl, tI 490 (by decide +kernel) rfl⟩
theorem kcX9_236 : KL RX9 236 (-1152921504606846976) := tI 492 (by decide +kernel) rfl
theorem mlX9_191 : SL RX9 191 mX9_loneRow 4 := ⟨mwX9_loneRow, tI 493 (by decide +kernel) rfl, tI 494 (by decide +kernel) rfl⟩
theorem mlX9_249 : SL RX9 249 mX9_goesInto 2 := ⟨mwX9_goesInto, tI 496 (by decide +kernel) rfl, tI 394 (by decide +kernel) rfl⟩
theorem mlX9_195 : SL RX9 195 mX9_offOf 2 := ⟨mwX9_offOf, tI 497 (by decide +kernel) rfl, tI 498 (by decide +kernel) rfl⟩
theorem kcX9_253 : KL RX9 253 (1152921504606846975) := tI 500 (by decide +kernel) rfl
theorem mlX9_255 : SL RX9 255 mJ13_bitCount_95d88 1 := ⟨mwJ13_bitCount_95d88, tI 501 (by decide +kernel) rfl, tI 502 (by decide +kernel) rfl⟩
theorem kcJ13_314 : KL RJ13 314 (6148914691236517205) := tI 504 (by decide +kernel) rfl
theorem kcJ13_316 : KL RJ13 316 (3689348814741910323) := tI 505 (by decide +kernel) rfl
theorem kcJ13_318 : KL RJ13 318 (1085102592571150095) := tI 506 (by decide +kernel) rfl
theorem mlX9_260 : SL RX9 260 mJ9_abs_0f7a4 1 := ⟨mwJ9_abs_0f7a4, tI 507 (by decide +kernel) rfl, tI 508 (by decide +kernel) rfl⟩
theorem mlX9_265 : SL RX9 265 mJ9_min_7cf53 2 := ⟨mwJ9_min_7cf53, tI 510 (by decide +kernel) rfl, tI 511 (by decide +kernel) rfl⟩
theorem mlL_82 : VL RL 82 RX9 mX9_hear 2 := ⟨mwX9_hear, tI 513 (by decide +kernel) rfl, tI 514 (by decide +kernel) rfl, tI 515 (by decide +kernel) rfl⟩
theorem mlX9_199 : VL RX9 199 RX4 mX4_note 2 := ⟨mwX4_note, tI 517 (by decide +kernel) rfl, tI 518 (by decide +kernel) rfl, tI 519 (by decide +kernel) rfl⟩
theorem mlL_87 : VL RL 87 RX9 mX9_hush 0 := ⟨mwX9_hush, tI 521 (by decide +kernel) rfl, tI 522 (by decide +kernel) rfl, tI 523 (by decide +kernel) rfl⟩
theorem mlX9_203 : VL RX9 203 RX4 mX4_forget 0 := ⟨mwX4_forget, tI 525 (by decide +kernel) rfl, tI 526 (by decide +kernel) rfl, tI 527 (by decide +kernel) rfl⟩
theorem mlL_91 : VL RL 91 RX9 mX9_blamed 1 := ⟨mwX9_blamed, tI 529 (by decide +kernel) rfl, tI 530 (by decide +kernel) rfl, tI 531 (by decide +kernel) rfl⟩
theorem mlX9_206 : VL RX9 206 RX0 mX0_forget 0 := ⟨mwX0_forget, tI 533 (by decide +kernel) rfl, tI 534 (by decide +kernel) rfl, tI 535 (by decide +kernel) rfl⟩
theorem mlX9_207 : VL RX9 207 RX9 mX9_tryFaults 2 := ⟨mwX9_tryFaults, tI 537 (by decide +kernel) rfl, tI 539 (by decide +kernel) rfl, sI 11 (by decide +kernel) rfl⟩
theorem mlX9_271 : VL RX9 271 RX8 mX8_fail 1 := ⟨mwX8_fail, tI 541 (by decide +kernel) rfl, tI 542 (by decide +kernel) rfl, tI 543 (by decide +kernel) rfl⟩
theorem mlX8_29 : SN RX8 29 "TickGarden" mX9_within 3 := ⟨mwX9_within, by decide +kernel, tI 302 (by decide +kernel) rfl⟩
theorem mlX9_275 : VL RX9 275 RX4 mX4_agrees 2 := ⟨mwX4_agrees, tI 546 (by decide +kernel) rfl, tI 547 (by decide +kernel) rfl, tI 548 (by decide +kernel) rfl⟩
theorem mlX9_278 : VL RX9 278 RX0 mX0_add 2 := ⟨mwX0_add, tI 550 (by decide +kernel) rfl, tI 551 (by decide +kernel) rfl, tI 552 (by decide +kernel) rfl⟩
theorem mlX9_212 : VL RX9 212 RX9 mX9_trySingleFaults 0 := ⟨mwX9_trySingleFaults, tI 554 (by decide +kernel) rfl, tI 556 (by decide +kernel) rfl, sI 12 (by decide +kernel) rfl⟩
theorem mlX9_268 : VL RX9 268 RX5 mX5_canFail 1 := ⟨mwX5_canFail, tI 558 (by decide +kernel) rfl, tI 559 (by decide +kernel) rfl, tI 560 (by decide +kernel) rfl⟩
theorem mlX5_54 : VL RX5 54 RX7 mX7_has 1 := ⟨mwX7_has, tI 562 (by decide +kernel) rfl, tI 333 (by decide +kernel) rfl, tI 334 (by decide +kernel) rfl⟩
theorem mlX5_58 : VL RX5 58 RX1 mX1_has 1 := ⟨mwX1_has, tI 563 (by decide +kernel) rfl, tI 313 (by decide +kernel) rfl, tI 314 (by decide +kernel) rfl⟩
theorem mlX9_215 : VL RX9 215 RX9 mX9_tryPairsOfFaults 0 := ⟨mwX9_tryPairsOfFaults, tI 564 (by decide +kernel) rfl, tI 566 (by decide +kernel) rfl, sI 13 (by decide +kernel) rfl⟩
theorem mlX9_218 : VL RX9 218 RX0 mX0_faultsInEach 0 := ⟨mwX0_faultsInEach, tI 568 (by decide +kernel) rfl, tI 569 (by decide +kernel) rfl, tI 570 (by decide +kernel) rfl⟩
theorem mlL_95 : VL RL 95 RX9 mX9_mended 4 := ⟨mwX9_mended, tI 572 (by decide +kernel) rfl, tI 573 (by decide +kernel) rfl, tI 574 (by decide +kernel) rfl⟩
theorem mlX9_227 : VL RX9 227 RX9 mX9_leastWay 3 := ⟨mwX9_leastWay, tI 576 (by decide +kernel) rfl, tI 578 (by decide +kernel) rfl, sI 14 (by decide +kernel) rfl⟩
theorem mlX9_230 : SL RX9 230 mX9_sizeOf 1 := ⟨mwX9_sizeOf, tI 580 (by decide +kernel) rfl, tI 581 (by decide +kernel) rfl⟩
theorem mlX9_233 : SL RX9 233 mX9_changeIn 2 := ⟨mwX9_changeIn, tI 583 (by decide +kernel) rfl, tI 584 (by decide +kernel) rfl⟩
theorem mlX9_280 : VL RX9 280 RX9 mX9_isOpen 1 := ⟨mwX9_isOpen, tI 586 (by decide +kernel) rfl, tI 588 (by decide +kernel) rfl, sI 15 (by decide +kernel) rfl⟩
theorem mlX9_283 : VL RX9 283 RX9 mX9_knocksJust 4 := ⟨mwX9_knocksJust, tI 590 (by decide +kernel) rfl, tI 592 (by decide +kernel) rfl, sI 16 (by decide +kernel) rfl⟩
theorem kcX10_78 : KI RX10 78 (352176) := tI 600 (by decide +kernel) rfl
theorem flX10_92 : FL RX10 92 10 0 := ⟨RX10, TX10, 36, rfl, by decide, tI 601 (by decide +kernel) rfl, rfl, inX10⟩
theorem fpX10_92 : FP RX10 92 10 0 .int := ⟨RX10, TX10, 36, tyX10, rfl, by decide, tI 601 (by decide +kernel) rfl, rfl, inX10, tyX10_ok, nmX10, rfl, by decide +kernel⟩
theorem flX10_7 : FL RX10 7 10 1 := ⟨RX10, TX10, 36, rfl, by decide, tI 602 (by decide +kernel) rfl, rfl, inX10⟩
theorem flX10_13 : FL RX10 13 10 2 := ⟨RX10, TX10, 36, rfl, by decide, tI 603 (by decide +kernel) rfl, rfl, inX10⟩
theorem flX10_16 : FL RX10 16 10 3 := ⟨RX10, TX10, 36, rfl, by decide, tI 604 (by decide +kernel) rfl, rfl, inX10⟩
theorem flX10_19 : FL RX10 19 10 4 := ⟨RX10, TX10, 36, rfl, by decide, tI 605 (by decide +kernel) rfl, rfl, inX10⟩
theorem flX10_99 : FL RX10 99 10 5 := ⟨RX10, TX10, 36, rfl, by decide, tI 606 (by decide +kernel) rfl, rfl, inX10⟩
theorem fpX10_99 : FP RX10 99 10 5 .int := ⟨RX10, TX10, 36, tyX10, rfl, by decide, tI 606 (by decide +kernel) rfl, rfl, inX10, tyX10_ok, nmX10, rfl, by decide +kernel⟩
theorem flX10_22 : FL RX10 22 10 6 := ⟨RX10, TX10, 36, rfl, by decide, tI 607 (by decide +kernel) rfl, rfl, inX10⟩
theorem flX10_25 : FL RX10 25 10 7 := ⟨RX10, TX10, 36, rfl, by decide, tI 608 (by decide +kernel) rfl, rfl, inX10⟩
theorem flX10_28 : FL RX10 28 10 8 := ⟨RX10, TX10, 36, rfl, by decide, tI 609 (by decide +kernel) rfl, rfl, inX10⟩
theorem flX10_31 : FL RX10 31 10 9 := ⟨RX10, TX10, 36, rfl, by decide, tI 610 (by decide +kernel) rfl, rfl, inX10⟩
theorem flX10_117 : FL RX10 117 10 10 := ⟨RX10, TX10, 36, rfl, by decide, tI 611 (by decide +kernel) rfl, rfl, inX10⟩
theorem fpX10_117 : FP RX10 117 10 10 .int := ⟨RX10, TX10, 36, tyX10, rfl, by decide, tI 611 (by decide +kernel) rfl, rfl, inX10, tyX10_ok, nmX10, rfl, by decide +kernel⟩
theorem flX10_34 : FL RX10 34 10 11 := ⟨RX10, TX10, 36, rfl, by decide, tI 612 (by decide +kernel) rfl, rfl, inX10⟩
theorem flX10_37 : FL RX10 37 10 12 := ⟨RX10, TX10, 36, rfl, by decide, tI 613 (by decide +kernel) rfl, rfl, inX10⟩
theorem flX10_40 : FL RX10 40 10 13 := ⟨RX10, TX10, 36, rfl, by decide, tI 614 (by decide +kernel) rfl, rfl, inX10⟩
theorem flX10_122 : FL RX10 122 10 14 := ⟨RX10, TX10, 36, rfl, by decide, tI 615 (by decide +kernel) rfl, rfl, inX10⟩
theorem fpX10_122 : FP RX10 122 10 14 .int := ⟨RX10, TX10, 36, tyX10, rfl, by decide, tI 615 (by decide +kernel) rfl, rfl, inX10, tyX10_ok, nmX10, rfl, by decide +kernel⟩
theorem flX10_43 : FL RX10 43 10 15 := ⟨RX10, TX10, 36, rfl, by decide, tI 616 (by decide +kernel) rfl, rfl, inX10⟩
theorem flX10_46 : FL RX10 46 10 16 := ⟨RX10, TX10, 36, rfl, by decide, tI 617 (by decide +kernel) rfl, rfl, inX10⟩
theorem flX10_127 : FL RX10 127 10 17 := ⟨RX10, TX10, 36, rfl, by decide, tI 618 (by decide +kernel) rfl, rfl, inX10⟩
theorem fpX10_127 : FP RX10 127 10 17 .int := ⟨RX10, TX10, 36, tyX10, rfl, by decide, tI 618 (by decide +kernel) rfl, rfl, inX10, tyX10_ok, nmX10, rfl, by decide +kernel⟩
theorem flX10_49 : FL RX10 49 10 18 := ⟨RX10, TX10, 36, rfl, by decide, tI 619 (by decide +kernel) rfl, rfl, inX10⟩
theorem flX10_52 : FL RX10 52 10 19 := ⟨RX10, TX10, 36, rfl, by decide, tI 620 (by decide +kernel) rfl, rfl, inX10⟩
theorem flX10_55 : FL RX10 55 10 20 := ⟨RX10, TX10, 36, rfl, by decide, tI 621 (by decide +kernel) rfl, rfl, inX10⟩
theorem flX10_162 : FL RX10 162 10 21 := ⟨RX10, TX10, 36, rfl, by decide, tI 622 (by decide +kernel) rfl, rfl, inX10⟩
theorem fpX10_162 : FP RX10 162 10 21 .int := ⟨RX10, TX10, 36, tyX10, rfl, by decide, tI 622 (by decide +kernel) rfl, rfl, inX10, tyX10_ok, nmX10, rfl, by decide +kernel⟩
theorem flX10_168 : FL RX10 168 10 22 := ⟨RX10, TX10, 36, rfl, by decide, tI 623 (by decide +kernel) rfl, rfl, inX10⟩
theorem fpX10_168 : FP RX10 168 10 22 .int := ⟨RX10, TX10, 36, tyX10, rfl, by decide, tI 623 (by decide +kernel) rfl, rfl, inX10, tyX10_ok, nmX10, rfl, by decide +kernel⟩
theorem flX10_148 : FL RX10 148 10 23 := ⟨RX10, TX10, 36, rfl, by decide, tI 624 (by decide +kernel) rfl, rfl, inX10⟩
theorem fpX10_148 : FP RX10 148 10 23 .int := ⟨RX10, TX10, 36, tyX10, rfl, by decide, tI 624 (by decide +kernel) rfl, rfl, inX10, tyX10_ok, nmX10, rfl, by decide +kernel⟩
theorem flX10_141 : FL RX10 141 10 24 := ⟨RX10, TX10, 36, rfl, by decide, tI 625 (by decide +kernel) rfl, rfl, inX10⟩
theorem fpX10_141 : FP RX10 141 10 24 .int := ⟨RX10, TX10, 36, tyX10, rfl, by decide, tI 625 (by decide +kernel) rfl, rfl, inX10, tyX10_ok, nmX10, rfl, by decide +kernel⟩
theorem flX10_155 : FL RX10 155 10 25 := ⟨RX10, TX10, 36, rfl, by decide, tI 626 (by decide +kernel) rfl, rfl, inX10⟩
theorem fpX10_155 : FP RX10 155 10 25 .int := ⟨RX10, TX10, 36, tyX10, rfl, by decide, tI 626 (by decide +kernel) rfl, rfl, inX10, tyX10_ok, nmX10, rfl, by decide +kernel⟩
theorem flX10_58 : FL RX10 58 10 26 := ⟨RX10, TX10, 36, rfl, by decide, tI 627 (by decide +kernel) rfl, rfl, inX10⟩
theorem flX10_61 : FL RX10 61 10 27 := ⟨RX10, TX10, 36, rfl, by decide, tI 628 (by decide +kernel) rfl, rfl, inX10⟩
theorem flX10_64 : FL RX10 64 10 28 := ⟨RX10, TX10, 36, rfl, by decide, tI 629 (by decide +kernel) rfl, rfl, inX10⟩
theorem fpX10_64 : FP RX10 64 10 28 .int := ⟨RX10, TX10, 36, tyX10, rfl, by decide, tI 629 (by decide +kernel) rfl, rfl, inX10, tyX10_ok, nmX10, rfl, by decide +kernel⟩
theorem flX10_68 : FL RX10 68 10 29 := ⟨RX10, TX10, 36, rfl, by decide, tI 630 (by decide +kernel) rfl, rfl, inX10⟩
theorem fpX10_68 : FP RX10 68 10 29 .int := ⟨RX10, TX10, 36, tyX10, rfl, by decide, tI 630 (by decide +kernel) rfl, rfl, inX10, tyX10_ok, nmX10, rfl, by decide +kernel⟩
theorem flX10_71 : FL RX10 71 10 30 := ⟨RX10, TX10, 36, rfl, by decide, tI 631 (by decide +kernel) rfl, rfl, inX10⟩
theorem flX10_74 : FL RX10 74 10 31 := ⟨RX10, TX10, 36, rfl, by decide, tI 632 (by decide +kernel) rfl, rfl, inX10⟩
theorem flX10_79 : FL RX10 79 10 32 := ⟨RX10, TX10, 36, rfl, by decide, tI 633 (by decide +kernel) rfl, rfl, inX10⟩
theorem flX10_82 : FL RX10 82 10 33 := ⟨RX10, TX10, 36, rfl, by decide, tI 634 (by decide +kernel) rfl, rfl, inX10⟩
theorem flX10_86 : FL RX10 86 10 34 := ⟨RX10, TX10, 36, rfl, by decide, tI 635 (by decide +kernel) rfl, rfl, inX10⟩
theorem flX10_89 : FL RX10 89 10 35 := ⟨RX10, TX10, 36, rfl, by decide, tI 636 (by decide +kernel) rfl, rfl, inX10⟩
theorem mlL_17 : VL RL 17 RX10 mX10_bucket 2 := ⟨mwX10_bucket, tI 710 (by decide +kernel) rfl, tI 711 (by decide +kernel) rfl, tI 712 (by decide +kernel) rfl⟩
theorem kcX10_102 : KL RX10 102 (100) := tI 714 (by decide +kernel) rfl
theorem mlX10_95 : SL RX10 95 mX10_in 3 := ⟨mwX10_in, tI 715 (by decide +kernel) rfl, tI 716 (by decide +kernel) rfl⟩
theorem kcX10_104 : KL RX10 104 (20) := tI 718 (by decide +kernel) rfl
theorem mlL_22 : VL RL 22 RX10 mX10_pipe 3 := ⟨mwX10_pipe, tI 719 (by decide +kernel) rfl, tI 720 (by decide +kernel) rfl, tI 721 (by decide +kernel) rfl⟩
theorem mlX10_106 : VL RX10 106 RX10 mX10_noBucket 1 := ⟨mwX10_noBucket, tI 723 (by decide +kernel) rfl, tI 725 (by decide +kernel) rfl, sI 17 (by decide +kernel) rfl⟩
theorem mlL_27 : VL RL 27 RX10 mX10_spout 4 := ⟨mwX10_spout, tI 727 (by decide +kernel) rfl, tI 728 (by decide +kernel) rfl, tI 729 (by decide +kernel) rfl⟩
theorem kcX10_110 : KL RX10 110 (30) := tI 731 (by decide +kernel) rfl
theorem mlL_31 : VL RL 31 RX10 mX10_turn 2 := ⟨mwX10_turn, tI 732 (by decide +kernel) rfl, tI 733 (by decide +kernel) rfl, tI 734 (by decide +kernel) rfl⟩
theorem mlX10_112 : VL RX10 112 RX10 mX10_noSpout 1 := ⟨mwX10_noSpout, tI 736 (by decide +kernel) rfl, tI 738 (by decide +kernel) rfl, sI 18 (by decide +kernel) rfl⟩
theorem mlL_35 : VL RL 35 RX10 mX10_frog 3 := ⟨mwX10_frog, tI 740 (by decide +kernel) rfl, tI 741 (by decide +kernel) rfl, tI 742 (by decide +kernel) rfl⟩
theorem kcX10_115 : KL RX10 115 (2000) := tI 744 (by decide +kernel) rfl
theorem mlL_39 : VL RL 39 RX10 mX10_weather 2 := ⟨mwX10_weather, tI 745 (by decide +kernel) rfl, tI 746 (by decide +kernel) rfl, tI 747 (by decide +kernel) rfl⟩
theorem kcX10_120 : KL RX10 120 (-20) := tI 749 (by decide +kernel) rfl
theorem mlL_44 : VL RL 44 RX10 mX10_dry 1 := ⟨mwX10_dry, tI 750 (by decide +kernel) rfl, tI 751 (by decide +kernel) rfl, tI 752 (by decide +kernel) rfl⟩
theorem kcX10_125 : KL RX10 125 (50) := tI 754 (by decide +kernel) rfl
theorem mlL_48 : VL RL 48 RX10 mX10_told 2 := ⟨mwX10_told, tI 755 (by decide +kernel) rfl, tI 756 (by decide +kernel) rfl, tI 757 (by decide +kernel) rfl⟩
theorem mlX10_165 : VL RX10 165 RX10 mX10_onTheWay 1 := ⟨mwX10_onTheWay, tI 759 (by decide +kernel) rfl, tI 761 (by decide +kernel) rfl, sI 19 (by decide +kernel) rfl⟩
theorem mlL_52 : VL RL 52 RX10 mX10_count 1 := ⟨mwX10_count, tI 763 (by decide +kernel) rfl, tI 764 (by decide +kernel) rfl, tI 765 (by decide +kernel) rfl⟩
theorem mlL_56 : VL RL 56 RX10 mX10_tick 1 := ⟨mwX10_tick, tI 767 (by decide +kernel) rfl, tI 768 (by decide +kernel) rfl, tI 769 (by decide +kernel) rfl⟩
theorem kcX10_171 : KL RX10 171 (200) := tI 771 (by decide +kernel) rfl
theorem mlX10_173 : VL RX10 173 RX10 mX10_step 3 := ⟨mwX10_step, tI 772 (by decide +kernel) rfl, tI 774 (by decide +kernel) rfl, sI 20 (by decide +kernel) rfl⟩
theorem mlX10_144 : VL RX10 144 RX10 mX10_dripOf 4 := ⟨mwX10_dripOf, tI 776 (by decide +kernel) rfl, tI 778 (by decide +kernel) rfl, sI 21 (by decide +kernel) rfl⟩
theorem mlX10_130 : VL RX10 130 RX10 mX10_hasFrog 2 := ⟨mwX10_hasFrog, tI 780 (by decide +kernel) rfl, tI 782 (by decide +kernel) rfl, sI 22 (by decide +kernel) rfl⟩
theorem mlX10_134 : VL RX10 134 RX10 mX10_isFault 1 := ⟨mwX10_isFault, tI 784 (by decide +kernel) rfl, tI 786 (by decide +kernel) rfl, sI 23 (by decide +kernel) rfl⟩
theorem mlX10_137 : VL RX10 137 RX10 mX10_wetAt 1 := ⟨mwX10_wetAt, tI 788 (by decide +kernel) rfl, tI 790 (by decide +kernel) rfl, sI 24 (by decide +kernel) rfl⟩
theorem mlX10_151 : VL RX10 151 RX10 mX10_come 4 := ⟨mwX10_come, tI 792 (by decide +kernel) rfl, tI 794 (by decide +kernel) rfl, sI 25 (by decide +kernel) rfl⟩
theorem mlX10_158 : VL RX10 158 RX10 mX10_knock 3 := ⟨mwX10_knock, tI 796 (by decide +kernel) rfl, tI 798 (by decide +kernel) rfl, sI 26 (by decide +kernel) rfl⟩
theorem mlL_61 : VL RL 61 RX10 mX10_again 0 := ⟨mwX10_again, tI 800 (by decide +kernel) rfl, tI 801 (by decide +kernel) rfl, tI 802 (by decide +kernel) rfl⟩
theorem mlX10_177 : VL RX10 177 RX10 mX10_begin 1 := ⟨mwX10_begin, tI 804 (by decide +kernel) rfl, tI 806 (by decide +kernel) rfl, sI 27 (by decide +kernel) rfl⟩
theorem mlL_66 : VL RL 66 RX10 mX10_row 2 := ⟨mwX10_row, tI 808 (by decide +kernel) rfl, tI 809 (by decide +kernel) rfl, tI 810 (by decide +kernel) rfl⟩
theorem kcX10_181 : KL RX10 181 (-1001) := tI 812 (by decide +kernel) rfl
theorem mlX10_183 : VL RX10 183 RX10 mX10_run 2 := ⟨mwX10_run, tI 813 (by decide +kernel) rfl, tI 815 (by decide +kernel) rfl, sI 28 (by decide +kernel) rfl⟩
theorem mlL_70 : VL RL 70 RX10 mX10_round 1 := ⟨mwX10_round, tI 817 (by decide +kernel) rfl, tI 818 (by decide +kernel) rfl, tI 819 (by decide +kernel) rfl⟩
theorem mlX10_187 : VL RX10 187 RX10 mX10_keep 1 := ⟨mwX10_keep, tI 821 (by decide +kernel) rfl, tI 823 (by decide +kernel) rfl, sI 29 (by decide +kernel) rfl⟩
theorem mlX10_190 : VL RX10 190 RX10 mX10_goesInto 1 := ⟨mwX10_goesInto, tI 825 (by decide +kernel) rfl, tI 827 (by decide +kernel) rfl, sI 30 (by decide +kernel) rfl⟩
theorem mlX10_193 : VL RX10 193 RX10 mX10_isLike 2 := ⟨mwX10_isLike, tI 829 (by decide +kernel) rfl, tI 831 (by decide +kernel) rfl, sI 31 (by decide +kernel) rfl⟩
theorem mlL_74 : VL RL 74 RX10 mX10_meeting 2 := ⟨mwX10_meeting, tI 833 (by decide +kernel) rfl, tI 834 (by decide +kernel) rfl, tI 835 (by decide +kernel) rfl⟩
theorem mlL_81 : VL RL 81 RX10 mX10_drip 4 := ⟨mwX10_drip, tI 837 (by decide +kernel) rfl, tI 838 (by decide +kernel) rfl, tI 839 (by decide +kernel) rfl⟩
theorem mlX10_202 : SL RX10 202 mX10_isRow 1 := ⟨mwX10_isRow, tI 841 (by decide +kernel) rfl, tI 842 (by decide +kernel) rfl⟩
theorem kcX10_206 : KL RX10 206 (2) := tI 844 (by decide +kernel) rfl
theorem mlX10_208 : SL RX10 208 mX10_loneRow 4 := ⟨mwX10_loneRow, tI 845 (by decide +kernel) rfl, tI 846 (by decide +kernel) rfl⟩
theorem mlX10_212 : SL RX10 212 mX10_offOf 2 := ⟨mwX10_offOf, tI 848 (by decide +kernel) rfl, tI 849 (by decide +kernel) rfl⟩
theorem kcX10_196 : KL RX10 196 (1152921504606846975) := tI 851 (by decide +kernel) rfl
theorem mlX10_198 : SL RX10 198 mX10_ones 1 := ⟨mwX10_ones, tI 852 (by decide +kernel) rfl, tI 853 (by decide +kernel) rfl⟩
theorem mlL_86 : VL RL 86 RX10 mX10_hear 2 := ⟨mwX10_hear, tI 855 (by decide +kernel) rfl, tI 856 (by decide +kernel) rfl, tI 857 (by decide +kernel) rfl⟩
theorem mlX10_216 : VL RX10 216 RX10 mX10_count 1 := ⟨mwX10_count, tI 859 (by decide +kernel) rfl, tI 764 (by decide +kernel) rfl, tI 765 (by decide +kernel) rfl⟩
theorem mlL_90 : VL RL 90 RX10 mX10_hush 0 := ⟨mwX10_hush, tI 860 (by decide +kernel) rfl, tI 861 (by decide +kernel) rfl, tI 862 (by decide +kernel) rfl⟩
theorem mlL_94 : VL RL 94 RX10 mX10_blamed 1 := ⟨mwX10_blamed, tI 864 (by decide +kernel) rfl, tI 865 (by decide +kernel) rfl, tI 866 (by decide +kernel) rfl⟩
theorem kcX10_219 : KL RX10 219 (3) := tI 868 (by decide +kernel) rfl
theorem mlX10_221 : VL RX10 221 RX10 mX10_fits 2 := ⟨mwX10_fits, tI 869 (by decide +kernel) rfl, tI 871 (by decide +kernel) rfl, sI 32 (by decide +kernel) rfl⟩
theorem mlX10_224 : VL RX10 224 RX10 mX10_isFaulty 1 := ⟨mwX10_isFaulty, tI 873 (by decide +kernel) rfl, tI 875 (by decide +kernel) rfl, sI 33 (by decide +kernel) rfl⟩
theorem mlL_98 : VL RL 98 RX10 mX10_mended 4 := ⟨mwX10_mended, tI 877 (by decide +kernel) rfl, tI 878 (by decide +kernel) rfl, tI 879 (by decide +kernel) rfl⟩
theorem mlX10_231 : VL RX10 231 RX10 mX10_findTurn 3 := ⟨mwX10_findTurn, tI 881 (by decide +kernel) rfl, tI 883 (by decide +kernel) rfl, sI 34 (by decide +kernel) rfl⟩
theorem mlX10_227 : VL RX10 227 RX10 mX10_knocksOf 2 := ⟨mwX10_knocksOf, tI 885 (by decide +kernel) rfl, tI 887 (by decide +kernel) rfl, sI 35 (by decide +kernel) rfl⟩
theorem kcL_75 : KL RL 75 (4294967295) := tI 889 (by decide +kernel) rfl
