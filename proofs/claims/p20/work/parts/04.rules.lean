/-! the rules again, for numbers that are naturals; calls by their arguments' number; the flows' net -/
theorem A_iincN {M : MInfo} {d : Lv} {P : Po} {pc : Nat} {ls : List (Option Value)} {st : List Value} {μ : MI} {ν : ML} {k i : Nat} {ls1 : List (Option Value)} (hd : DC M pc (.iinc k 1) 3) (hv : ls[k]? = some (some (.int (nI i)))) (hi : k < mLoc M) (hok : okS ls k = true) (hs : ls.set k (some (.int (nI (i + 1)))) = ls1) (kk : AW M d P (pc + 3) ls1 st μ ν) : AW M d P pc ls st μ ν :=
  A_iinc hd hv (by rw [show Int32.ofInt 1 = (1 : Int32) by decide +kernel]; exact nI_1 i) hi hok hs kk
theorem A_iaddN {M : MInfo} {d : Lv} {P : Po} {pc : Nat} {ls : List (Option Value)} {st : List Value} {μ : MI} {ν : ML} {a b : Nat} (hd : DC M pc .iadd 1) (kk : AW M d P (pc + 1) ls (.int (nI (a + b)) :: st) μ ν) : AW M d P pc ls (.int (nI b) :: .int (nI a) :: st) μ ν :=
  A_iadd hd (by rw [nI_add]; exact kk)
theorem A_imulN {M : MInfo} {d : Lv} {P : Po} {pc : Nat} {ls : List (Option Value)} {st : List Value} {μ : MI} {ν : ML} {a b : Nat} (hd : DC M pc .imul 1) (kk : AW M d P (pc + 1) ls (.int (nI (a * b)) :: st) μ ν) : AW M d P pc ls (.int (nI b) :: .int (nI a) :: st) μ ν :=
  A_imul hd (by rw [pk_mul]; exact kk)
theorem A_iremN {M : MInfo} {d : Lv} {P : Po} {pc : Nat} {ls : List (Option Value)} {st : List Value} {μ : MI} {ν : ML} {a b : Nat} (hd : DC M pc .irem 1) (h0 : 0 < b) (ha : a < 2 ^ 31) (hb : b < 2 ^ 31) (kk : AW M d P (pc + 1) ls (.int (nI (a % b)) :: st) μ ν) : AW M d P pc ls (.int (nI b) :: .int (nI a) :: st) μ ν :=
  A_irem hd (nI_ne0 h0 hb) (by rw [pk_rem ha h0 hb]; exact kk)
theorem A_icmp_eqN {M : MInfo} {d : Lv} {P : Po} {pc : Nat} {ls : List (Option Value)} {st : List Value} {μ : MI} {ν : ML} {a b : Nat} {off : Int} {tgt : Nat} (hd : DC M pc (.if_icmp .eq off) 3) (ht : (pc : Int) + off = (tgt : Int)) (ha : a < 2 ^ 31) (hb : b < 2 ^ 31) (kt : a = b → AW M d P tgt ls st μ ν) (kf : ¬ a = b → AW M d P (pc + 3) ls st μ ν) : AW M d P pc ls (.int (nI b) :: .int (nI a) :: st) μ ν :=
  A_icmp_eq hd ht (fun h => kt ((nI_eq ha hb).mp h)) (fun h => kf (fun q => h ((nI_eq ha hb).mpr q)))
theorem A_icmp_neN {M : MInfo} {d : Lv} {P : Po} {pc : Nat} {ls : List (Option Value)} {st : List Value} {μ : MI} {ν : ML} {a b : Nat} {off : Int} {tgt : Nat} (hd : DC M pc (.if_icmp .ne off) 3) (ht : (pc : Int) + off = (tgt : Int)) (ha : a < 2 ^ 31) (hb : b < 2 ^ 31) (kt : ¬ a = b → AW M d P tgt ls st μ ν) (kf : a = b → AW M d P (pc + 3) ls st μ ν) : AW M d P pc ls (.int (nI b) :: .int (nI a) :: st) μ ν :=
  A_icmp_ne hd ht (fun h => kt (fun q => h ((nI_eq ha hb).mpr q))) (fun h => kf ((nI_eq ha hb).mp h))
theorem A_icmp_ltN {M : MInfo} {d : Lv} {P : Po} {pc : Nat} {ls : List (Option Value)} {st : List Value} {μ : MI} {ν : ML} {a b : Nat} {off : Int} {tgt : Nat} (hd : DC M pc (.if_icmp .lt off) 3) (ht : (pc : Int) + off = (tgt : Int)) (ha : a < 2 ^ 31) (hb : b < 2 ^ 31) (kt : a < b → AW M d P tgt ls st μ ν) (kf : b ≤ a → AW M d P (pc + 3) ls st μ ν) : AW M d P pc ls (.int (nI b) :: .int (nI a) :: st) μ ν :=
  A_icmp_lt hd ht (fun h => kt ((nI_ltI ha hb).mp h)) (fun h => kf (Nat.not_lt.mp (fun q => h ((nI_ltI ha hb).mpr q))))
theorem A_icmp_geN {M : MInfo} {d : Lv} {P : Po} {pc : Nat} {ls : List (Option Value)} {st : List Value} {μ : MI} {ν : ML} {a b : Nat} {off : Int} {tgt : Nat} (hd : DC M pc (.if_icmp .ge off) 3) (ht : (pc : Int) + off = (tgt : Int)) (ha : a < 2 ^ 31) (hb : b < 2 ^ 31) (kt : b ≤ a → AW M d P tgt ls st μ ν) (kf : a < b → AW M d P (pc + 3) ls st μ ν) : AW M d P pc ls (.int (nI b) :: .int (nI a) :: st) μ ν :=
  A_icmp_ge hd ht (fun h => kt ((nI_leI hb ha).mp h)) (fun h => kf (Nat.not_le.mp (fun q => h ((nI_leI hb ha).mpr q))))
theorem A_icmp_gtN {M : MInfo} {d : Lv} {P : Po} {pc : Nat} {ls : List (Option Value)} {st : List Value} {μ : MI} {ν : ML} {a b : Nat} {off : Int} {tgt : Nat} (hd : DC M pc (.if_icmp .gt off) 3) (ht : (pc : Int) + off = (tgt : Int)) (ha : a < 2 ^ 31) (hb : b < 2 ^ 31) (kt : b < a → AW M d P tgt ls st μ ν) (kf : a ≤ b → AW M d P (pc + 3) ls st μ ν) : AW M d P pc ls (.int (nI b) :: .int (nI a) :: st) μ ν :=
  A_icmp_gt hd ht (fun h => kt ((nI_ltI hb ha).mp h)) (fun h => kf (Nat.not_lt.mp (fun q => h ((nI_ltI hb ha).mpr q))))
theorem A_icmp_leN {M : MInfo} {d : Lv} {P : Po} {pc : Nat} {ls : List (Option Value)} {st : List Value} {μ : MI} {ν : ML} {a b : Nat} {off : Int} {tgt : Nat} (hd : DC M pc (.if_icmp .le off) 3) (ht : (pc : Int) + off = (tgt : Int)) (ha : a < 2 ^ 31) (hb : b < 2 ^ 31) (kt : a ≤ b → AW M d P tgt ls st μ ν) (kf : b < a → AW M d P (pc + 3) ls st μ ν) : AW M d P pc ls (.int (nI b) :: .int (nI a) :: st) μ ν :=
  A_icmp_le hd ht (fun h => kt ((nI_leI ha hb).mp h)) (fun h => kf (Nat.not_le.mp (fun q => h ((nI_leI ha hb).mpr q))))
theorem A_callV0 {M M1 : MInfo} {d : Lv} {P : Po} {pc d1 idx a ci : Nat} {ls : List (Option Value)} {st : List Value} {μ : MI} {ν : ML} {Cn : String} {fs : List (Option Nat)} {T : u_T} {N : Nat} (hd : DC M pc (.invokevirtual idx) 3) (hm : VL (mOwn M) idx Cn M1 0) (hdd : d1 < d.1) (hy : lay a = (0, ci, fs)) (hci : vwCl[ci]? = some (Cn, T, N)) (hr : (st.map fun v => v.category).sum ≤ 8) (hC : Ct M1 d1 [.ref a] μ ν (Kn M d P (pc + 3) ls st)) : AW M d P pc ls (.ref a :: st) μ ν :=
  A_callV (as := []) hd hm hdd hy hci rfl hr hC
theorem A_callV1 {M M1 : MInfo} {d : Lv} {P : Po} {pc d1 idx a ci : Nat} {ls : List (Option Value)} {st : List Value} {μ : MI} {ν : ML} {Cn : String} {fs : List (Option Nat)} {T : u_T} {N : Nat} {x1 : Value} (hd : DC M pc (.invokevirtual idx) 3) (hm : VL (mOwn M) idx Cn M1 1) (hdd : d1 < d.1) (hy : lay a = (0, ci, fs)) (hci : vwCl[ci]? = some (Cn, T, N)) (hr : (st.map fun v => v.category).sum ≤ 8) (hC : Ct M1 d1 [.ref a, x1] μ ν (Kn M d P (pc + 3) ls st)) : AW M d P pc ls (x1 :: .ref a :: st) μ ν :=
  A_callV (as := [x1]) hd hm hdd hy hci rfl hr hC
theorem A_callS1 {M M1 : MInfo} {d : Lv} {P : Po} {pc d1 idx : Nat} {ls : List (Option Value)} {st : List Value} {μ : MI} {ν : ML} {x1 : Value} (hd : DC M pc (.invokestatic idx) 3) (hm : SL (mOwn M) idx M1 1) (hdd : d1 < d.1) (hr : (st.map fun v => v.category).sum ≤ 8) (hC : Ct M1 d1 [x1] μ ν (Kn M d P (pc + 3) ls st)) : AW M d P pc ls (x1 :: st) μ ν :=
  A_callS (as := [x1]) hd hm hdd rfl hr hC
theorem A_callN1 {M M1 : MInfo} {d : Lv} {P : Po} {pc d1 idx : Nat} {ls : List (Option Value)} {st : List Value} {μ : MI} {ν : ML} {host : String} {x1 : Value} (hd : DC M pc (.invokestatic idx) 3) (hm : SN (mOwn M) idx host M1 1) (hdd : d1 < d.1) (hr : (st.map fun v => v.category).sum ≤ 8) (hC : Ct M1 d1 [x1] μ ν (Kn M d P (pc + 3) ls st)) : AW M d P pc ls (x1 :: st) μ ν :=
  A_callN (as := [x1]) hd hm hdd rfl hr hC
theorem A_callV2 {M M1 : MInfo} {d : Lv} {P : Po} {pc d1 idx a ci : Nat} {ls : List (Option Value)} {st : List Value} {μ : MI} {ν : ML} {Cn : String} {fs : List (Option Nat)} {T : u_T} {N : Nat} {x1 x2 : Value} (hd : DC M pc (.invokevirtual idx) 3) (hm : VL (mOwn M) idx Cn M1 2) (hdd : d1 < d.1) (hy : lay a = (0, ci, fs)) (hci : vwCl[ci]? = some (Cn, T, N)) (hr : (st.map fun v => v.category).sum ≤ 8) (hC : Ct M1 d1 [.ref a, x1, x2] μ ν (Kn M d P (pc + 3) ls st)) : AW M d P pc ls (x2 :: x1 :: .ref a :: st) μ ν :=
  A_callV (as := [x1, x2]) hd hm hdd hy hci rfl hr hC
theorem A_callS2 {M M1 : MInfo} {d : Lv} {P : Po} {pc d1 idx : Nat} {ls : List (Option Value)} {st : List Value} {μ : MI} {ν : ML} {x1 x2 : Value} (hd : DC M pc (.invokestatic idx) 3) (hm : SL (mOwn M) idx M1 2) (hdd : d1 < d.1) (hr : (st.map fun v => v.category).sum ≤ 8) (hC : Ct M1 d1 [x1, x2] μ ν (Kn M d P (pc + 3) ls st)) : AW M d P pc ls (x2 :: x1 :: st) μ ν :=
  A_callS (as := [x1, x2]) hd hm hdd rfl hr hC
theorem A_callN2 {M M1 : MInfo} {d : Lv} {P : Po} {pc d1 idx : Nat} {ls : List (Option Value)} {st : List Value} {μ : MI} {ν : ML} {host : String} {x1 x2 : Value} (hd : DC M pc (.invokestatic idx) 3) (hm : SN (mOwn M) idx host M1 2) (hdd : d1 < d.1) (hr : (st.map fun v => v.category).sum ≤ 8) (hC : Ct M1 d1 [x1, x2] μ ν (Kn M d P (pc + 3) ls st)) : AW M d P pc ls (x2 :: x1 :: st) μ ν :=
  A_callN (as := [x1, x2]) hd hm hdd rfl hr hC
theorem A_callV3 {M M1 : MInfo} {d : Lv} {P : Po} {pc d1 idx a ci : Nat} {ls : List (Option Value)} {st : List Value} {μ : MI} {ν : ML} {Cn : String} {fs : List (Option Nat)} {T : u_T} {N : Nat} {x1 x2 x3 : Value} (hd : DC M pc (.invokevirtual idx) 3) (hm : VL (mOwn M) idx Cn M1 3) (hdd : d1 < d.1) (hy : lay a = (0, ci, fs)) (hci : vwCl[ci]? = some (Cn, T, N)) (hr : (st.map fun v => v.category).sum ≤ 8) (hC : Ct M1 d1 [.ref a, x1, x2, x3] μ ν (Kn M d P (pc + 3) ls st)) : AW M d P pc ls (x3 :: x2 :: x1 :: .ref a :: st) μ ν :=
  A_callV (as := [x1, x2, x3]) hd hm hdd hy hci rfl hr hC
theorem A_callS3 {M M1 : MInfo} {d : Lv} {P : Po} {pc d1 idx : Nat} {ls : List (Option Value)} {st : List Value} {μ : MI} {ν : ML} {x1 x2 x3 : Value} (hd : DC M pc (.invokestatic idx) 3) (hm : SL (mOwn M) idx M1 3) (hdd : d1 < d.1) (hr : (st.map fun v => v.category).sum ≤ 8) (hC : Ct M1 d1 [x1, x2, x3] μ ν (Kn M d P (pc + 3) ls st)) : AW M d P pc ls (x3 :: x2 :: x1 :: st) μ ν :=
  A_callS (as := [x1, x2, x3]) hd hm hdd rfl hr hC
theorem A_callN3 {M M1 : MInfo} {d : Lv} {P : Po} {pc d1 idx : Nat} {ls : List (Option Value)} {st : List Value} {μ : MI} {ν : ML} {host : String} {x1 x2 x3 : Value} (hd : DC M pc (.invokestatic idx) 3) (hm : SN (mOwn M) idx host M1 3) (hdd : d1 < d.1) (hr : (st.map fun v => v.category).sum ≤ 8) (hC : Ct M1 d1 [x1, x2, x3] μ ν (Kn M d P (pc + 3) ls st)) : AW M d P pc ls (x3 :: x2 :: x1 :: st) μ ν :=
  A_callN (as := [x1, x2, x3]) hd hm hdd rfl hr hC
theorem A_callV4 {M M1 : MInfo} {d : Lv} {P : Po} {pc d1 idx a ci : Nat} {ls : List (Option Value)} {st : List Value} {μ : MI} {ν : ML} {Cn : String} {fs : List (Option Nat)} {T : u_T} {N : Nat} {x1 x2 x3 x4 : Value} (hd : DC M pc (.invokevirtual idx) 3) (hm : VL (mOwn M) idx Cn M1 4) (hdd : d1 < d.1) (hy : lay a = (0, ci, fs)) (hci : vwCl[ci]? = some (Cn, T, N)) (hr : (st.map fun v => v.category).sum ≤ 8) (hC : Ct M1 d1 [.ref a, x1, x2, x3, x4] μ ν (Kn M d P (pc + 3) ls st)) : AW M d P pc ls (x4 :: x3 :: x2 :: x1 :: .ref a :: st) μ ν :=
  A_callV (as := [x1, x2, x3, x4]) hd hm hdd hy hci rfl hr hC
theorem A_callS4 {M M1 : MInfo} {d : Lv} {P : Po} {pc d1 idx : Nat} {ls : List (Option Value)} {st : List Value} {μ : MI} {ν : ML} {x1 x2 x3 x4 : Value} (hd : DC M pc (.invokestatic idx) 3) (hm : SL (mOwn M) idx M1 4) (hdd : d1 < d.1) (hr : (st.map fun v => v.category).sum ≤ 8) (hC : Ct M1 d1 [x1, x2, x3, x4] μ ν (Kn M d P (pc + 3) ls st)) : AW M d P pc ls (x4 :: x3 :: x2 :: x1 :: st) μ ν :=
  A_callS (as := [x1, x2, x3, x4]) hd hm hdd rfl hr hC
theorem A_callN4 {M M1 : MInfo} {d : Lv} {P : Po} {pc d1 idx : Nat} {ls : List (Option Value)} {st : List Value} {μ : MI} {ν : ML} {host : String} {x1 x2 x3 x4 : Value} (hd : DC M pc (.invokestatic idx) 3) (hm : SN (mOwn M) idx host M1 4) (hdd : d1 < d.1) (hr : (st.map fun v => v.category).sum ≤ 8) (hC : Ct M1 d1 [x1, x2, x3, x4] μ ν (Kn M d P (pc + 3) ls st)) : AW M d P pc ls (x4 :: x3 :: x2 :: x1 :: st) μ ν :=
  A_callN (as := [x1, x2, x3, x4]) hd hm hdd rfl hr hC
theorem row_get (f : Nat) {b : Nat} (h : b < 8) : ([some (f + 6), some (f + 7), some (f + 8), some (f + 9), some (f + 10), some (f + 11), some (f + 12), some (f + 13)] : List (Option Nat)).getD b none = some (f + 6 + b) := by
  match b, h with
  | 0, _ => rfl
  | 1, _ => rfl
  | 2, _ => rfl
  | 3, _ => rfl
  | 4, _ => rfl
  | 5, _ => rfl
  | 6, _ => rfl
  | 7, _ => rfl
  | n + 8, h => omega
def TwistAt (w : Nat) : Prop := lay w = (0, 8, [none, some (w + 1), some (w + 2), some (w + 3), some (w + 4)]) ∧ lay (w + 1) = (1, 4, []) ∧ lay (w + 2) = (2, 4, []) ∧ lay (w + 3) = (2, 8, []) ∧ lay (w + 4) = (2, 8, [])
def FlowAt (f w : Nat) : Prop := lay f = (0, 2, [some 1, some w, none, none, none, none, some (f + 1), some (f + 2), some (f + 3), some (f + 4), some (f + 5)]) ∧ lay (f + 1) = (1, 8, []) ∧ lay (f + 2) = (1, 8, []) ∧ lay (f + 3) = (1, 8, []) ∧ lay (f + 4) = (1, 8, []) ∧ lay (f + 5) = (4, 8, [some (f + 6), some (f + 7), some (f + 8), some (f + 9), some (f + 10), some (f + 11), some (f + 12), some (f + 13)]) ∧ (∀ b, b < 8 → lay (f + 6 + b) = (1, 20, [])) ∧ TwistAt w ∧ (33 ≤ f ∧ f ≤ 61 ∧ 19 ≤ w ∧ w ≤ 24)
theorem TwistAt.l0 {w : Nat} (h : TwistAt w) : lay w = (0, 8, [none, some (w + 1), some (w + 2), some (w + 3), some (w + 4)]) := h.1
theorem TwistAt.l1 {w : Nat} (h : TwistAt w) : lay (w + 1) = (1, 4, []) := h.2.1
theorem TwistAt.l2 {w : Nat} (h : TwistAt w) : lay (w + 2) = (2, 4, []) := h.2.2.1
theorem TwistAt.l3 {w : Nat} (h : TwistAt w) : lay (w + 3) = (2, 8, []) := h.2.2.2.1
theorem TwistAt.l4 {w : Nat} (h : TwistAt w) : lay (w + 4) = (2, 8, []) := h.2.2.2.2
theorem FlowAt.l0 {f w : Nat} (h : FlowAt f w) : lay f = (0, 2, [some 1, some w, none, none, none, none, some (f + 1), some (f + 2), some (f + 3), some (f + 4), some (f + 5)]) := h.1
theorem FlowAt.l1 {f w : Nat} (h : FlowAt f w) : lay (f + 1) = (1, 8, []) := h.2.1
theorem FlowAt.l2 {f w : Nat} (h : FlowAt f w) : lay (f + 2) = (1, 8, []) := h.2.2.1
theorem FlowAt.l3 {f w : Nat} (h : FlowAt f w) : lay (f + 3) = (1, 8, []) := h.2.2.2.1
theorem FlowAt.l4 {f w : Nat} (h : FlowAt f w) : lay (f + 4) = (1, 8, []) := h.2.2.2.2.1
theorem FlowAt.l5 {f w : Nat} (h : FlowAt f w) : lay (f + 5) = (4, 8, [some (f + 6), some (f + 7), some (f + 8), some (f + 9), some (f + 10), some (f + 11), some (f + 12), some (f + 13)]) := h.2.2.2.2.2.1
theorem FlowAt.row {f w : Nat} (h : FlowAt f w) {b : Nat} (hb : b < 8) : lay (f + 6 + b) = (1, 20, []) := h.2.2.2.2.2.2.1 b hb
theorem FlowAt.tw {f w : Nat} (h : FlowAt f w) : TwistAt w := h.2.2.2.2.2.2.2.1
theorem FlowAt.rng {f w : Nat} (h : FlowAt f w) : 33 ≤ f ∧ f ≤ 61 ∧ 19 ≤ w ∧ w ≤ 24 := h.2.2.2.2.2.2.2.2
theorem twist_19 : TwistAt 19 := ⟨rfl, rfl, rfl, rfl, rfl⟩
theorem twist_24 : TwistAt 24 := ⟨rfl, rfl, rfl, rfl, rfl⟩
theorem flow_33 : FlowAt 33 19 := ⟨rfl, rfl, rfl, rfl, rfl, rfl, by decide +kernel, twist_19, by decide⟩
theorem flow_47 : FlowAt 47 24 := ⟨rfl, rfl, rfl, rfl, rfl, rfl, by decide +kernel, twist_24, by decide⟩
theorem flow_61 : FlowAt 61 24 := ⟨rfl, rfl, rfl, rfl, rfl, rfl, by decide +kernel, twist_24, by decide⟩
