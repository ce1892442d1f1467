/-! ===== the net at the start, out of what the two constructors leave ===== -/
def zf : Nat → Int32 := fun _ => 0
def muL : List (Nat → Int32) := [zf, zf, zf, zf, zf, zf, zf, zf, zf, zf, zf, zf, zf, zf, zf, zf, zf, zf, zf, zf, zf, zf, zf, zf, zf, zf, zf, zf, zf, zf, zf, zf, zf, zf, zf, zf, zf, M1 8, zf, zf, zf, zf, zf, zf, zf, zf, zf, zf, zf, zf, zf, M1 8, zf, zf, zf, zf, zf, zf, zf, zf, zf, zf, zf, zf, zf, M1 8, zf, zf, zf, zf, zf, zf, zf, zf, zf, (fun j => if j = 28 then (-1) else if j = 29 then (-1) else 0), zf, zf, zf, zf, zf, zf, zf, zf, zf, zf, zf, zf, zf, zf, M1 8, zf, zf, M1 8, zf, zf, zf, zf, zf, zf]
/-- the numbers at the start -/
def mu0 : MI := fun k => muL.getD k zf
def nu0 : ML := fun _ _ => 0
def adL (u v : Nat → Nat) (h0 h1 b : Nat) : List Nat := [h0, u 0, u 1, u 2, u 3, u 4, u 5, u 6, u 7, u 8, u 9, u 10, u 11, u 12, u 13, u 14, u 15, u 16, u 17, u 19, u 20, u 21, u 22, u 23, u 37, u 38, u 39, u 40, u 41, u 70, u 71, u 72, u 73, u 18, u 24, u 25, u 26, u 27, u 28, u 29, u 30, u 31, u 32, u 33, u 34, u 35, u 36, u 42, u 43, u 44, u 45, u 46, u 47, u 48, u 49, u 50, u 51, u 52, u 53, u 54, u 55, u 56, u 57, u 58, u 59, u 60, u 61, u 62, u 63, u 64, u 65, u 66, u 67, u 68, u 69, h1, v 0, v 1, v 2, v 3, v 4, v 5, v 6, v 7, v 8, v 9, v 10, v 11, v 12, v 13, v 14, v 15, v 16, v 17, v 18, v 19, v 20, v 21, v 22, v 23, b]
def adF (u v : Nat → Nat) (h0 h1 b : Nat) : Nat → Nat := fun k => (adL u v h0 h1 b).getD k 0
theorem rows_38 (u v : Nat → Nat) (h0 h1 b : Nat) : RW8 (fun i => u (29 + i)) = fun j => (([some 39, some 40, some 41, some 42, some 43, some 44, some 45, some 46] : List (Option Nat)).getD j none).map (adF u v h0 h1 b) := by
  funext j
  match j with
  | 0 => rfl
  | 1 => rfl
  | 2 => rfl
  | 3 => rfl
  | 4 => rfl
  | 5 => rfl
  | 6 => rfl
  | 7 => rfl
  | n + 8 =>
    unfold RW8
    rw [if_neg (by omega)]
    rfl
theorem rows_52 (u v : Nat → Nat) (h0 h1 b : Nat) : RW8 (fun i => u (48 + i)) = fun j => (([some 53, some 54, some 55, some 56, some 57, some 58, some 59, some 60] : List (Option Nat)).getD j none).map (adF u v h0 h1 b) := by
  funext j
  match j with
  | 0 => rfl
  | 1 => rfl
  | 2 => rfl
  | 3 => rfl
  | 4 => rfl
  | 5 => rfl
  | 6 => rfl
  | 7 => rfl
  | n + 8 =>
    unfold RW8
    rw [if_neg (by omega)]
    rfl
theorem rows_66 (u v : Nat → Nat) (h0 h1 b : Nat) : RW8 (fun i => u (62 + i)) = fun j => (([some 67, some 68, some 69, some 70, some 71, some 72, some 73, some 74] : List (Option Nat)).getD j none).map (adF u v h0 h1 b) := by
  funext j
  match j with
  | 0 => rfl
  | 1 => rfl
  | 2 => rfl
  | 3 => rfl
  | 4 => rfl
  | 5 => rfl
  | 6 => rfl
  | 7 => rfl
  | n + 8 =>
    unfold RW8
    rw [if_neg (by omega)]
    rfl
abbrev wAll (ca : Nat → ClassId) (u v : Nat → Nat) (h0 h1 : Nat) : va_W := wX9 ca h0 u ++ wX10 ca h1 v
def permL : List Nat := [0, 1, 2, 3, 4, 5, 6, 7, 8, 9, 10, 11, 12, 13, 14, 15, 16, 17, 18, 19, 20, 21, 22, 23, 38, 39, 40, 41, 42, 71, 72, 73, 74, 24, 25, 26, 27, 37, 28, 29, 30, 31, 32, 33, 34, 35, 36, 43, 44, 45, 46, 56, 47, 48, 49, 50, 51, 52, 53, 54, 55, 57, 58, 59, 60, 70, 61, 62, 63, 64, 65, 66, 67, 68, 69, 75, 76, 77, 78, 79, 80, 81, 82, 83, 84, 85, 86, 87, 88, 89, 90, 91, 92, 93, 94, 95, 96, 97, 98, 99]
def AllL (P : Nat → Prop) : Nat → Nat → Prop
  | _, 0 => True
  | i, n + 1 => P i ∧ AllL P (i + 1) n
theorem AllL_get {P : Nat → Prop} : ∀ (n i : Nat), AllL P i n → ∀ k, i ≤ k → k < i + n → P k
  | 0, i, _, k, h1, h2 => absurd h2 (by omega)
  | n + 1, i, h, k, h1, h2 => by
    rcases Nat.lt_or_ge i k with q | q
    · exact AllL_get n (i + 1) h.2 k q (by omega)
    · have e : k = i := by omega
      rw [e]
      exact h.1
def mi (g : Nat → Option Nat → Value) : Nat → List (Option Nat) → List Value
  | _, [] => []
  | k, o :: r => g k o :: mi g (k + 1) r
theorem mi_eq (g : Nat → Option Nat → Value) : ∀ (L : List (Option Nat)) (k : Nat), L.mapIdx (fun j o => g (k + j) o) = mi g k L
  | [], _ => rfl
  | o :: r, k => by
    rw [List.mapIdx_cons, mi, ← mi_eq g r (k + 1)]
    congr 1
    refine congrArg (fun h => r.mapIdx h) (funext fun j => funext fun o => ?_)
    show g (k + (j + 1)) o = g (k + 1 + j) o
    rw [Nat.add_assoc k 1 j, Nat.add_comm 1 j]
theorem ceK_o {c : Nat} {fs : List (Option Nat)} (ad : Nat → Nat) (ca : Nat → ClassId) (f : Nat → Int32) (g : Nat → Int64) : ceK (0, c, fs) ad ca f g = .inr (c, mi (fun j o => fv1 ad o (f j)) 0 fs) := by
  unfold ceK
  rw [if_pos rfl, ← mi_eq]
  simp only [Nat.zero_add]
def NetAt (ca : Nat → ClassId) (u v : Nat → Nat) (h0 h1 b k : Nat) : Prop := (wAll ca u v h0 h1)[permL.getD k 0]? = some (adF u v h0 h1 b k, ceK (lay k) (adF u v h0 h1 b) ca (mu0 k) (nu0 k))
theorem net_0 (ca : Nat → ClassId) (u v : Nat → Nat) (h0 h1 b : Nat) : NetAt ca u v h0 h1 b 0 := rfl
theorem net_1 (ca : Nat → ClassId) (u v : Nat → Nat) (h0 h1 b : Nat) : NetAt ca u v h0 h1 b 1 := rfl
theorem net_2 (ca : Nat → ClassId) (u v : Nat → Nat) (h0 h1 b : Nat) : NetAt ca u v h0 h1 b 2 := rfl
theorem net_3 (ca : Nat → ClassId) (u v : Nat → Nat) (h0 h1 b : Nat) : NetAt ca u v h0 h1 b 3 := rfl
theorem net_4 (ca : Nat → ClassId) (u v : Nat → Nat) (h0 h1 b : Nat) : NetAt ca u v h0 h1 b 4 := rfl
theorem net_5 (ca : Nat → ClassId) (u v : Nat → Nat) (h0 h1 b : Nat) : NetAt ca u v h0 h1 b 5 := rfl
theorem net_6 (ca : Nat → ClassId) (u v : Nat → Nat) (h0 h1 b : Nat) : NetAt ca u v h0 h1 b 6 := rfl
theorem net_7 (ca : Nat → ClassId) (u v : Nat → Nat) (h0 h1 b : Nat) : NetAt ca u v h0 h1 b 7 := rfl
theorem net_8 (ca : Nat → ClassId) (u v : Nat → Nat) (h0 h1 b : Nat) : NetAt ca u v h0 h1 b 8 := rfl
theorem net_9 (ca : Nat → ClassId) (u v : Nat → Nat) (h0 h1 b : Nat) : NetAt ca u v h0 h1 b 9 := rfl
theorem net_10 (ca : Nat → ClassId) (u v : Nat → Nat) (h0 h1 b : Nat) : NetAt ca u v h0 h1 b 10 := rfl
theorem net_11 (ca : Nat → ClassId) (u v : Nat → Nat) (h0 h1 b : Nat) : NetAt ca u v h0 h1 b 11 := rfl
theorem net_12 (ca : Nat → ClassId) (u v : Nat → Nat) (h0 h1 b : Nat) : NetAt ca u v h0 h1 b 12 := rfl
theorem net_13 (ca : Nat → ClassId) (u v : Nat → Nat) (h0 h1 b : Nat) : NetAt ca u v h0 h1 b 13 := rfl
theorem net_14 (ca : Nat → ClassId) (u v : Nat → Nat) (h0 h1 b : Nat) : NetAt ca u v h0 h1 b 14 := rfl
theorem net_15 (ca : Nat → ClassId) (u v : Nat → Nat) (h0 h1 b : Nat) : NetAt ca u v h0 h1 b 15 := rfl
theorem net_16 (ca : Nat → ClassId) (u v : Nat → Nat) (h0 h1 b : Nat) : NetAt ca u v h0 h1 b 16 := rfl
theorem net_17 (ca : Nat → ClassId) (u v : Nat → Nat) (h0 h1 b : Nat) : NetAt ca u v h0 h1 b 17 := rfl
theorem net_18 (ca : Nat → ClassId) (u v : Nat → Nat) (h0 h1 b : Nat) : NetAt ca u v h0 h1 b 18 := rfl
theorem net_19 (ca : Nat → ClassId) (u v : Nat → Nat) (h0 h1 b : Nat) : NetAt ca u v h0 h1 b 19 := rfl
theorem net_20 (ca : Nat → ClassId) (u v : Nat → Nat) (h0 h1 b : Nat) : NetAt ca u v h0 h1 b 20 := rfl
theorem net_21 (ca : Nat → ClassId) (u v : Nat → Nat) (h0 h1 b : Nat) : NetAt ca u v h0 h1 b 21 := rfl
theorem net_22 (ca : Nat → ClassId) (u v : Nat → Nat) (h0 h1 b : Nat) : NetAt ca u v h0 h1 b 22 := rfl
theorem net_23 (ca : Nat → ClassId) (u v : Nat → Nat) (h0 h1 b : Nat) : NetAt ca u v h0 h1 b 23 := rfl
theorem net_24 (ca : Nat → ClassId) (u v : Nat → Nat) (h0 h1 b : Nat) : NetAt ca u v h0 h1 b 24 := rfl
theorem net_25 (ca : Nat → ClassId) (u v : Nat → Nat) (h0 h1 b : Nat) : NetAt ca u v h0 h1 b 25 := rfl
theorem net_26 (ca : Nat → ClassId) (u v : Nat → Nat) (h0 h1 b : Nat) : NetAt ca u v h0 h1 b 26 := rfl
theorem net_27 (ca : Nat → ClassId) (u v : Nat → Nat) (h0 h1 b : Nat) : NetAt ca u v h0 h1 b 27 := rfl
theorem net_28 (ca : Nat → ClassId) (u v : Nat → Nat) (h0 h1 b : Nat) : NetAt ca u v h0 h1 b 28 := rfl
theorem net_29 (ca : Nat → ClassId) (u v : Nat → Nat) (h0 h1 b : Nat) : NetAt ca u v h0 h1 b 29 := rfl
theorem net_30 (ca : Nat → ClassId) (u v : Nat → Nat) (h0 h1 b : Nat) : NetAt ca u v h0 h1 b 30 := rfl
theorem net_31 (ca : Nat → ClassId) (u v : Nat → Nat) (h0 h1 b : Nat) : NetAt ca u v h0 h1 b 31 := rfl
theorem net_32 (ca : Nat → ClassId) (u v : Nat → Nat) (h0 h1 b : Nat) : NetAt ca u v h0 h1 b 32 := rfl
theorem net_33 (ca : Nat → ClassId) (u v : Nat → Nat) (h0 h1 b : Nat) : NetAt ca u v h0 h1 b 33 := rfl
theorem net_34 (ca : Nat → ClassId) (u v : Nat → Nat) (h0 h1 b : Nat) : NetAt ca u v h0 h1 b 34 := rfl
theorem net_35 (ca : Nat → ClassId) (u v : Nat → Nat) (h0 h1 b : Nat) : NetAt ca u v h0 h1 b 35 := rfl
theorem net_36 (ca : Nat → ClassId) (u v : Nat → Nat) (h0 h1 b : Nat) : NetAt ca u v h0 h1 b 36 := rfl
theorem net_37 (ca : Nat → ClassId) (u v : Nat → Nat) (h0 h1 b : Nat) : NetAt ca u v h0 h1 b 37 := rfl
theorem net_38 (ca : Nat → ClassId) (u v : Nat → Nat) (h0 h1 b : Nat) : NetAt ca u v h0 h1 b 38 := by
  unfold NetAt
  refine Eq.trans (b := some ((adF u v h0 h1 b 38, (Sum.inl (ca 3, 8, .inr (.inr (.inr (.inr (RW8 (fun i => u (29 + i))))))) : va_E)) : Nat × va_E)) rfl ?_
  rw [rows_38 u v h0 h1 b]
  rfl
theorem net_39 (ca : Nat → ClassId) (u v : Nat → Nat) (h0 h1 b : Nat) : NetAt ca u v h0 h1 b 39 := rfl
theorem net_40 (ca : Nat → ClassId) (u v : Nat → Nat) (h0 h1 b : Nat) : NetAt ca u v h0 h1 b 40 := rfl
theorem net_41 (ca : Nat → ClassId) (u v : Nat → Nat) (h0 h1 b : Nat) : NetAt ca u v h0 h1 b 41 := rfl
theorem net_42 (ca : Nat → ClassId) (u v : Nat → Nat) (h0 h1 b : Nat) : NetAt ca u v h0 h1 b 42 := rfl
theorem net_43 (ca : Nat → ClassId) (u v : Nat → Nat) (h0 h1 b : Nat) : NetAt ca u v h0 h1 b 43 := rfl
theorem net_44 (ca : Nat → ClassId) (u v : Nat → Nat) (h0 h1 b : Nat) : NetAt ca u v h0 h1 b 44 := rfl
theorem net_45 (ca : Nat → ClassId) (u v : Nat → Nat) (h0 h1 b : Nat) : NetAt ca u v h0 h1 b 45 := rfl
theorem net_46 (ca : Nat → ClassId) (u v : Nat → Nat) (h0 h1 b : Nat) : NetAt ca u v h0 h1 b 46 := rfl
theorem net_47 (ca : Nat → ClassId) (u v : Nat → Nat) (h0 h1 b : Nat) : NetAt ca u v h0 h1 b 47 := rfl
theorem net_48 (ca : Nat → ClassId) (u v : Nat → Nat) (h0 h1 b : Nat) : NetAt ca u v h0 h1 b 48 := rfl
theorem net_49 (ca : Nat → ClassId) (u v : Nat → Nat) (h0 h1 b : Nat) : NetAt ca u v h0 h1 b 49 := rfl
theorem net_50 (ca : Nat → ClassId) (u v : Nat → Nat) (h0 h1 b : Nat) : NetAt ca u v h0 h1 b 50 := rfl
theorem net_51 (ca : Nat → ClassId) (u v : Nat → Nat) (h0 h1 b : Nat) : NetAt ca u v h0 h1 b 51 := rfl
theorem net_52 (ca : Nat → ClassId) (u v : Nat → Nat) (h0 h1 b : Nat) : NetAt ca u v h0 h1 b 52 := by
  unfold NetAt
  refine Eq.trans (b := some ((adF u v h0 h1 b 52, (Sum.inl (ca 3, 8, .inr (.inr (.inr (.inr (RW8 (fun i => u (48 + i))))))) : va_E)) : Nat × va_E)) rfl ?_
  rw [rows_52 u v h0 h1 b]
  rfl
theorem net_53 (ca : Nat → ClassId) (u v : Nat → Nat) (h0 h1 b : Nat) : NetAt ca u v h0 h1 b 53 := rfl
theorem net_54 (ca : Nat → ClassId) (u v : Nat → Nat) (h0 h1 b : Nat) : NetAt ca u v h0 h1 b 54 := rfl
theorem net_55 (ca : Nat → ClassId) (u v : Nat → Nat) (h0 h1 b : Nat) : NetAt ca u v h0 h1 b 55 := rfl
theorem net_56 (ca : Nat → ClassId) (u v : Nat → Nat) (h0 h1 b : Nat) : NetAt ca u v h0 h1 b 56 := rfl
theorem net_57 (ca : Nat → ClassId) (u v : Nat → Nat) (h0 h1 b : Nat) : NetAt ca u v h0 h1 b 57 := rfl
theorem net_58 (ca : Nat → ClassId) (u v : Nat → Nat) (h0 h1 b : Nat) : NetAt ca u v h0 h1 b 58 := rfl
theorem net_59 (ca : Nat → ClassId) (u v : Nat → Nat) (h0 h1 b : Nat) : NetAt ca u v h0 h1 b 59 := rfl
theorem net_60 (ca : Nat → ClassId) (u v : Nat → Nat) (h0 h1 b : Nat) : NetAt ca u v h0 h1 b 60 := rfl
theorem net_61 (ca : Nat → ClassId) (u v : Nat → Nat) (h0 h1 b : Nat) : NetAt ca u v h0 h1 b 61 := rfl
theorem net_62 (ca : Nat → ClassId) (u v : Nat → Nat) (h0 h1 b : Nat) : NetAt ca u v h0 h1 b 62 := rfl
theorem net_63 (ca : Nat → ClassId) (u v : Nat → Nat) (h0 h1 b : Nat) : NetAt ca u v h0 h1 b 63 := rfl
theorem net_64 (ca : Nat → ClassId) (u v : Nat → Nat) (h0 h1 b : Nat) : NetAt ca u v h0 h1 b 64 := rfl
theorem net_65 (ca : Nat → ClassId) (u v : Nat → Nat) (h0 h1 b : Nat) : NetAt ca u v h0 h1 b 65 := rfl
theorem net_66 (ca : Nat → ClassId) (u v : Nat → Nat) (h0 h1 b : Nat) : NetAt ca u v h0 h1 b 66 := by
  unfold NetAt
  refine Eq.trans (b := some ((adF u v h0 h1 b 66, (Sum.inl (ca 3, 8, .inr (.inr (.inr (.inr (RW8 (fun i => u (62 + i))))))) : va_E)) : Nat × va_E)) rfl ?_
  rw [rows_66 u v h0 h1 b]
  rfl
theorem net_67 (ca : Nat → ClassId) (u v : Nat → Nat) (h0 h1 b : Nat) : NetAt ca u v h0 h1 b 67 := rfl
theorem net_68 (ca : Nat → ClassId) (u v : Nat → Nat) (h0 h1 b : Nat) : NetAt ca u v h0 h1 b 68 := rfl
theorem net_69 (ca : Nat → ClassId) (u v : Nat → Nat) (h0 h1 b : Nat) : NetAt ca u v h0 h1 b 69 := rfl
theorem net_70 (ca : Nat → ClassId) (u v : Nat → Nat) (h0 h1 b : Nat) : NetAt ca u v h0 h1 b 70 := rfl
theorem net_71 (ca : Nat → ClassId) (u v : Nat → Nat) (h0 h1 b : Nat) : NetAt ca u v h0 h1 b 71 := rfl
theorem net_72 (ca : Nat → ClassId) (u v : Nat → Nat) (h0 h1 b : Nat) : NetAt ca u v h0 h1 b 72 := rfl
theorem net_73 (ca : Nat → ClassId) (u v : Nat → Nat) (h0 h1 b : Nat) : NetAt ca u v h0 h1 b 73 := rfl
theorem net_74 (ca : Nat → ClassId) (u v : Nat → Nat) (h0 h1 b : Nat) : NetAt ca u v h0 h1 b 74 := rfl
theorem net_75 (ca : Nat → ClassId) (u v : Nat → Nat) (h0 h1 b : Nat) : NetAt ca u v h0 h1 b 75 := by
  unfold NetAt
  refine Eq.trans (b := some ((adF u v h0 h1 b 75, (Sum.inr (10, mi (fun j o => fv1 (adF u v h0 h1 b) o (mu0 75 j)) 0 [none, some 76, some 77, some 78, some 79, none, some 80, some 81, some 82, some 83, none, some 84, some 85, some 86, none, some 87, some 88, none, some 89, some 90, some 91, none, none, none, none, none, some 92, some 93, none, none, some 94, some 95, some 96, some 97, some 98, some 99]) : va_E)) : Nat × va_E)) rfl ?_
  rw [← ceK_o (adF u v h0 h1 b) ca (mu0 75) (nu0 75)]
  rfl
theorem net_76 (ca : Nat → ClassId) (u v : Nat → Nat) (h0 h1 b : Nat) : NetAt ca u v h0 h1 b 76 := rfl
theorem net_77 (ca : Nat → ClassId) (u v : Nat → Nat) (h0 h1 b : Nat) : NetAt ca u v h0 h1 b 77 := rfl
theorem net_78 (ca : Nat → ClassId) (u v : Nat → Nat) (h0 h1 b : Nat) : NetAt ca u v h0 h1 b 78 := rfl
theorem net_79 (ca : Nat → ClassId) (u v : Nat → Nat) (h0 h1 b : Nat) : NetAt ca u v h0 h1 b 79 := rfl
theorem net_80 (ca : Nat → ClassId) (u v : Nat → Nat) (h0 h1 b : Nat) : NetAt ca u v h0 h1 b 80 := rfl
theorem net_81 (ca : Nat → ClassId) (u v : Nat → Nat) (h0 h1 b : Nat) : NetAt ca u v h0 h1 b 81 := rfl
theorem net_82 (ca : Nat → ClassId) (u v : Nat → Nat) (h0 h1 b : Nat) : NetAt ca u v h0 h1 b 82 := rfl
theorem net_83 (ca : Nat → ClassId) (u v : Nat → Nat) (h0 h1 b : Nat) : NetAt ca u v h0 h1 b 83 := rfl
theorem net_84 (ca : Nat → ClassId) (u v : Nat → Nat) (h0 h1 b : Nat) : NetAt ca u v h0 h1 b 84 := rfl
theorem net_85 (ca : Nat → ClassId) (u v : Nat → Nat) (h0 h1 b : Nat) : NetAt ca u v h0 h1 b 85 := rfl
theorem net_86 (ca : Nat → ClassId) (u v : Nat → Nat) (h0 h1 b : Nat) : NetAt ca u v h0 h1 b 86 := rfl
theorem net_87 (ca : Nat → ClassId) (u v : Nat → Nat) (h0 h1 b : Nat) : NetAt ca u v h0 h1 b 87 := rfl
theorem net_88 (ca : Nat → ClassId) (u v : Nat → Nat) (h0 h1 b : Nat) : NetAt ca u v h0 h1 b 88 := rfl
theorem net_89 (ca : Nat → ClassId) (u v : Nat → Nat) (h0 h1 b : Nat) : NetAt ca u v h0 h1 b 89 := rfl
theorem net_90 (ca : Nat → ClassId) (u v : Nat → Nat) (h0 h1 b : Nat) : NetAt ca u v h0 h1 b 90 := rfl
theorem net_91 (ca : Nat → ClassId) (u v : Nat → Nat) (h0 h1 b : Nat) : NetAt ca u v h0 h1 b 91 := rfl
theorem net_92 (ca : Nat → ClassId) (u v : Nat → Nat) (h0 h1 b : Nat) : NetAt ca u v h0 h1 b 92 := rfl
theorem net_93 (ca : Nat → ClassId) (u v : Nat → Nat) (h0 h1 b : Nat) : NetAt ca u v h0 h1 b 93 := rfl
theorem net_94 (ca : Nat → ClassId) (u v : Nat → Nat) (h0 h1 b : Nat) : NetAt ca u v h0 h1 b 94 := rfl
theorem net_95 (ca : Nat → ClassId) (u v : Nat → Nat) (h0 h1 b : Nat) : NetAt ca u v h0 h1 b 95 := rfl
theorem net_96 (ca : Nat → ClassId) (u v : Nat → Nat) (h0 h1 b : Nat) : NetAt ca u v h0 h1 b 96 := rfl
theorem net_97 (ca : Nat → ClassId) (u v : Nat → Nat) (h0 h1 b : Nat) : NetAt ca u v h0 h1 b 97 := rfl
theorem net_98 (ca : Nat → ClassId) (u v : Nat → Nat) (h0 h1 b : Nat) : NetAt ca u v h0 h1 b 98 := rfl
theorem net_99 (ca : Nat → ClassId) (u v : Nat → Nat) (h0 h1 b : Nat) : NetAt ca u v h0 h1 b 99 := rfl
theorem net_get (ca : Nat → ClassId) (u v : Nat → Nat) (h0 h1 b : Nat) (k : Nat) (hk : k < 100) : (wAll ca u v h0 h1)[permL.getD k 0]? = some (adF u v h0 h1 b k, ceK (lay k) (adF u v h0 h1 b) ca (mu0 k) (nu0 k)) :=
  AllL_get (P := NetAt ca u v h0 h1 b) 100 0 ⟨net_0 ca u v h0 h1 b, net_1 ca u v h0 h1 b, net_2 ca u v h0 h1 b, net_3 ca u v h0 h1 b, net_4 ca u v h0 h1 b, net_5 ca u v h0 h1 b, net_6 ca u v h0 h1 b, net_7 ca u v h0 h1 b, net_8 ca u v h0 h1 b, net_9 ca u v h0 h1 b, net_10 ca u v h0 h1 b, net_11 ca u v h0 h1 b, net_12 ca u v h0 h1 b, net_13 ca u v h0 h1 b, net_14 ca u v h0 h1 b, net_15 ca u v h0 h1 b, net_16 ca u v h0 h1 b, net_17 ca u v h0 h1 b, net_18 ca u v h0 h1 b, net_19 ca u v h0 h1 b, net_20 ca u v h0 h1 b, net_21 ca u v h0 h1 b, net_22 ca u v h0 h1 b, net_23 ca u v h0 h1 b, net_24 ca u v h0 h1 b, net_25 ca u v h0 h1 b, net_26 ca u v h0 h1 b, net_27 ca u v h0 h1 b, net_28 ca u v h0 h1 b, net_29 ca u v h0 h1 b, net_30 ca u v h0 h1 b, net_31 ca u v h0 h1 b, net_32 ca u v h0 h1 b, net_33 ca u v h0 h1 b, net_34 ca u v h0 h1 b, net_35 ca u v h0 h1 b, net_36 ca u v h0 h1 b, net_37 ca u v h0 h1 b, net_38 ca u v h0 h1 b, net_39 ca u v h0 h1 b, net_40 ca u v h0 h1 b, net_41 ca u v h0 h1 b, net_42 ca u v h0 h1 b, net_43 ca u v h0 h1 b, net_44 ca u v h0 h1 b, net_45 ca u v h0 h1 b, net_46 ca u v h0 h1 b, net_47 ca u v h0 h1 b, net_48 ca u v h0 h1 b, net_49 ca u v h0 h1 b, net_50 ca u v h0 h1 b, net_51 ca u v h0 h1 b, net_52 ca u v h0 h1 b, net_53 ca u v h0 h1 b, net_54 ca u v h0 h1 b, net_55 ca u v h0 h1 b, net_56 ca u v h0 h1 b, net_57 ca u v h0 h1 b, net_58 ca u v h0 h1 b, net_59 ca u v h0 h1 b, net_60 ca u v h0 h1 b, net_61 ca u v h0 h1 b, net_62 ca u v h0 h1 b, net_63 ca u v h0 h1 b, net_64 ca u v h0 h1 b, net_65 ca u v h0 h1 b, net_66 ca u v h0 h1 b, net_67 ca u v h0 h1 b, net_68 ca u v h0 h1 b, net_69 ca u v h0 h1 b, net_70 ca u v h0 h1 b, net_71 ca u v h0 h1 b, net_72 ca u v h0 h1 b, net_73 ca u v h0 h1 b, net_74 ca u v h0 h1 b, net_75 ca u v h0 h1 b, net_76 ca u v h0 h1 b, net_77 ca u v h0 h1 b, net_78 ca u v h0 h1 b, net_79 ca u v h0 h1 b, net_80 ca u v h0 h1 b, net_81 ca u v h0 h1 b, net_82 ca u v h0 h1 b, net_83 ca u v h0 h1 b, net_84 ca u v h0 h1 b, net_85 ca u v h0 h1 b, net_86 ca u v h0 h1 b, net_87 ca u v h0 h1 b, net_88 ca u v h0 h1 b, net_89 ca u v h0 h1 b, net_90 ca u v h0 h1 b, net_91 ca u v h0 h1 b, net_92 ca u v h0 h1 b, net_93 ca u v h0 h1 b, net_94 ca u v h0 h1 b, net_95 ca u v h0 h1 b, net_96 ca u v h0 h1 b, net_97 ca u v h0 h1 b, net_98 ca u v h0 h1 b, net_99 ca u v h0 h1 b, trivial⟩ k (Nat.zero_le k) (by omega)
theorem net_P {dC : Nat → ClassId} {dI : Nat → Nat → Nat} {ca : Nat → ClassId} {u v : Nat → Nat} {h0 h1 : Nat} (b : Nat) {H : Heap} (hP : va_P (dC, dI) vwCl (wAll ca u v h0 h1) H) : va_P (dC, dI) vwCl (wl (adF u v h0 h1 b) ca mu0 nu0) H := by
  intro k q hq
  have hk := (wl_out hq).1
  rw [wl_get hk] at hq
  cases hq
  exact hP _ _ (net_get ca u v h0 h1 b k hk)
theorem perm_inj : ∀ i, i < 100 → ∀ j, j < 100 → permL.getD i 0 = permL.getD j 0 → i = j := by decide +kernel
theorem net_D {A : Nat → Prop} {ca : Nat → ClassId} {u v : Nat → Nat} {h0 h1 : Nat} (b : Nat) (hD : va_D A (wAll ca u v h0 h1)) : va_D A (wl (adF u v h0 h1 b) ca mu0 nu0) := by
  refine ⟨fun i j p q hi hj hpq => ?_, fun k q hk => ?_⟩
  · have a1 := (wl_out hi).1
    have b1 := (wl_out hj).1
    rw [wl_get a1] at hi
    rw [wl_get b1] at hj
    cases hi
    cases hj
    exact perm_inj i a1 j b1 (hD.1 _ _ _ _ (net_get ca u v h0 h1 b i a1) (net_get ca u v h0 h1 b j b1) hpq)
  · have a1 := (wl_out hk).1
    rw [wl_get a1] at hk
    cases hk
    exact hD.2 _ _ (net_get ca u v h0 h1 b k a1)
theorem ca_ex {s : State} {args : Array Value} {ty : FieldType} (hty : ty = .int ∨ ty = .boolean ∨ ty = .long) (h : (Cond.arrayClass ty).before args s = true) : ∃ cA : ClassId, ArrOfT s cA ty ∧ va_RA s cA ty := by
  obtain ⟨cA, k, comp, h1, h2, h3⟩ := Cond.arrayClass_spec h
  refine ⟨cA, fun n z => ⟨fun q hq => (by cases hq), k, h2, comp, h3⟩, ?_⟩
  rcases hty with rfl | rfl | rfl <;> exact h1
theorem ca_ex2 {s : State} {args : Array Value} (h : (Cond.arrayOver (.array .int)).before args s = true) : ∃ cA : ClassId, ArrOfT s cA (.array .int) ∧ va_RA s cA (.array .int) := by
  obtain ⟨comp, cA, k, h1, h2, h3, h4⟩ := Cond.arrayOver_specA h
  exact ⟨cA, fun n z => ⟨fun q hq => (by cases hq), k, h2, comp, h3⟩, h4⟩
