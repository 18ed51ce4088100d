/-! the constructors of the class: what they make -/
section TC
variable {sc : Nat × (Nat → Int32)} {d y nx : Nat} {hd : List (Int × Nat)} {L st : List Value} {cu su : Nat} {i : Nat → Nat → Int32} {r : Nat → Nat → Value} {f t a n c s : Nat} {K : Option (Option Value) → kS → Prop}
def zL : Nat → Nat → Int64 := fun _ _ => 0
def fI (i : Nat → Nat → Int32) (n : Nat) : Nat → Nat → Int32 := fun a k => if a = n then 0 else i a k
def fR (r : Nat → Nat → Value) (n : Nat) : Nat → Nat → Value := fun a k => if a = n then .null else r a k
theorem kfr {w : Nat} : kfresh ((n, c, s), i, zL, r) w = ((n + 1, c + 1, s + w), fI i n, zL, fR r n) := by
  have e : (fun (a k : Nat) => if a = n then (0 : Int64) else zL a k) = zL := by funext a k; unfold zL; split <;> rfl
  show ((n + 1, c + 1, s + w), fI i n, (fun (a k : Nat) => if a = n then (0 : Int64) else zL a k), fR r n) = _
  rw [e]
theorem kobT {ci : Nat} (h1 : a < n) (h2 : kSH a = .inl ci) : kob (n, c, s) a ci = True := eq_true ⟨h1, h2⟩
theorem karT {j : Int32} {b w : Nat} (h1 : a < n) (h2 : klen a b = w) (h3 : kin j w) : kar (n, c, s) a b j = True := eq_true ⟨h1, by rw [h2]; exact h3⟩
/-- what is made and set: (0, n) a fresh cell, (1, a, k, v) a number, (2, a, k, _, x) a reference -/
abbrev Op := Nat × Nat × Nat × Int32 × Nat
def exI : List Op → (Nat → Nat → Int32) → Nat → Nat → Int32
  | [], i => i
  | (0, n, _, _, _) :: t, i => exI t (fI i n)
  | (1, a, k, v, _) :: t, i => exI t (kupi i a k v)
  | (_, _, _, _, _) :: t, i => exI t i
def exR : List Op → (Nat → Nat → Value) → Nat → Nat → Value
  | [], r => r
  | (0, n, _, _, _) :: t, r => exR t (fR r n)
  | (2, a, k, _, x) :: t, r => exR t (kupr r a k (.ref x))
  | (_, _, _, _, _) :: t, r => exR t r
theorem exI_app : ∀ (p q : List Op) (i : Nat → Nat → Int32), exI (p ++ q) i = exI q (exI p i) := by
  intro p
  induction p with
  | nil => intro q i; rfl
  | cons o p ih =>
    intro q i
    obtain ⟨g, a, k, v, x⟩ := o
    match g with
    | 0 => exact ih q _
    | 1 => exact ih q _
    | g + 2 => exact ih q _
theorem exR_app : ∀ (p q : List Op) (r : Nat → Nat → Value), exR (p ++ q) r = exR q (exR p r) := by
  intro p
  induction p with
  | nil => intro q r; rfl
  | cons o p ih =>
    intro q r
    obtain ⟨g, a, k, v, x⟩ := o
    match g with
    | 0 => exact ih q _
    | 1 => exact ih q _
    | 2 => exact ih q _
    | g + 3 => exact ih q _
/-- a new Night at a -/
def opX (a : Nat) : List Op := [(1, a, 0, 0, 0), (1, a, 1, -1, 0), (1, a, 2, 0, 0), (1, a, 3, 20, 0), (1, a, 4, 0, 0), (1, a, 5, 0, 0), (1, a, 6, -1, 0), (1, a, 7, -1, 0), (0, a + 1, 0, 0, 0), (2, a, 8, 0, a + 1), (0, a + 2, 0, 0, 0), (2, a, 9, 0, a + 2)]
theorem n_X1 (h0 : kSH a = .inl 1) (h1 : kSH (a + 1) = .inr (0, 8)) (h2 : kSH (a + 2) = .inr (0, 8)) : kCA sc (d + 1) 3 [.ref a] y nx hd L st ((a + 1, a + 1, su), i, zL, r) K = kWP sc (d + 1) y nx L st ((a + 3, a + 3, su + 8 + 8), exI (opX a) i, zL, exR (opX a) r) K := by
  refine kCA_of (d := d) (v := none) (fun K => ?_)
  rw [km_3]
  show kWP sc d 3 0 [.ref a] [] _ K = _
  simp only [e_X1_init_0, e_X1_init_1, e_X1_init_4, e_X1_init_5, kobT (n := a + 1) (a := a) (ci := 1) (by omega) h0, e_X1_init_6, e_X1_init_9, e_X1_init_10, kobT (n := a + 1) (a := a) (ci := 1) (by omega) h0, e_X1_init_11, e_X1_init_14, e_X1_init_15, kobT (n := a + 1) (a := a) (ci := 1) (by omega) h0, e_X1_init_16, e_X1_init_19, e_X1_init_20, kobT (n := a + 1) (a := a) (ci := 1) (by omega) h0, e_X1_init_22, e_X1_init_25, e_X1_init_26, kobT (n := a + 1) (a := a) (ci := 1) (by omega) h0, e_X1_init_27, e_X1_init_30, e_X1_init_31, kobT (n := a + 1) (a := a) (ci := 1) (by omega) h0, e_X1_init_32, e_X1_init_35, e_X1_init_36, kobT (n := a + 1) (a := a) (ci := 1) (by omega) h0, e_X1_init_37, e_X1_init_40, e_X1_init_41, kobT (n := a + 1) (a := a) (ci := 1) (by omega) h0, e_X1_init_42, e_X1_init_45, e_X1_init_46, e_X1_init_48 (u := (a + 1, a + 1, _)) (p := 8) (m := 8) rfl ⟨rfl, by decide, by decide, h1⟩, kobT (n := a + 2) (a := a) (ci := 1) (by omega) h0, e_X1_init_50, e_X1_init_53, e_X1_init_54, e_X1_init_56 (u := (a + 2, a + 2, _)) (p := 8) (m := 8) rfl ⟨rfl, by decide, by decide, h2⟩, kobT (n := a + 3) (a := a) (ci := 1) (by omega) h0, e_X1_init_58, e_X1_init_61, kfr, show a + 1 + 1 = a + 2 from rfl, show a + 2 + 1 = a + 3 from rfl, true_and]
  rfl
def op_T : List Op := [(0, 2, 0, 0, 0), (2, 1, 0, 0, 2), (1, 1, 1, 0, 0)]
theorem n_T : kCA sc (d + 1) 87 [.ref 1] y nx hd L st ((2, 2, su), i, zL, r) K = kWP sc (d + 1) y nx L st ((3, 3, su + 80), exI op_T i, zL, exR op_T r) K := by
  refine kCA_of (d := d) (v := none) (fun K => ?_)
  rw [km_87]
  show kWP sc d 87 0 [.ref 1] [] _ K = _
  simp only [e_X9_init_0, e_X9_init_1, e_X9_init_4, e_X9_init_5, e_X9_init_7 (u := (2, 2, _)) (p := 80) (m := 80) rfl ⟨rfl, by decide, by decide, rfl⟩, kobT (n := 3) (a := 1) (ci := 9) (by decide) rfl, e_X9_init_9, e_X9_init_12, e_X9_init_13, kobT (n := 3) (a := 1) (ci := 9) (by decide) rfl, e_X9_init_14, e_X9_init_17, kfr, Nat.add_assoc, true_or, or_true, and_self, true_and]
  rfl
def op_R : List Op := [(0, 4, 0, 0, 0), (2, 3, 0, 0, 4), (1, 3, 1, 0, 0)]
theorem n_R : kCA sc (d + 1) 39 [.ref 3] y nx hd L st ((4, 4, su), i, zL, r) K = kWP sc (d + 1) y nx L st ((5, 5, su + 128), exI op_R i, zL, exR op_R r) K := by
  refine kCA_of (d := d) (v := none) (fun K => ?_)
  rw [km_39]
  show kWP sc d 39 0 [.ref 3] [] _ K = _
  simp only [e_X4_init_0, e_X4_init_1, e_X4_init_4, e_X4_init_5, e_X4_init_8 (u := (4, 4, _)) (p := 128) (m := 128) rfl ⟨rfl, by decide, by decide, rfl⟩, kobT (n := 5) (a := 3) (ci := 4) (by decide) rfl, e_X4_init_10, e_X4_init_13, e_X4_init_14, kobT (n := 5) (a := 3) (ci := 4) (by decide) rfl, e_X4_init_15, e_X4_init_18, kfr, Nat.add_assoc, true_or, or_true, and_self, true_and]
  rfl
def op_P : List Op := [(1, 5, 0, 0, 0), (0, 6, 0, 0, 0), (2, 5, 1, 0, 6), (0, 7, 0, 0, 0), (2, 5, 2, 0, 7), (0, 8, 0, 0, 0), (2, 5, 3, 0, 8), (0, 9, 0, 0, 0), (1, 9, 0, 1, 0), (1, 9, 1, 1, 0), (1, 9, 2, 1, 0), (1, 9, 3, 1, 0), (1, 9, 4, 1, 0), (1, 9, 5, 1, 0), (1, 9, 6, 1, 0), (1, 9, 7, 1, 0), (2, 5, 4, 0, 9)]
theorem n_P : kCA sc (d + 1) 27 [.ref 5] y nx hd L st ((6, 6, su), i, zL, r) K = kWP sc (d + 1) y nx L st ((10, 10, su + 32), exI op_P i, zL, exR op_P r) K := by
  refine kCA_of (d := d) (v := none) (fun K => ?_)
  rw [km_27]
  show kWP sc d 27 0 [.ref 5] [] _ K = _
  simp only [e_X3_init_0, e_X3_init_1, e_X3_init_4, e_X3_init_5, kobT (n := 6) (a := 5) (ci := 3) (by decide) rfl, e_X3_init_6, e_X3_init_9, e_X3_init_10, e_X3_init_12 (u := (6, 6, _)) (p := 8) (m := 8) rfl ⟨rfl, by decide, by decide, rfl⟩, kobT (n := 7) (a := 5) (ci := 3) (by decide) rfl, e_X3_init_14, e_X3_init_17, e_X3_init_18, e_X3_init_20 (u := (7, 7, _)) (p := 8) (m := 8) rfl ⟨rfl, by decide, by decide, rfl⟩, kobT (n := 8) (a := 5) (ci := 3) (by decide) rfl, e_X3_init_22, e_X3_init_25, e_X3_init_26, e_X3_init_28 (u := (8, 8, _)) (p := 8) (m := 8) rfl ⟨rfl, by decide, by decide, rfl⟩, kobT (n := 9) (a := 5) (ci := 3) (by decide) rfl, e_X3_init_30, e_X3_init_33, e_X3_init_34, e_X3_init_36 (u := (9, 9, _)) (p := 8) (m := 8) rfl ⟨rfl, by decide, by decide, rfl⟩, e_X3_init_38, e_X3_init_39, e_X3_init_40, karT (n := 10) (a := 9) (j := 0) (b := 0) (w := 8) (by decide) rfl (by decide), e_X3_init_41, e_X3_init_42, e_X3_init_43, e_X3_init_44, karT (n := 10) (a := 9) (j := 1) (b := 0) (w := 8) (by decide) rfl (by decide), e_X3_init_45, e_X3_init_46, e_X3_init_47, e_X3_init_48, karT (n := 10) (a := 9) (j := 2) (b := 0) (w := 8) (by decide) rfl (by decide), e_X3_init_49, e_X3_init_50, e_X3_init_51, e_X3_init_52, karT (n := 10) (a := 9) (j := 3) (b := 0) (w := 8) (by decide) rfl (by decide), e_X3_init_53, e_X3_init_54, e_X3_init_55, e_X3_init_56, karT (n := 10) (a := 9) (j := 4) (b := 0) (w := 8) (by decide) rfl (by decide), e_X3_init_57, e_X3_init_58, e_X3_init_59, e_X3_init_60, karT (n := 10) (a := 9) (j := 5) (b := 0) (w := 8) (by decide) rfl (by decide), e_X3_init_61, e_X3_init_62, e_X3_init_63, e_X3_init_65, karT (n := 10) (a := 9) (j := 6) (b := 0) (w := 8) (by decide) rfl (by decide), e_X3_init_66, e_X3_init_67, e_X3_init_68, e_X3_init_70, karT (n := 10) (a := 9) (j := 7) (b := 0) (w := 8) (by decide) rfl (by decide), e_X3_init_71, kobT (n := 10) (a := 5) (ci := 3) (by decide) rfl, e_X3_init_72, e_X3_init_75, kfr, Nat.add_assoc, true_or, or_true, and_self, true_and]
  rfl
def op_U : List Op := [(0, 75, 0, 0, 0), (2, 74, 0, 0, 75), (0, 76, 0, 0, 0), (2, 74, 1, 0, 76), (1, 74, 2, 0, 0)]
theorem n_U : kCA sc (d + 1) 59 [.ref 74] y nx hd L st ((75, 75, su), i, zL, r) K = kWP sc (d + 1) y nx L st ((77, 77, su + 24), exI op_U i, zL, exR op_U r) K := by
  refine kCA_of (d := d) (v := none) (fun K => ?_)
  rw [km_59]
  show kWP sc d 59 0 [.ref 74] [] _ K = _
  simp only [e_X6_init_0, e_X6_init_1, e_X6_init_4, e_X6_init_5, e_X6_init_7 (u := (75, 75, _)) (p := 12) (m := 12) rfl ⟨rfl, by decide, by decide, rfl⟩, kobT (n := 76) (a := 74) (ci := 6) (by decide) rfl, e_X6_init_9, e_X6_init_12, e_X6_init_13, e_X6_init_15 (u := (76, 76, _)) (p := 12) (m := 12) rfl ⟨rfl, by decide, by decide, rfl⟩, kobT (n := 77) (a := 74) (ci := 6) (by decide) rfl, e_X6_init_17, e_X6_init_20, e_X6_init_21, kobT (n := 77) (a := 74) (ci := 6) (by decide) rfl, e_X6_init_22, e_X6_init_25, kfr, Nat.add_assoc, true_or, or_true, and_self, true_and]
  rfl
def op_S : List Op := [(0, 78, 0, 0, 0), (2, 77, 1, 0, 78), (0, 79, 0, 0, 0), (2, 77, 2, 0, 79), (0, 80, 0, 0, 0), (2, 77, 3, 0, 80), (2, 77, 0, 0, 5)]
theorem n_S : kCA sc (d + 1) 66 [.ref 77, .ref 5] y nx hd L st ((78, 78, su), i, zL, r) K = kWP sc (d + 1) y nx L st ((81, 81, su + 2321), exI op_S i, zL, exR op_S r) K := by
  refine kCA_of (d := d) (v := none) (fun K => ?_)
  rw [km_66]
  show kWP sc d 66 0 [.ref 77, .ref 5] [] _ K = _
  simp only [e_X7_init_0, e_X7_init_1, e_X7_init_4, e_X7_init_5, e_X7_init_8 (u := (78, 78, _)) (p := 2304) (m := 2304) rfl ⟨rfl, by decide, by decide, rfl⟩, kobT (n := 79) (a := 77) (ci := 7) (by decide) rfl, e_X7_init_10, e_X7_init_13, e_X7_init_14, e_X7_init_16 (u := (79, 79, _)) (p := 8) (m := 8) rfl ⟨rfl, by decide, by decide, rfl⟩, kobT (n := 80) (a := 77) (ci := 7) (by decide) rfl, e_X7_init_18, e_X7_init_21, e_X7_init_22, e_X7_init_24 (u := (80, 80, _)) (p := 9) (m := 9) rfl ⟨rfl, by decide, by decide, rfl⟩, kobT (n := 81) (a := 77) (ci := 7) (by decide) rfl, e_X7_init_26, e_X7_init_29, e_X7_init_30, kobT (n := 81) (a := 77) (ci := 7) (by decide) rfl, e_X7_init_31, e_X7_init_34, kfr, Nat.add_assoc, true_or, or_true, and_self, true_and]
  rfl
def op_K : List Op := [(0, 82, 0, 0, 0), (2, 81, 0, 0, 82), (0, 83, 0, 0, 0), (2, 81, 1, 0, 83)]
theorem n_K : kCA sc (d + 1) 83 [.ref 81] y nx hd L st ((82, 82, su), i, zL, r) K = kWP sc (d + 1) y nx L st ((84, 84, su + 122), exI op_K i, zL, exR op_K r) K := by
  refine kCA_of (d := d) (v := none) (fun K => ?_)
  rw [km_83]
  show kWP sc d 83 0 [.ref 81] [] _ K = _
  simp only [e_X8_init_0, e_X8_init_1, e_X8_init_4, e_X8_init_5, e_X8_init_7 (u := (82, 82, _)) (p := 61) (m := 61) rfl ⟨rfl, by decide, by decide, rfl⟩, kobT (n := 83) (a := 81) (ci := 8) (by decide) rfl, e_X8_init_9, e_X8_init_12, e_X8_init_13, e_X8_init_15 (u := (83, 83, _)) (p := 61) (m := 61) rfl ⟨rfl, by decide, by decide, rfl⟩, kobT (n := 84) (a := 81) (ci := 8) (by decide) rfl, e_X8_init_17, e_X8_init_20, kfr, Nat.add_assoc, true_or, or_true, and_self, true_and]
  rfl
def op_D : List Op := [(1, 84, 0, 0, 0)]
theorem n_D : kCA sc (d + 1) 0 [.ref 84] y nx hd L st ((85, 85, su), i, zL, r) K = kWP sc (d + 1) y nx L st ((85, 85, su + 0), exI op_D i, zL, exR op_D r) K := by
  refine kCA_of (d := d) (v := none) (fun K => ?_)
  rw [km_0]
  show kWP sc d 0 0 [.ref 84] [] _ K = _
  simp only [e_X0_init_0, e_X0_init_1, e_X0_init_4, e_X0_init_5, kobT (n := 85) (a := 84) (ci := 0) (by decide) rfl, e_X0_init_6, e_X0_init_9, kfr, Nat.add_assoc, true_or, or_true, and_self, true_and]
  rfl
def op_L5 : List Op := [(0, 86, 0, 0, 0), (2, 85, 1, 0, 86), (1, 85, 2, 0, 0), (0, 87, 0, 0, 0), (2, 85, 3, 0, 87), (1, 85, 4, 0, 0), (1, 85, 5, 0, 0), (1, 85, 6, 0, 0), (1, 85, 7, 1, 0), (2, 85, 0, 0, 1)]
theorem n_L5 : kCA sc (d + 1) 43 [.ref 85, .ref 1] y nx hd L st ((86, 86, su), i, zL, r) K = kWP sc (d + 1) y nx L st ((88, 88, su + 80), exI op_L5 i, zL, exR op_L5 r) K := by
  refine kCA_of (d := d) (v := none) (fun K => ?_)
  rw [km_43]
  show kWP sc d 43 0 [.ref 85, .ref 1] [] _ K = _
  simp only [e_X5_init_0, e_X5_init_1, e_X5_init_4, e_X5_init_5, e_X5_init_7 (u := (86, 86, _)) (p := 40) (m := 40) rfl ⟨rfl, by decide, by decide, rfl⟩, kobT (n := 87) (a := 85) (ci := 5) (by decide) rfl, e_X5_init_9, e_X5_init_12, e_X5_init_13, kobT (n := 87) (a := 85) (ci := 5) (by decide) rfl, e_X5_init_14, e_X5_init_17, e_X5_init_18, e_X5_init_20 (u := (87, 87, _)) (p := 40) (m := 40) rfl ⟨rfl, by decide, by decide, rfl⟩, kobT (n := 88) (a := 85) (ci := 5) (by decide) rfl, e_X5_init_22, e_X5_init_25, e_X5_init_26, kobT (n := 88) (a := 85) (ci := 5) (by decide) rfl, e_X5_init_27, e_X5_init_30, e_X5_init_31, kobT (n := 88) (a := 85) (ci := 5) (by decide) rfl, e_X5_init_32, e_X5_init_35, e_X5_init_36, kobT (n := 88) (a := 85) (ci := 5) (by decide) rfl, e_X5_init_37, e_X5_init_40, e_X5_init_41, kobT (n := 88) (a := 85) (ci := 5) (by decide) rfl, e_X5_init_42, e_X5_init_45, e_X5_init_46, kobT (n := 88) (a := 85) (ci := 5) (by decide) rfl, e_X5_init_47, e_X5_init_50, kfr, Nat.add_assoc, true_or, or_true, and_self, true_and]
  rfl
def op_L8 : List Op := [(0, 89, 0, 0, 0), (2, 88, 1, 0, 89), (1, 88, 2, 0, 0), (0, 90, 0, 0, 0), (2, 88, 3, 0, 90), (1, 88, 4, 0, 0), (1, 88, 5, 0, 0), (1, 88, 6, 0, 0), (1, 88, 7, 1, 0), (2, 88, 0, 0, 1)]
theorem n_L8 : kCA sc (d + 1) 43 [.ref 88, .ref 1] y nx hd L st ((89, 89, su), i, zL, r) K = kWP sc (d + 1) y nx L st ((91, 91, su + 80), exI op_L8 i, zL, exR op_L8 r) K := by
  refine kCA_of (d := d) (v := none) (fun K => ?_)
  rw [km_43]
  show kWP sc d 43 0 [.ref 88, .ref 1] [] _ K = _
  simp only [e_X5_init_0, e_X5_init_1, e_X5_init_4, e_X5_init_5, e_X5_init_7 (u := (89, 89, _)) (p := 40) (m := 40) rfl ⟨rfl, by decide, by decide, rfl⟩, kobT (n := 90) (a := 88) (ci := 5) (by decide) rfl, e_X5_init_9, e_X5_init_12, e_X5_init_13, kobT (n := 90) (a := 88) (ci := 5) (by decide) rfl, e_X5_init_14, e_X5_init_17, e_X5_init_18, e_X5_init_20 (u := (90, 90, _)) (p := 40) (m := 40) rfl ⟨rfl, by decide, by decide, rfl⟩, kobT (n := 91) (a := 88) (ci := 5) (by decide) rfl, e_X5_init_22, e_X5_init_25, e_X5_init_26, kobT (n := 91) (a := 88) (ci := 5) (by decide) rfl, e_X5_init_27, e_X5_init_30, e_X5_init_31, kobT (n := 91) (a := 88) (ci := 5) (by decide) rfl, e_X5_init_32, e_X5_init_35, e_X5_init_36, kobT (n := 91) (a := 88) (ci := 5) (by decide) rfl, e_X5_init_37, e_X5_init_40, e_X5_init_41, kobT (n := 91) (a := 88) (ci := 5) (by decide) rfl, e_X5_init_42, e_X5_init_45, e_X5_init_46, kobT (n := 91) (a := 88) (ci := 5) (by decide) rfl, e_X5_init_47, e_X5_init_50, kfr, Nat.add_assoc, true_or, or_true, and_self, true_and]
  rfl
end TC
