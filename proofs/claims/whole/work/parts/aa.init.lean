/-! the constructor of the class -/
section TC
variable {sc : Nat × (Nat → Int32)} {d y nx : Nat} {hd : List (Int × Nat)} {L st : List Value} {cu su : Nat} {i : Nat → Nat → Int32} {r : Nat → Nat → Value} {f t a n c s x : Nat} {K : Option (Option Value) → kS → Prop}
theorem exR_k {c k : Nat} : ∀ (p : List Op) (r : Nat → Nat → Value), p.all (fun o => (o.1 == 1 || o.2.1 != c) || (o.1 == 2 && o.2.2.1 != k)) = true → exR p r c k = r c k := by
  intro p
  induction p with
  | nil => intro r _; rfl
  | cons o p ih =>
    intro r h
    obtain ⟨g, a, z, v, x⟩ := o
    rw [List.all_cons, Bool.and_eq_true] at h
    obtain ⟨h1, h2⟩ := h
    match g, h1 with
    | 0, h1 =>
      have e : c ≠ a := by intro e; subst e; simp at h1
      show exR p (fR r a) c k = _
      rw [ih _ h2]; unfold fR; rw [if_neg e]
    | 1, h1 => exact ih _ h2
    | 2, h1 =>
      show exR p (kupr r a z (.ref x)) c k = _
      rw [ih _ h2]; unfold kupr
      rw [if_neg]
      rintro ⟨e1, e2⟩
      subst e1; subst e2; simp at h1
    | g + 3, h1 => exact ih _ h2
def op_B1 : List Op := (0, 1, 0, 0, 0) :: (op_T ++ ((2, 0, 0, 0, 1) :: (0, 3, 0, 0, 0) :: (op_R ++ ((2, 0, 1, 0, 3) :: (0, 5, 0, 0, 0) :: (op_P ++ ((2, 0, 2, 0, 5) :: (0, 10, 0, 0, 0) :: (opX 10 ++ ((2, 0, 3, 0, 10) :: (0, 13, 0, 0, 0) :: (opX 13 ++ ((2, 0, 4, 0, 13) :: (0, 16, 0, 0, 0) :: (op_A ++ ((2, 0, 5, 0, 16) :: (0, 74, 0, 0, 0) :: (op_U ++ ((2, 0, 6, 0, 74) :: []))))))))))))))
def op_B2 : List Op := (0, 77, 0, 0, 0) :: (op_S ++ ((2, 0, 7, 0, 77) :: (0, 81, 0, 0, 0) :: (op_K ++ ((2, 0, 8, 0, 81) :: (0, 84, 0, 0, 0) :: (op_D ++ ((2, 0, 9, 0, 84) :: []))))))
def op_B3 : List Op := (0, 85, 0, 0, 0) :: (op_L5 ++ ((2, 0, 10, 0, 85) :: (0, 88, 0, 0, 0) :: (op_L8 ++ ((2, 0, 11, 0, 88) :: []))))
theorem n_B1 : kWP sc (d + 5) 94 0 [.ref 0] [] ((1, 1, 12), i, zL, r) K = kWP sc (d + 5) 94 81 [.ref 0] [] ((77, 77, 833), exI op_B1 i, zL, exR op_B1 r) K := by
  simp only [e_X10_init_5 (u := (1, 1, _)) ⟨rfl, rfl⟩, kobT (n := 2) (a := 1) (ci := 9) (by decide) rfl, kobT (n := 3) (a := 0) (ci := 10) (by decide) rfl, kobT (n := 2) (a := 0) (ci := 10) (by decide) rfl, n_T, e_X10_init_16 (u := (3, 3, _)) ⟨rfl, rfl⟩, kobT (n := 4) (a := 3) (ci := 4) (by decide) rfl, kobT (n := 5) (a := 0) (ci := 10) (by decide) rfl, kobT (n := 4) (a := 0) (ci := 10) (by decide) rfl, n_R, e_X10_init_27 (u := (5, 5, _)) ⟨rfl, rfl⟩, kobT (n := 6) (a := 5) (ci := 3) (by decide) rfl, kobT (n := 10) (a := 0) (ci := 10) (by decide) rfl, kobT (n := 6) (a := 0) (ci := 10) (by decide) rfl, n_P, e_X10_init_38 (u := (10, 10, _)) ⟨rfl, rfl⟩, kobT (n := 11) (a := 10) (ci := 1) (by decide) rfl, kobT (n := 13) (a := 0) (ci := 10) (by decide) rfl, kobT (n := 11) (a := 0) (ci := 10) (by decide) rfl, n_X1 (a := 10) rfl rfl rfl, e_X10_init_49 (u := (13, 13, _)) ⟨rfl, rfl⟩, kobT (n := 14) (a := 13) (ci := 1) (by decide) rfl, kobT (n := 16) (a := 0) (ci := 10) (by decide) rfl, kobT (n := 14) (a := 0) (ci := 10) (by decide) rfl, n_X1 (a := 13) rfl rfl rfl, e_X10_init_60 (u := (16, 16, _)) ⟨rfl, rfl⟩, kobT (n := 17) (a := 16) (ci := 2) (by decide) rfl, kobT (n := 74) (a := 0) (ci := 10) (by decide) rfl, kobT (n := 17) (a := 0) (ci := 10) (by decide) rfl, n_A, e_X10_init_71 (u := (74, 74, _)) ⟨rfl, rfl⟩, kobT (n := 75) (a := 74) (ci := 6) (by decide) rfl, kobT (n := 77) (a := 0) (ci := 10) (by decide) rfl, kobT (n := 75) (a := 0) (ci := 10) (by decide) rfl, n_U, e_X10_init_0, e_X10_init_1, e_X10_init_4, e_X10_init_8, e_X10_init_9, e_X10_init_12, e_X10_init_15, e_X10_init_19, e_X10_init_20, e_X10_init_23, e_X10_init_26, e_X10_init_30, e_X10_init_31, e_X10_init_34, e_X10_init_37, e_X10_init_41, e_X10_init_42, e_X10_init_45, e_X10_init_48, e_X10_init_52, e_X10_init_53, e_X10_init_56, e_X10_init_59, e_X10_init_63, e_X10_init_64, e_X10_init_67, e_X10_init_70, e_X10_init_74, e_X10_init_75, e_X10_init_78, kfr, Nat.reduceAdd,  true_and]
  simp only [op_B1, exI, exR, exI_app, exR_app]
theorem n_B2 (h2 : r 0 2 = .ref 5) : kWP sc (d + 5) 94 81 [.ref 0] [] ((77, 77, 833), i, zL, r) K = kWP sc (d + 5) 94 118 [.ref 0] [] ((85, 85, 3283), exI op_B2 i, zL, exR op_B2 r) K := by
  have fR2 : fR r 77 0 2 = .ref 5 := by rw [fR_o (by decide)]; exact h2
  simp only [e_X10_init_82 (u := (77, 77, _)) ⟨rfl, rfl⟩, kobT (n := 78) (a := 77) (ci := 7) (by decide) rfl, kobT (n := 81) (a := 0) (ci := 10) (by decide) rfl, kobT (n := 78) (a := 0) (ci := 10) (by decide) rfl, n_S, e_X10_init_97 (u := (81, 81, _)) ⟨rfl, rfl⟩, kobT (n := 82) (a := 81) (ci := 8) (by decide) rfl, kobT (n := 84) (a := 0) (ci := 10) (by decide) rfl, kobT (n := 82) (a := 0) (ci := 10) (by decide) rfl, n_K, e_X10_init_108 (u := (84, 84, _)) ⟨rfl, rfl⟩, kobT (n := 85) (a := 84) (ci := 0) (by decide) rfl, kobT (n := 85) (a := 0) (ci := 10) (by decide) rfl, kobT (n := 85) (a := 0) (ci := 10) (by decide) rfl, n_D, e_X10_init_81, e_X10_init_85, e_X10_init_86, e_X10_init_87, e_X10_init_90, e_X10_init_93, e_X10_init_96, e_X10_init_100, e_X10_init_101, e_X10_init_104, e_X10_init_107, e_X10_init_111, e_X10_init_112, e_X10_init_115, kfr, Nat.reduceAdd, h2, fR2, true_and]
  simp only [op_B2, exI, exR, exI_app, exR_app]
theorem n_B3 (h0 : r 0 0 = .ref 1) : kWP sc (d + 5) 94 118 [.ref 0] [] ((85, 85, 3283), i, zL, r) K = kWP sc (d + 5) 94 148 [.ref 0] [] ((91, 91, 3459), exI op_B3 i, zL, exR op_B3 r) K := by
  have fR3 : fR r 85 0 0 = .ref 1 := by rw [fR_o (by decide)]; exact h0
  have fR4 : fR (kupr (exR op_L5 (fR r 85)) 0 10 (.ref 85)) 88 0 0 = .ref 1 := by rw [fR_o (by decide)]; exact h0
  simp only [e_X10_init_119 (u := (85, 85, _)) ⟨rfl, rfl⟩, kobT (n := 86) (a := 85) (ci := 5) (by decide) rfl, kobT (n := 88) (a := 0) (ci := 10) (by decide) rfl, kobT (n := 86) (a := 0) (ci := 10) (by decide) rfl, n_L5, e_X10_init_134 (u := (88, 88, _)) ⟨rfl, rfl⟩, kobT (n := 89) (a := 88) (ci := 5) (by decide) rfl, kobT (n := 91) (a := 0) (ci := 10) (by decide) rfl, kobT (n := 89) (a := 0) (ci := 10) (by decide) rfl, n_L8, e_X10_init_118, e_X10_init_122, e_X10_init_123, e_X10_init_124, e_X10_init_127, e_X10_init_130, e_X10_init_133, e_X10_init_137, e_X10_init_138, e_X10_init_139, e_X10_init_142, e_X10_init_145, kfr, Nat.reduceAdd, h0, fR3, fR4, true_and]
  simp only [op_B3, exI, exR, exI_app, exR_app]
def op_B : List Op := op_B1 ++ (op_B2 ++ op_B3)
theorem n_B : kWP sc (d + 5) 94 0 [.ref 0] [] ((1, 1, 12), i, zL, r) K = kWP sc (d + 5) 94 148 [.ref 0] [] ((91, 91, 3459), exI op_B i, zL, exR op_B r) K := by
  have h2 : exR op_B1 r 0 2 = .ref 5 := by
    have e : op_B1 = op_B1.take 28 ++ ((2, 0, 2, 0, 5) :: op_B1.drop 29) := by decide +kernel
    rw [e, exR_app]
    show exR (op_B1.drop 29) (kupr (exR (op_B1.take 28) r) 0 2 (.ref 5)) 0 2 = _
    rw [exR_k _ _ (by decide +kernel)]
    rfl
  have h0 : exR op_B2 (exR op_B1 r) 0 0 = .ref 1 := by
    rw [exR_k _ _ (by decide +kernel)]
    have e : op_B1 = op_B1.take 4 ++ ((2, 0, 0, 0, 1) :: op_B1.drop 5) := by decide +kernel
    rw [e, exR_app]
    show exR (op_B1.drop 5) (kupr (exR (op_B1.take 4) r) 0 0 (.ref 1)) 0 0 = _
    rw [exR_k _ _ (by decide +kernel)]
    rfl
  rw [n_B1, n_B2 h2, n_B3 h0]
  unfold op_B
  rw [exI_app, exI_app, exR_app, exR_app]
end TC
