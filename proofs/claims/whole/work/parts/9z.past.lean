/-! the constructors of the class: the past -/
section TC
variable {sc : Nat × (Nat → Int32)} {d y nx : Nat} {hd : List (Int × Nat)} {L st : List Value} {cu su : Nat} {i : Nat → Nat → Int32} {r : Nat → Nat → Value} {f t a n c s x : Nat} {K : Option (Option Value) → kS → Prop}
theorem kur_o {k : Nat} {v : Value} (h : c ≠ a) : kupr r a k v c = r c := by funext z; unfold kupr; rw [if_neg (fun e => h e.1)]
theorem fR_o (h : c ≠ n) : fR r n c = r c := by funext z; unfold fR; rw [if_neg h]
def sO (b g x : Nat) : List Op := (0, b + 3 * x, 0, 0, 0) :: (opX (b + 3 * x) ++ [(2, g, x, 0, b + 3 * x)])
def pO (b g : Nat) : Nat → List Op
  | 0 => []
  | x + 1 => pO b g x ++ sO b g x
def op_A0 : List Op := [(0, 17, 0, 0, 0), (2, 16, 0, 0, 17), (1, 16, 1, 0, 0), (0, 18, 0, 0, 0), (2, 16, 2, 0, 18), (0, 19, 0, 0, 0), (2, 16, 3, 0, 19)]
def op_A : List Op := op_A0 ++ (pO 20 17 15 ++ pO 65 18 3)
theorem sO_16 {b g : Nat} (hb : 17 ≤ b) (hg : g ≠ 16) : exR (sO b g x) r 16 = r 16 := by
  show kupr (kupr (fR (kupr (fR (fR r (b + 3 * x)) (b + 3 * x + 1)) (b + 3 * x) 8 (.ref (b + 3 * x + 1))) (b + 3 * x + 2)) (b + 3 * x) 9 (.ref (b + 3 * x + 2))) g x (.ref (b + 3 * x)) 16 = r 16
  rw [kur_o (by omega), kur_o (by omega), fR_o (by omega), kur_o (by omega), fR_o (by omega), fR_o (by omega)]
theorem pO_16 {b g : Nat} (hb : 17 ≤ b) (hg : g ≠ 16) : ∀ {x : Nat}, exR (pO b g x) r 16 = r 16 := by
  intro x
  induction x with
  | zero => rfl
  | succ x ih =>
    show exR (pO b g x ++ sO b g x) r 16 = r 16
    rw [exR_app, sO_16 hb hg, ih]
theorem sh_20 : ∀ x, x < 15 → kSH (20 + 3 * x) = .inl 1 ∧ kSH (20 + 3 * x + 1) = .inr (0, 8) ∧ kSH (20 + 3 * x + 2) = .inr (0, 8) := by decide +kernel
theorem sh_65 : ∀ x, x < 3 → kSH (65 + 3 * x) = .inl 1 ∧ kSH (65 + 3 * x + 1) = .inr (0, 8) ∧ kSH (65 + 3 * x + 2) = .inr (0, 8) := by decide +kernel
theorem n_A1 (h16 : r 16 0 = .ref 17) : kWP sc (d + 1) 20 35 [.ref 16, .int (Int32.ofNat 0)] [] ((20, 20, su), i, zL, r) K = kWP sc (d + 1) 20 60 [.ref 16, .int (Int32.ofNat 15)] [] ((65, 65, su + 26 * 15), exI (pO 20 17 15) i, zL, exR (pO 20 17 15) r) K := by
  refine (k_for (P := fun x (b : Nat) => kWP sc (d + 1) 20 35 [.ref 16, .int (Int32.ofNat x)] [] ((20 + 3 * x, 20 + 3 * x, su + 26 * x), exI (pO 20 17 x) i, zL, exR (pO 20 17 x) r) K) (n := 15) (g := fun _ b => b) ?_ 0).trans ?_
  · intro x b hx
    obtain ⟨h0, h1, h2⟩ := sh_20 x hx
    have e16 : exR (pO 20 17 x) r 16 0 = .ref 17 := by rw [pO_16 (by decide) (by decide)]; exact h16
    have N := fun (y nx : Nat) (hd : List (Int × Nat)) (L st : List Value) (K : Option (Option Value) → kS → Prop) => n_X1 (sc := sc) (d := d) (y := y) (nx := nx) (hd := hd) (L := L) (st := st) (su := su + 26 * x + 10) (i := fI (exI (pO 20 17 x) i) (20 + 3 * x)) (r := fR (exR (pO 20 17 x) r) (20 + 3 * x)) (K := K) h0 h1 h2
    have kk : kin (Int32.ofNat x) 15 = True := by rw [tn_kin (by omega)]; exact eq_true hx
    refine e_X2_init_35.trans ?_
    simp only [e_X2_init_36, e_X2_init_38, jpF (n := 15) hx (by decide), show (15 : Int32) = Int32.ofNat 15 from rfl, if_false, e_X2_init_41, e_X2_init_42, kobT (n := 20 + 3 * x) (a := 16) (ci := 2) (show 16 < 20 + 3 * x by omega) rfl, e16, e_X2_init_45, e_X2_init_46 (u := (20 + 3 * x, 20 + 3 * x, _)) ⟨rfl, h0⟩, kfr, e_X2_init_49, e_X2_init_50, kobT (n := 20 + 3 * x + 1) (a := 20 + 3 * x) (ci := 1) (show 20 + 3 * x < 20 + 3 * x + 1 by omega) h0, N, e_X2_init_53, karT (n := 20 + 3 * x + 3) (a := 17) (j := Int32.ofNat x) (b := 4) (w := 15) (show 17 < 20 + 3 * x + 3 by omega) rfl (of_eq_true kk), kobT (n := 20 + 3 * x + 3) (a := 20 + 3 * x) (ci := 1) (show 20 + 3 * x < 20 + 3 * x + 3 by omega) h0, and_self, true_and, cl_n (show x < 100000 by omega), e_X2_init_54, e_X2_init_57, tn_s]
    have c1 : 20 + 3 * x + 3 = 20 + 3 * (x + 1) := by omega
    have c2 : su + 26 * x + 10 + 8 + 8 = su + 26 * (x + 1) := by omega
    have c3 : exI (opX (20 + 3 * x)) (fI (exI (pO 20 17 x) i) (20 + 3 * x)) = exI (pO 20 17 (x + 1)) i := by
      show _ = exI (pO 20 17 x ++ sO 20 17 x) i
      rw [exI_app]
      show _ = exI (opX (20 + 3 * x) ++ [(2, 17, x, 0, 20 + 3 * x)]) (fI (exI (pO 20 17 x) i) (20 + 3 * x))
      rw [exI_app]; rfl
    have c4 : kupr (exR (opX (20 + 3 * x)) (fR (exR (pO 20 17 x) r) (20 + 3 * x))) 17 x (.ref (20 + 3 * x)) = exR (pO 20 17 (x + 1)) r := by
      show _ = exR (pO 20 17 x ++ sO 20 17 x) r
      rw [exR_app]
      show _ = exR (opX (20 + 3 * x) ++ [(2, 17, x, 0, 20 + 3 * x)]) (fR (exR (pO 20 17 x) r) (20 + 3 * x))
      rw [exR_app]; rfl
    rw [c1, c2, c3, c4]
  · refine e_X2_init_35.trans ?_
    simp only [e_X2_init_36, e_X2_init_38, show ((15 : Int32) ≤ Int32.ofNat 15) = True from eq_true (by decide), if_true]
theorem n_A2 (h16 : r 16 2 = .ref 18) : kWP sc (d + 1) 20 62 [.ref 16, .int (Int32.ofNat 0)] [] ((65, 65, su), i, zL, r) K = K (some none) ((74, 74, su + 26 * 3), exI (pO 65 18 3) i, zL, exR (pO 65 18 3) r) := by
  refine (k_for (P := fun x (b : Nat) => kWP sc (d + 1) 20 62 [.ref 16, .int (Int32.ofNat x)] [] ((65 + 3 * x, 65 + 3 * x, su + 26 * x), exI (pO 65 18 x) i, zL, exR (pO 65 18 x) r) K) (n := 3) (g := fun _ b => b) ?_ 0).trans ?_
  · intro x b hx
    obtain ⟨h0, h1, h2⟩ := sh_65 x hx
    have e16 : exR (pO 65 18 x) r 16 2 = .ref 18 := by rw [pO_16 (by decide) (by decide)]; exact h16
    have N := fun (y nx : Nat) (hd : List (Int × Nat)) (L st : List Value) (K : Option (Option Value) → kS → Prop) => n_X1 (sc := sc) (d := d) (y := y) (nx := nx) (hd := hd) (L := L) (st := st) (su := su + 26 * x + 10) (i := fI (exI (pO 65 18 x) i) (65 + 3 * x)) (r := fR (exR (pO 65 18 x) r) (65 + 3 * x)) (K := K) h0 h1 h2
    have kk : kin (Int32.ofNat x) 3 = True := by rw [tn_kin (by omega)]; exact eq_true hx
    refine e_X2_init_62.trans ?_
    simp only [e_X2_init_63, e_X2_init_64, jpF (n := 3) hx (by decide), show (3 : Int32) = Int32.ofNat 3 from rfl, if_false, e_X2_init_67, e_X2_init_68, kobT (n := 65 + 3 * x) (a := 16) (ci := 2) (show 16 < 65 + 3 * x by omega) rfl, e16, e_X2_init_71, e_X2_init_72 (u := (65 + 3 * x, 65 + 3 * x, _)) ⟨rfl, h0⟩, kfr, e_X2_init_75, e_X2_init_76, kobT (n := 65 + 3 * x + 1) (a := 65 + 3 * x) (ci := 1) (show 65 + 3 * x < 65 + 3 * x + 1 by omega) h0, N, e_X2_init_79, karT (n := 65 + 3 * x + 3) (a := 18) (j := Int32.ofNat x) (b := 4) (w := 3) (show 18 < 65 + 3 * x + 3 by omega) rfl (of_eq_true kk), kobT (n := 65 + 3 * x + 3) (a := 65 + 3 * x) (ci := 1) (show 65 + 3 * x < 65 + 3 * x + 3 by omega) h0, and_self, true_and, cl_n (show x < 100000 by omega), e_X2_init_80, e_X2_init_83, tn_s]
    have c1 : 65 + 3 * x + 3 = 65 + 3 * (x + 1) := by omega
    have c2 : su + 26 * x + 10 + 8 + 8 = su + 26 * (x + 1) := by omega
    have c3 : exI (opX (65 + 3 * x)) (fI (exI (pO 65 18 x) i) (65 + 3 * x)) = exI (pO 65 18 (x + 1)) i := by
      show _ = exI (pO 65 18 x ++ sO 65 18 x) i
      rw [exI_app]
      show _ = exI (opX (65 + 3 * x) ++ [(2, 18, x, 0, 65 + 3 * x)]) (fI (exI (pO 65 18 x) i) (65 + 3 * x))
      rw [exI_app]; rfl
    have c4 : kupr (exR (opX (65 + 3 * x)) (fR (exR (pO 65 18 x) r) (65 + 3 * x))) 18 x (.ref (65 + 3 * x)) = exR (pO 65 18 (x + 1)) r := by
      show _ = exR (pO 65 18 x ++ sO 65 18 x) r
      rw [exR_app]
      show _ = exR (opX (65 + 3 * x) ++ [(2, 18, x, 0, 65 + 3 * x)]) (fR (exR (pO 65 18 x) r) (65 + 3 * x))
      rw [exR_app]; rfl
    rw [c1, c2, c3, c4]
  · refine e_X2_init_62.trans ?_
    simp only [e_X2_init_63, e_X2_init_64, show ((3 : Int32) ≤ Int32.ofNat 3) = True from eq_true (by decide), if_true, e_X2_init_86]
theorem n_A : kCA sc (d + 2) 20 [.ref 16] y nx hd L st ((17, 17, su), i, zL, r) K = kWP sc (d + 2) y nx L st ((74, 74, su + 489), exI op_A i, zL, exR op_A r) K := by
  refine kCA_of (d := d + 1) (v := none) (fun K => ?_)
  rw [km_20]
  show kWP sc (d + 1) 20 0 [.ref 16, .retAddr 0] [] _ K = _
  have h1 : exR op_A0 r 16 0 = .ref 17 := rfl
  have h2 : exR (pO 20 17 15) (exR op_A0 r) 16 2 = .ref 18 := by rw [pO_16 (by decide) (by decide)]; rfl
  have st1 : kWP sc (d + 1) 20 0 [.ref 16, .retAddr 0] [] ((17, 17, su), i, zL, r) K = kWP sc (d + 1) 20 35 [.ref 16, .int (Int32.ofNat 0)] [] ((20, 20, su + 21), exI op_A0 i, zL, exR op_A0 r) K := by
    simp only [e_X2_init_0, e_X2_init_1, e_X2_init_4, e_X2_init_5, e_X2_init_7 (u := (17, 17, _)) (p := 15) (m := 15) rfl ⟨rfl, by decide, by decide, rfl⟩, kfr, e_X2_init_10, kobT (n := 18) (a := 16) (ci := 2) (by decide) rfl, e_X2_init_13, e_X2_init_14, e_X2_init_15, e_X2_init_18, e_X2_init_19, e_X2_init_20 (u := (18, 18, _)) (p := 3) (m := 3) rfl ⟨rfl, by decide, by decide, rfl⟩, e_X2_init_23, kobT (n := 19) (a := 16) (ci := 2) (by decide) rfl, e_X2_init_26, e_X2_init_27, e_X2_init_28 (u := (19, 19, _)) (p := 3) (m := 3) rfl ⟨rfl, by decide, by decide, rfl⟩, e_X2_init_30, kobT (n := 20) (a := 16) (ci := 2) (by decide) rfl, e_X2_init_33, e_X2_init_34, kcl_i, kcl_r, kcl_0, true_and]
    rfl
  rw [st1, n_A1 h1]
  simp only [e_X2_init_60, e_X2_init_61, kcl_i, kcl_r, kcl_0]
  refine (n_A2 h2).trans ?_
  have e1 : exI (pO 65 18 3) (exI (pO 20 17 15) (exI op_A0 i)) = exI op_A i := by unfold op_A; rw [exI_app, exI_app]
  have e2 : exR (pO 65 18 3) (exR (pO 20 17 15) (exR op_A0 r)) = exR op_A r := by unfold op_A; rw [exR_app, exR_app]
  rw [e1, e2]
end TC
