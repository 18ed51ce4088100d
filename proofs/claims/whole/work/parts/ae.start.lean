/-! the law, from its first place -/
section TC
variable {sc : Nat × (Nat → Int32)} {d y nx : Nat} {hd : List (Int × Nat)} {L st : List Value} {cu su : Nat} {i : Nat → Nat → Int32} {r : Nat → Nat → Value} {f t a n c s x k : Nat} {K : Option (Option Value) → kS → Prop}
theorem exI_z : ∀ (p : List Op) (i : Nat → Nat → Int32), p.all (fun o => o.1 != 1 || decide (o.2.1 < 91)) = true → 91 ≤ a → (∀ k, i a k = 0) → ∀ k, exI p i a k = 0 := by
  intro p
  induction p with
  | nil => intro i _ _ h; exact h
  | cons o p ih =>
    intro i h ha hi
    obtain ⟨g, b, j, v, x⟩ := o
    rw [List.all_cons, Bool.and_eq_true] at h
    match g, h.1 with
    | 0, _ =>
      refine ih _ h.2 ha (fun k => ?_)
      unfold fI; split
      · rfl
      · exact hi k
    | 1, h1 =>
      have e : b < 91 := by simpa using h1
      refine ih _ h.2 ha (fun k => ?_)
      unfold kupi; rw [if_neg (by omega)]; exact hi k
    | g + 2, _ => exact ih _ h.2 ha hi
theorem exI_9 : ∀ (p : List Op) (i : Nat → Nat → Int32), p.all (fun o => (o.1 != 1 || o.2.1 != 9) || decide (o.2.2.1 < 8)) = true → 8 ≤ k → i 9 k = 0 → exI p i 9 k = 0 := by
  intro p
  induction p with
  | nil => intro i _ _ h; exact h
  | cons o p ih =>
    intro i h ha hi
    obtain ⟨g, b, j, v, x⟩ := o
    rw [List.all_cons, Bool.and_eq_true] at h
    match g, h.1 with
    | 0, _ =>
      refine ih _ h.2 ha ?_
      unfold fI; split
      · rfl
      · exact hi
    | 1, h1 =>
      have e : b ≠ 9 ∨ j < 8 := by
        simp at h1; exact h1
      refine ih _ h.2 ha ?_
      unfold kupi; rw [if_neg (by omega)]; exact hi
    | g + 2, _ => exact ih _ h.2 ha hi
theorem iB_hi (h : 91 ≤ a) : ∀ k, iB a k = 0 := exI_z _ _ (by decide +kernel) h (fun k => by unfold fI; split <;> rfl)
theorem iB_9 : iB 9 = fun k => if k < 8 then 1 else 0 := by
  funext k
  by_cases h : k < 8
  · rw [if_pos h]
    exact (show ∀ k, k < 8 → iB 9 k = 1 from by decide +kernel) k h
  · rw [if_neg h]
    exact exI_9 _ _ (by decide +kernel) (by omega) (by unfold fI; split <;> rfl)
def N0 (k : Nat) : Int32 := if k = 18 then -1 else if k = 20 then 20 else if k = 22 then -1 else if k = 24 then -1 else 0
theorem iB_10 : ∀ k, k < 25 → nGet iB 10 k = N0 k := by decide +kernel
theorem iB_x : iB 5 0 = 0 ∧ iB 3 1 = 0 ∧ iB 16 1 = 0 ∧ iB 74 2 = 0 ∧ ∀ j, j < 3 → iB 19 j = 0 := by decide +kernel
/-- all cells at the law's loop -/
def iF (C : Nat → Nat → Int32) : Nat → Nat → Int32 := fI (mI (exI op_M (fI C 91))) 119
theorem iF_lo {C : Nat → Nat → Int32} (h : c < 91) : iF C c = C c := by
  unfold iF mI
  rw [fI_o (by omega), kupi_cf (by omega), kupi_cf (by omega), kupi_cf (by omega), aP_o (by omega), exI_lo (n := 91) _ _ (by decide +kernel) h, fI_o (by omega)]
theorem M0_hi {C : Nat → Nat → Int32} (hC : ∀ a, 91 ≤ a → ∀ k, C a k = 0) (h : 91 ≤ a) : ∀ k, exI op_M (fI C 91) a k = 0 := exI_z _ _ (by decide +kernel) h (fun k => by unfold fI; split; rfl; exact hC a h k)
theorem iF_hi {C : Nat → Nat → Int32} (hC : ∀ a, 91 ≤ a → ∀ k, C a k = 0) (h : 91 ≤ a) (h1 : a ≠ 93) (h2 : a ≠ 96) : ∀ k, iF C a k = 0 := by
  intro k
  unfold iF mI
  unfold fI
  split
  · rfl
  · rw [kupi_c h2, kupi_c h2, kupi_c h2, aP_o h1]
    exact M0_hi hC h k
theorem iF_93 {C : Nat → Nat → Int32} (hC : ∀ a, 91 ≤ a → ∀ k, C a k = 0) : iF C 93 = fun k => if k < 8 then 1 else 0 := by
  funext k
  unfold iF mI
  rw [fI_o (by decide), kupi_c (by decide), kupi_c (by decide), kupi_c (by decide)]
  unfold aPut
  by_cases h : k < 8
  · rw [if_pos ⟨rfl, h⟩, if_pos h]
  · rw [if_neg (fun z => h z.2), if_neg h]; exact M0_hi hC (by decide) k
theorem iF_96 {C : Nat → Nat → Int32} (hC : ∀ a, 91 ≤ a → ∀ k, C a k = 0) : iF C 96 = fun k => if k = 20 then 20 else if k = 22 then -1 else if k = 18 then -1 else 0 := by
  funext k
  unfold iF mI
  rw [fI_o (by decide)]
  unfold kupi
  rw [aP_o (by decide), M0_hi hC (by decide) k]
  simp only [true_and]
theorem z_tb : ∀ a, a < 8 → tb 0 a = false := by decide
theorem IV_0 {C : Nat → Nat → Int32} (n : Nat) (A : Nat → Int32) (hC : ∀ a, 91 ≤ a → ∀ k, C a k = 0) (h1 : C 1 1 = 0) (h3 : C 3 = iB 3) (h5 : C 5 = iB 5) (h9 : C 9 = iB 9) (h10 : C 10 = iB 10) (h11 : C 11 = iB 11) (h12 : C 12 = iB 12) (h16 : C 16 = iB 16) (h19 : C 19 = iB 19) (h74 : C 74 = iB 74) (h85 : C 85 2 = Int32.ofNat n) (h86 : ∀ x, x < 40 → C 86 x = A x) (h40 : n ≤ 40) (hL : SL n A = SL 7 firstA) : IV 0 (iF C) zL 85 88 sp0 := by
  have bx := iB_x
  have z91 : ∀ k, iF C 91 k = 0 := iF_hi hC (by decide) (by decide) (by decide)
  have nn : nGet (iF C) 10 = nGet iB 10 := nGet_c (by rw [iF_lo (by decide)]; exact h10) (by rw [iF_lo (by decide)]; exact h11) (by rw [iF_lo (by decide)]; exact h12)
  refine ⟨⟨?_, ?_, by decide, ?_, ?_, fun a ha => absurd ha (Nat.not_lt_zero a)⟩, ⟨0, by decide, ?_, ?_, fun x hx => absurd hx (Nat.not_lt_zero x)⟩, ⟨0, by decide, ?_, ?_, fun x hx => absurd hx (Nat.not_lt_zero x)⟩, ?_, ⟨0, by decide, ?_, ?_, fun j hj => absurd hj (Nat.not_lt_zero j)⟩, ⟨fun j hj => ?_, fun j k _ _ h => ?_⟩, ⟨0, Nat.le_refl _, ?_, fun j hj => ⟨Or.inl ?_, ⟨0, Nat.le_refl _, ?_⟩, ?_, fun h => ?_⟩⟩, ⟨0, by decide, ?_, ?_, fun x hx => absurd hx (Nat.not_lt_zero x)⟩, ⟨n, 0, ?_, ?_, RR_c (RR_first (C := iF C 100) hL) (fun x hx => ?_) (fun x hx => absurd hx (Nat.not_lt_zero x))⟩, Or.inl ⟨rfl, rfl⟩⟩
  · rw [iF_lo (by decide), h5]; exact bx.1
  · exact z91 3
  · rw [iF_lo (by decide), h9, iB_9, iF_93 hC]
  · rw [iF_93 hC]
    intro x hx
    exact ⟨1, by decide, by decide, by dsimp only; rw [if_pos hx]; rfl⟩
  · rw [iF_lo (by decide)]; exact h1
  · exact z91 11
  · rw [iF_lo (by decide), h3]; exact bx.2.1
  · exact z91 1
  · rw [nn, iF_96 hC]
    refine ⟨⟨fun k hk => ?_, ?_, ?_, Or.inl rfl, Or.inl rfl, fun a _ ha => ?_⟩, 0, 20, rfl, rfl, by decide, by decide⟩
    · rw [iB_10 k (by omega)]
      unfold N0
      by_cases e1 : k = 18
      · subst e1; rfl
      · by_cases e2 : k = 20
        · subst e2; rfl
        · dsimp only
          rw [if_neg e1, if_neg e2, if_neg (by omega), if_neg (by omega), if_neg e2, if_neg (by omega), if_neg e1]
    · rw [iB_10 22 (by decide)]; decide
    · rw [iB_10 24 (by decide)]; decide
    · dsimp only
      rw [if_neg (by omega), if_neg (by omega), if_neg (by omega), if_neg (by omega), if_neg (by omega), if_neg (by omega), if_neg (by decide), if_neg (by decide), if_neg (by decide)]
      exact ⟨rfl, rfl, z_tb a ha⟩
  · rw [iF_lo (by decide), h16]; exact bx.2.2.1
  · exact z91 23
  · exact (show ∀ j, j < 15 → kNc (sp0 j) = true ∧ 20 ≤ sp0 j ∧ sp0 j < 65 from by decide +kernel) j hj
  · unfold sp0 at h; omega
  · exact z91 4
  · exact iF_hi hC (by decide) (by decide) (by decide) j
  · exact iF_hi hC (by decide) (by decide) (by decide) j
  · rw [iF_lo (by decide), h19, bx.2.2.2.2 j hj, if_neg]
    rintro ⟨e, _⟩
    rw [iF_hi hC (by decide) (by decide) (by decide) j] at e
    exact absurd e (by decide)
  · rw [iF_lo (by decide), h19, bx.2.2.2.2 j hj] at h; exact absurd h (by decide)
  · rw [iF_lo (by decide), h74]; exact bx.2.2.2.1
  · exact z91 39
  · rw [iF_lo (by decide)]; exact h85
  · exact z91 19
  · have hn : n = 7 := by
      have := congrArg List.length hL
      rw [SL_len, SL_len] at this; exact this
    rw [iF_lo (by decide)]; exact (h86 x (by omega)).symm
theorem fR_119 : fR (kR 85 88 sp0) 119 = kR 85 88 sp0 := by
  funext a k
  unfold fR
  split
  · rename_i e; rw [e, kR_92 (by decide) (by decide)]
  · rfl
theorem kR_915 : kR 85 88 sp0 91 5 = .ref 93 ∧ kR 85 88 sp0 91 8 = .ref 96 := ⟨rfl, rfl⟩
/-- THE LAW: it comes to its end, and answers 1 -/
theorem law_run (hs : sc.1 ≤ 2560) (hK : ∀ (cu2 su2 : Nat) (i : Nat → Nat → Int32) (l : Nat → Nat → Int64) (r : Nat → Nat → Value), cu2 ≤ 632 → su2 ≤ 10459 → K (some (some (.int 1))) ((120, cu2, su2), i, l, r)) : kWP sc (d + 500) 260 0 [.ref kScA, .retAddr 0, .retAddr 0, .retAddr 0, .retAddr 0, .retAddr 0, .retAddr 0, .retAddr 0] [] ((0, 0, 0), z0, zL, kR 85 88 sp0) K := by
  obtain ⟨n, A, p, S, g, h, u, X, h40, hL, hC⟩ := init_C
  obtain ⟨C, hCe⟩ : ∃ C, C = kupi (qP (xPut iB (7, X)) 85 n A p S g h u) 1 1 0 := ⟨_, rfl⟩
  rw [← hCe] at hC
  have co : ∀ c, c ≠ 1 → c ≠ 2 → c ≠ 85 → c ≠ 86 → c ≠ 87 → C c = iB c := fun c c1 c2 c3 c4 c5 => by rw [hCe, kupi_cf c1, qP_o c3 c4 c5, xP_o c1 c2]
  have iv : IV 0 (iF C) zL 85 88 sp0 := by
    refine IV_0 n A (fun a ha k => ?_) ?_ (co 3 (by decide) (by decide) (by decide) (by decide) (by decide)) (co 5 (by decide) (by decide) (by decide) (by decide) (by decide)) (co 9 (by decide) (by decide) (by decide) (by decide) (by decide)) (co 10 (by decide) (by decide) (by decide) (by decide) (by decide)) (co 11 (by decide) (by decide) (by decide) (by decide) (by decide)) (co 12 (by decide) (by decide) (by decide) (by decide) (by decide)) (co 16 (by decide) (by decide) (by decide) (by decide) (by decide)) (co 19 (by decide) (by decide) (by decide) (by decide) (by decide)) (co 74 (by decide) (by decide) (by decide) (by decide) (by decide)) ?_ (fun x hx => ?_) h40 hL
    · rw [co a (by omega) (by omega) (by omega) (by omega) (by omega)]; exact iB_hi ha k
    · rw [hCe, kupi_s]
    · rw [hCe, kupi_c (by decide), qP_2]
    · rw [hCe, kupi_c (by decide)]; exact qP_a (b := 85) hx
  have M := fun (y nx : Nat) (hd : List (Int × Nat)) (L st : List Value) (K : Option (Option Value) → kS → Prop) => kCA_of (sc := sc) (d := d + 499) (z := 163) (as := [.ref 91]) (y := y) (nx := nx) (hd := hd) (L := L) (st := st) (S := ((92, 92, 3506), fI C 91, zL, fR (kR 85 88 sp0) 91)) (S2 := ((119, 119, 7386), mI (exI op_M (fI C 91)), zL, kR 85 88 sp0)) (v := none) (K := K) (fun K => by
    rw [km_163]
    show kWP sc (d + 498 + 1) 163 0 [.ref 91, .retAddr 0] [] _ K = _
    rw [n_M, r_M, n_M2 kR_915.1 kR_915.2])
  simp only [e_L_law_0 (u := (0, 0, 0)) ⟨rfl, rfl⟩, kfr, Nat.reduceAdd, e_L_law_3, e_L_law_4, kobT (n := 1) (a := 0) (ci := 10) (by decide) rfl, hC sc (d + 490), e_L_law_7, e_L_law_8 (u := (91, 91, 3459)) ⟨rfl, rfl⟩, e_L_law_11, e_L_law_12, kobT (n := 92) (a := 91) (ci := 11) (by decide) rfl, kcl_i, kcl_r, kcl_0, true_and]
  rw [show d + 490 + 10 = d + 499 + 1 from rfl, M]
  show kWP sc (d + 499 + 1) 260 15 [.ref kScA, .ref 0, .retAddr 0, .retAddr 0, .retAddr 0, .retAddr 0, .retAddr 0, .retAddr 0] [.ref 91] ((119, 119, 7386), mI (exI op_M (fI C 91)), zL, kR 85 88 sp0) K
  simp only [e_L_law_15, e_L_law_16, e_L_law_17 (u := (119, 119, 7386)) (p := 1) (m := 1) rfl ⟨rfl, by decide, by decide, rfl⟩, kfr, Nat.reduceAdd, fR_119, e_L_law_19, e_L_law_20, e_L_law_21, kcl_i, kcl_r, kcl_0]
  have e5 : 5 * (sc.1 / 5) ≤ sc.1 ∧ sc.1 < 5 * (sc.1 / 5) + 5 := by omega
  exact law_loop (d := d) hs (sc.1 / 5) 0 120 7387 (iF C) zL 85 88 sp0 0 _ _ _ (by omega) (by omega) iv (fun cu2 su2 i l r a b => hK cu2 su2 i l r (by omega) (by omega))
end TC
