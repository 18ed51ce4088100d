/-! rule: done -/
section TC
variable {sc : Nat × (Nat → Int32)} {d y nx : Nat} {hd : List (Int × Nat)} {L st : List Value} {S : kS} {cu su : Nat} {i : Nat → Nat → Int32} {l : Nat → Nat → Int64} {f t c b m : Nat} {sp : Nat → Nat} {K : Option (Option Value) → kS → Prop}
variable {N M Z S1 Q A S C C' C1 acts acts2 code code2 C0 : Nat → Int32} {n n2 k x a o g c h p to x' g' c' r x1 g1 c1 e n1 f2 t2 : Nat} {v q u fault : Int32} {T : Nat → Int32} {v3 : Value} {i0 i2 j : Nat → Nat → Int32} {l2 : Nat → Nat → Int64}
def kSr (c k : Nat) : Bool := kSt c k || c == 1 || (85 ≤ c && c ≤ 90) || c == 100 || (c == 91 && k == 19)
theorem sr_night {c : Nat} (h1 : 16 ≤ c) (h2 : c < 77) (k : Nat) : kSr c k = false := by
  unfold kSr
  rw [st_night h1 h2 k, show (c == 1) = false from by simp; omega, decide_eq_false (show ¬ 85 ≤ c by omega), show (c == 100) = false from by simp; omega, show (c == 91) = false from by simp; omega]
  rfl
theorem kIV_r (h : IV m i l f t sp) (ag : kAg kSr i i2) (hX : IX (i2 1 1) (i2 91 11) (i2 2) (i2 98)) (hW : IW (i2 3 1) (i2 91 1) (l2 4) (l2 92)) (hR : IR (i2 f2 2) (i2 91 19) (i2 (f2 + 1)) (i2 100)) (hF : IF f2 t2) : IV m i2 l2 f2 t2 sp := by
  obtain ⟨hP, _, _, hN, hU, hS, hK, hH, _, _⟩ := h
  have rr : ∀ c, (∀ k, kSr c k = false) → i2 c = i c := fun c hc => ag_row ag hc
  have nn : ∀ c, 20 ≤ c → c < 74 → i2 c = i c := fun c c1 c2 => rr c (fun k => sr_night (by omega) (by omega) k)
  refine ⟨?_, hX, hW, ?_, ?_, hS, ?_, ?_, hR, hF⟩
  · rw [rr 5 (fun _ => rfl), ag 91 3 rfl, rr 6 (fun _ => rfl), rr 7 (fun _ => rfl), rr 8 (fun _ => rfl), rr 9 (fun _ => rfl), rr 93 (fun _ => rfl), rr 94 (fun _ => rfl), rr 95 (fun _ => rfl)]; exact hP
  · rw [nGet_c (i := i) (c := 10) (rr 10 (fun _ => rfl)) (rr 11 (fun _ => rfl)) (rr 12 (fun _ => rfl)), rr 96 (fun _ => rfl)]; exact hN
  · rw [rr 16 (fun _ => rfl), ag 91 23 rfl, rr 104 (fun _ => rfl)]
    exact IU_c hS hU nn
  · rw [ag 91 4 rfl, rr 19 (fun _ => rfl), rr 116 (fun _ => rfl), rr 117 (fun _ => rfl), rr 118 (fun _ => rfl)]
    exact IK_c hK nn
  · rw [rr 74 (fun _ => rfl), ag 91 39 rfl, rr 75 (fun _ => rfl), rr 76 (fun _ => rfl), rr 113 (fun _ => rfl), rr 114 (fun _ => rfl)]; exact hH
/-- a code laid -/
def lay (i : Nat → Nat → Int32) (a n : Nat) : Nat → Nat → Int32 := aPut (kupi i 91 19 (Int32.ofNat n)) 100 80 (fun z => if z < n then i a z else i 100 z)
theorem m_laysCode (ha : a = 101 ∨ a = 115) (hn : n ≤ 80) : kCA sc (d + 1) 186 [.ref 91, .ref a, .int (Int32.ofNat n)] y nx hd L st ((120, cu, su), i, l, kR f t sp) K = kWP sc (d + 1) y nx L st ((120, cu, su), lay i a n, l, kR f t sp) K := by
  refine kCA_of (d := d) (v := none) (fun K => ?_)
  rw [km_186]
  show kWP sc d 186 0 [.ref 91, .ref a, .int (Int32.ofNat n), .retAddr 0] [] _ K = _
  have R := k_for (P := fun x (A : Nat → Int32) => kWP sc d 186 7 [.ref 91, .ref a, .int (Int32.ofNat n), .int (Int32.ofNat x)] [] ((120, cu, su), aPut (kupi i 91 19 (Int32.ofNat n)) 100 80 A, l, kR f t sp) K) (n := n) (g := fun x A => kuf A x (i a x)) ?_ (i 100)
  · simp only [e_X11_laysCode_0, e_X11_laysCode_1, e_X11_laysCode_2, e_X11_laysCode_5, e_X11_laysCode_6, e_X11_laysCode_8, e_X11_laysCode_9, e_X11_laysCode_12, e_X11_laysCode_13, e_X11_laysCode_16, e_X11_laysCode_17, e_X11_laysCode_18, e_X11_laysCode_19, e_X11_laysCode_20, e_X11_laysCode_21, e_X11_laysCode_24, e_X11_laysCode_27, ob_91, rk_91_17, ar_100, kcl_i, kcl_r, kcl_l, kcl_0, kcl_n, true_and, and_true]
    have e0 : aPut (kupi i 91 19 (Int32.ofNat n)) 100 80 (i 100) = kupi i 91 19 (Int32.ofNat n) := by
      have := @aP_g (kupi i 91 19 (Int32.ofNat n)) 100 80
      rw [kupi_cf (by decide)] at this; exact this
    rw [e0] at R
    refine R.trans ?_
    refine e_X11_laysCode_7.trans ?_
    simp only [e_X11_laysCode_0, e_X11_laysCode_1, e_X11_laysCode_2, e_X11_laysCode_5, e_X11_laysCode_6, e_X11_laysCode_8, e_X11_laysCode_9, e_X11_laysCode_12, e_X11_laysCode_13, e_X11_laysCode_16, e_X11_laysCode_17, e_X11_laysCode_18, e_X11_laysCode_19, e_X11_laysCode_20, e_X11_laysCode_21, e_X11_laysCode_24, e_X11_laysCode_27, ob_91, rk_91_17, ar_100, kcl_i, kcl_r, kcl_l, kcl_0, kcl_n, true_and, and_true, Int32.le_refl, if_true]
    unfold lay
    rw [aP_c (A2 := fun z => if z < n then i a z else i 100 z) (fun j _ => kfo_kuf j)]
  · intro x A hx
    have ea : aPut (kupi i 91 19 (Int32.ofNat n)) 100 80 A a = i a := by
      rcases ha with rfl | rfl <;> rw [aP_o (by decide), kupi_cf (by decide)]
    have ka : kar (120, cu, su) a 0 (Int32.ofNat x) = True := by
      rcases ha with rfl | rfl
      · rw [ar_101]; exact kin80 (by omega)
      · rw [ar_115]; exact kin80 (by omega)
    refine e_X11_laysCode_7.trans ?_
    simp only [e_X11_laysCode_0, e_X11_laysCode_1, e_X11_laysCode_2, e_X11_laysCode_5, e_X11_laysCode_6, e_X11_laysCode_8, e_X11_laysCode_9, e_X11_laysCode_12, e_X11_laysCode_13, e_X11_laysCode_16, e_X11_laysCode_17, e_X11_laysCode_18, e_X11_laysCode_19, e_X11_laysCode_20, e_X11_laysCode_21, e_X11_laysCode_24, e_X11_laysCode_27, ob_91, rk_91_17, ar_100, kcl_i, kcl_r, kcl_l, kcl_0, kcl_n, true_and, and_true, jpF hx (by omega), if_false, ka, ea, kin80 (show x < 80 by omega), cl_n (show x < 100000 by omega), aW_s (show x < 80 by omega), tn_s, true_and]
theorem kR_swap : kupr (kupr (kR f t sp) 0 10 (.ref t)) 0 11 (.ref f) = kR t f sp := by
  funext a k; unfold kupr kR
  by_cases e1 : a = 0 ∧ k = 11
  · obtain ⟨rfl, rfl⟩ := e1; rfl
  · by_cases e2 : a = 0 ∧ k = 10
    · obtain ⟨rfl, rfl⟩ := e2; rfl
    · simp only [e1, e2, if_false]
theorem IF_t (h : IF f t) : kRc t = true ∧ kRc f = true ∧ IF t f ∧ f ≠ t ∧ (t = 85 ∨ t = 88) := by
  rcases h with ⟨rfl, rfl⟩ | ⟨rfl, rfl⟩
  · exact ⟨rfl, rfl, Or.inr ⟨rfl, rfl⟩, by decide, Or.inr rfl⟩
  · exact ⟨rfl, rfl, Or.inl ⟨rfl, rfl⟩, by decide, Or.inl rfl⟩
theorem ag_qP (ht : t = 85 ∨ t = 88) (h : kAg kSr i i2) : kAg kSr i (qP i2 t n A p S g k u) := by
  intro c z hq
  rw [qP_o]
  · exact h c z hq
  all_goals
    intro e
    rcases ht with rfl | rfl <;> subst e <;> exact absurd hq (by simp [kSr])
theorem ag_i0 (h : ∀ z, z ≠ 1 → z ≠ 2 → i0 z = i z) : kAg kSr i i0 := by
  intro c z hq
  by_cases e1 : c = 1
  · subst e1; exact absurd hq (by simp [kSr])
  · by_cases e2 : c = 2
    · subst e2; exact absurd hq (by simp [kSr, kSt])
    · rw [h c e1 e2]
end TC
