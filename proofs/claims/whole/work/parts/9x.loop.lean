/-! the law: all calls -/
section TC
variable {sc : Nat × (Nat → Int32)} {d y nx : Nat} {hd : List (Int × Nat)} {L st : List Value} {S : kS} {cu su : Nat} {i : Nat → Nat → Int32} {l : Nat → Nat → Int64} {f t c b m : Nat} {sp : Nat → Nat} {K : Option (Option Value) → kS → Prop}
variable {x : Nat} {v5 v6 v7 : Value} {p : Int32}
theorem lw_sw (h : IV m i l f t sp) (hx : 5 * x + 5 ≤ sc.1) (hs : sc.1 ≤ 2560) (H : LN sc d x cu su K) : kWP sc (d + 500) 260 39 [.ref kScA, .ref 0, .ref 91, .ref 119, .int (Int32.ofNat (5 * x)), v5, v6, v7] [.int p] ((120, cu, su), i, l, kR f t sp) K := by
  rw [e_L_law_39]
  by_cases q0 : p = 0
  · rw [if_pos q0]; exact lw_0 h hx hs H
  rw [if_neg q0]
  by_cases q1 : p = 1
  · rw [if_pos q1]; exact lw_1 h hx hs H
  rw [if_neg q1]
  by_cases q2 : p = 2
  · rw [if_pos q2]; exact lw_2 h hx hs H
  rw [if_neg q2]
  by_cases q3 : p = 3
  · rw [if_pos q3]; exact lw_3 h hx hs H
  rw [if_neg q3]
  by_cases q4 : p = 4
  · rw [if_pos q4]; exact lw_4 h hx hs H
  rw [if_neg q4]
  by_cases q5 : p = 5
  · rw [if_pos q5]; exact lw_5 h hx hs H
  rw [if_neg q5]
  by_cases q6 : p = 6
  · rw [if_pos q6]; exact lw_6 h hx hs H
  rw [if_neg q6]
  by_cases q7 : p = 7
  · rw [if_pos q7]; exact lw_7 h hx hs H
  rw [if_neg q7]
  by_cases q8 : p = 8
  · rw [if_pos q8]; exact lw_8 h hx hs H
  rw [if_neg q8]
  by_cases q9 : p = 9
  · rw [if_pos q9]; exact lw_9 h hx hs H
  rw [if_neg q9]
  by_cases q10 : p = 10
  · rw [if_pos q10]; exact lw_10 h hx hs H
  rw [if_neg q10]
  by_cases q11 : p = 11
  · rw [if_pos q11]; exact lw_11 h hx hs H
  rw [if_neg q11]
  by_cases q12 : p = 12
  · rw [if_pos q12]; exact lw_12 h hx hs H
  rw [if_neg q12]
  by_cases q13 : p = 13
  · rw [if_pos q13]; exact lw_13 h hx hs H
  rw [if_neg q13]
  by_cases q14 : p = 14
  · rw [if_pos q14]; exact lw_14 h hx hs H
  rw [if_neg q14]
  by_cases q15 : p = 15
  · rw [if_pos q15]; exact lw_15 h hx hs H
  rw [if_neg q15]
  by_cases q16 : p = 16
  · rw [if_pos q16]; exact lw_16 h hx hs H
  rw [if_neg q16]
  by_cases q17 : p = 17
  · rw [if_pos q17]; exact lw_17 h hx hs H
  rw [if_neg q17]
  by_cases q18 : p = 18
  · rw [if_pos q18]; exact lw_18 h hx hs H
  rw [if_neg q18]
  by_cases q19 : p = 19
  · rw [if_pos q19]; exact lw_19 h hx hs H
  rw [if_neg q19]
  by_cases q20 : p = 20
  · rw [if_pos q20]; exact lw_20 h hx hs H
  rw [if_neg q20]
  by_cases q21 : p = 21
  · rw [if_pos q21]; exact lw_21 h hx hs H
  rw [if_neg q21]
  by_cases q22 : p = 22
  · rw [if_pos q22]; exact lw_22 h hx hs H
  rw [if_neg q22]
  by_cases q23 : p = 23
  · rw [if_pos q23]; exact lw_23 h hx hs H
  rw [if_neg q23]
  by_cases q24 : p = 24
  · rw [if_pos q24]; exact lw_24 h hx hs H
  rw [if_neg q24]
  by_cases q25 : p = 25
  · rw [if_pos q25]; exact lw_25 h hx hs H
  rw [if_neg q25]
  by_cases q26 : p = 26
  · rw [if_pos q26]; exact lw_26 h hx hs H
  rw [if_neg q26]
  by_cases q27 : p = 27
  · rw [if_pos q27]; exact lw_27 h hx hs H
  rw [if_neg q27]
  by_cases q28 : p = 28
  · rw [if_pos q28]; exact lw_28 h hx hs H
  rw [if_neg q28]
  by_cases q29 : p = 29
  · rw [if_pos q29]; exact lw_29 h hx hs H
  rw [if_neg q29]
  by_cases q30 : p = 30
  · rw [if_pos q30]; exact lw_30 h hx hs H
  rw [if_neg q30]
  by_cases q31 : p = 31
  · rw [if_pos q31]; exact lw_31 h hx hs H
  rw [if_neg q31]
  by_cases q32 : p = 32
  · rw [if_pos q32]; exact lw_32 h hx hs H
  rw [if_neg q32]
  by_cases q33 : p = 33
  · rw [if_pos q33]; exact lw_33 h hx hs H
  rw [if_neg q33]
  by_cases q34 : p = 34
  · rw [if_pos q34]; exact lw_34 h hx hs H
  rw [if_neg q34]
  by_cases q35 : p = 35
  · rw [if_pos q35]; exact lw_35 h hx hs H
  rw [if_neg q35]
  by_cases q36 : p = 36
  · rw [if_pos q36]; exact lw_36 h hx hs H
  rw [if_neg q36]
  by_cases q37 : p = 37
  · rw [if_pos q37]; exact lw_37 h hx hs H
  rw [if_neg q37]
  by_cases q38 : p = 38
  · rw [if_pos q38]; exact lw_38 h hx hs H
  rw [if_neg q38]
  by_cases q39 : p = 39
  · rw [if_pos q39]; exact lw_39 h hx hs H
  rw [if_neg q39]
  by_cases q40 : p = 40
  · rw [if_pos q40]; exact lw_40 h hx hs H
  rw [if_neg q40]
  by_cases q41 : p = 41
  · rw [if_pos q41]; exact lw_41 h hx hs H
  rw [if_neg q41]
  exact H _ _ _ _ _ _ _ _ _ _ _ h (Nat.le_refl _) (by omega) (Nat.le_refl _) (by omega)
theorem lw_end {n : Nat} (h1 : 5 * x ≤ n) (h2 : n < 5 * x + 5) (hn : n ≤ 2560) : (Int32.ofNat n - 5 < Int32.ofNat (5 * x)) = True := by
  by_cases c : 5 ≤ n
  · rw [show (5 : Int32) = Int32.ofNat 5 from rfl, sub_nat c, tn_lt (by omega) (by omega)]; exact eq_true (by omega)
  · have e : x = 0 := by omega
    subst e
    exact eq_true ((show ∀ n, n < 5 → Int32.ofNat n - 5 < Int32.ofNat 0 from by decide) n (by omega))
theorem lw_go {n : Nat} (h1 : 5 * x + 5 ≤ n) (hn : n ≤ 2560) : (Int32.ofNat n - 5 < Int32.ofNat (5 * x)) = False := by
  rw [show (5 : Int32) = Int32.ofNat 5 from rfl, sub_nat (by omega), tn_lt (by omega) (by omega)]; exact eq_false (by omega)
theorem law_loop (hs : sc.1 ≤ 2560) : ∀ (q x cu su : Nat) (i : Nat → Nat → Int32) (l : Nat → Nat → Int64) (f t : Nat) (sp : Nat → Nat) (m : Nat) (v5 v6 v7 : Value), 5 * (x + q) ≤ sc.1 → sc.1 < 5 * (x + q) + 5 → IV m i l f t sp → (∀ (cu2 su2 : Nat) (i : Nat → Nat → Int32) (l : Nat → Nat → Int64) (r : Nat → Nat → Value), cu2 ≤ cu + q → su2 ≤ su + 6 * q → K (some (some (.int 1))) ((120, cu2, su2), i, l, r)) → kWP sc (d + 500) 260 23 [.ref kScA, .ref 0, .ref 91, .ref 119, .int (Int32.ofNat (5 * x)), v5, v6, v7] [] ((120, cu, su), i, l, kR f t sp) K := by
  intro q
  induction q with
  | zero =>
    intro x cu su i l f t sp m v5 v6 v7 h1 h2 h hK
    simp only [e_L_law_23, e_L_law_25, e_L_law_26, e_L_law_27, e_L_law_28, e_L_law_29, lw_end (show 5 * x ≤ sc.1 by omega) (by omega) hs, if_true, e_L_law_1428, e_L_law_1429, kbool_1, true_and]
    exact hK _ _ _ _ _ (by omega) (by omega)
  | succ q ih =>
    intro x cu su i l f t sp m v5 v6 v7 h1 h2 h hK
    simp only [e_L_law_23, e_L_law_25, e_L_law_26, e_L_law_27, e_L_law_28, e_L_law_29, lw_go (show 5 * x + 5 ≤ sc.1 by omega) hs, if_false, e_L_law_32, e_L_law_33, e_L_law_35, e_L_law_36, e_L_law_38, lkin (show 5 * x < sc.1 by omega) (show sc.1 < 100000 by omega), true_and]
    refine lw_sw h (by omega) hs ?_
    intro i2 l2 f2 t2 sp2 m2 cu2 su2 w5 w6 w7 hIV c1 c2 c3 c4
    have e5 : Int32.ofNat (5 * x) + 5 = Int32.ofNat (5 * (x + 1)) := by rw [show 5 * (x + 1) = 5 * x + 5 by omega, Int32.ofNat_add]; rfl
    simp only [e_L_law_1422, e_L_law_1425, e5]
    exact ih (x + 1) cu2 su2 i2 l2 f2 t2 sp2 m2 w5 w6 w7 (by omega) (by omega) hIV (fun cu3 su3 i3 l3 r3 a b => hK cu3 su3 i3 l3 r3 (by omega) (by omega))
end TC
