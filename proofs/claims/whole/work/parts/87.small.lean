/-! THE TEXT, the row, draws, the past -/
section TC
variable {sc : Nat × (Nat → Int32)} {d y nx : Nat} {hd : List (Int × Nat)} {L st : List Value} {S : kS} {cu su : Nat} {i : Nat → Nat → Int32} {l : Nat → Nat → Int64} {f t c b m : Nat} {sp : Nat → Nat} {K : Option (Option Value) → kS → Prop}
variable {N : Nat → Int32} {X : Nat × (Nat → Int32)}
def xPut (i : Nat → Nat → Int32) (X : Nat × (Nat → Int32)) : Nat → Nat → Int32 := fun x j => if x = 1 ∧ j = 1 then Int32.ofNat X.1 else if x = 2 ∧ j < 80 then X.2 j else i x j
def xGet (i : Nat → Nat → Int32) : Nat × (Nat → Int32) := ((i 1 1).toUInt32.toNat, i 2)
theorem xP_n : xPut i X 1 1 = Int32.ofNat X.1 := by simp [xPut]
theorem xP_s {x : Nat} (h : x < 80) : xPut i X 2 x = X.2 x := by simp [xPut, h]
theorem xP_o {x : Nat} (h1 : x ≠ 1) (h2 : x ≠ 2) : xPut i X x = i x := by funext j; simp [xPut, h1, h2]
theorem xP_hi {x : Nat} (h : 3 ≤ x) : xPut i X x = i x := xP_o (by omega) (by omega)
theorem xP_g : xPut i (xGet i) = i := by
  funext x j
  unfold xPut xGet
  by_cases h1 : x = 1 ∧ j = 1
  · rw [if_pos h1, h1.1, h1.2]
    show Int32.ofNat (i 1 1).toBitVec.toNat = i 1 1
    rw [Int32.ofNat_bitVecToNat, Int32.ofBitVec_toBitVec]
  · rw [if_neg h1]
    by_cases h2 : x = 2 ∧ j < 80
    · rw [if_pos h2, h2.1]
    · rw [if_neg h2]
theorem xW_n {n : Nat} : kupi (xPut i X) 1 1 (Int32.ofNat n) = xPut i (n, X.2) := by
  funext x j
  unfold kupi xPut
  by_cases h1 : x = 1 ∧ j = 1
  · simp [h1]
  · simp [h1]
theorem xW_s {x : Nat} {v : Int32} (h : x < 80) : kupi (xPut i X) 2 x v = xPut i (X.1, kuf X.2 x v) := by
  funext z j
  unfold kupi xPut kuf
  by_cases h1 : z = 2
  · subst h1
    by_cases hj : j = x
    · subst hj; simp [h]
    · simp [hj]
  · simp [h1]
def qPut (X : Nat × (Nat → Int32)) (v : Int32) : Nat × (Nat → Int32) := if 80 ≤ X.1 then X else (X.1 + 1, kuf X.2 X.1 (kchar v))
theorem qPut_le {v : Int32} (h : X.1 ≤ 80) : (qPut X v).1 ≤ 80 := by unfold qPut; split; exact h; simp; omega
theorem c_put {v : Int32} (hX : X.1 ≤ 80) : kCA sc (d + 1) 93 [.ref 1, .int v] y nx hd L st ((120, cu, su), xPut i X, l, kR f t sp) K = kWP sc (d + 1) y nx L st ((120, cu, su), xPut i (qPut X v), l, kR f t sp) K := by
  refine kCA_of (d := d) (v := none) (S2 := ((120, cu, su), xPut i (qPut X v), l, kR f t sp)) (fun K => ?_)
  rw [km_93]
  show kWP sc (d) 93 0 [.ref 1, .int v] [] ((120, cu, su), xPut i X, l, kR f t sp) K = K (some (none)) ((120, cu, su), xPut i (qPut X v), l, kR f t sp)
  simp only [e_X9_put_0, e_X9_put_1, e_X9_put_4, e_X9_put_6, e_X9_put_9, e_X9_put_10, e_X9_put_13, e_X9_put_14, e_X9_put_17, e_X9_put_18, e_X9_put_19, e_X9_put_20, e_X9_put_21, e_X9_put_24, e_X9_put_25, e_X9_put_26, e_X9_put_29, ob_1, rk_1_0, ar_2, kcl_i, kcl_r, kcl_l, kcl_0, kcl_n, true_and, and_true, xP_n, show (80 : Int32) = Int32.ofNat 80 from rfl, tn_le (show 80 < 2147483648 by decide) (show X.1 < 2147483648 by omega)]
  unfold qPut
  by_cases q1 : 80 ≤ X.1
  · simp only [q1, if_true]
  · have q2 : kin (Int32.ofNat X.1) 80 = True := by rw [tn_kin (by omega)]; exact eq_true (by omega)
    simp only [q1, q2, if_false, tn_cl (show X.1 < 2147483648 by omega), xW_s (show X.1 < 80 by omega), xP_n, tn_s, xW_n, true_and]
theorem c_empty  : kCA sc (d + 1) 91 [.ref 1] y nx hd L st ((120, cu, su), i, l, kR f t sp) K = kWP sc (d + 1) y nx L st ((120, cu, su), kupi i 1 1 0, l, kR f t sp) K := by
  refine kCA_of (d := d) (v := none) (S2 := ((120, cu, su), kupi i 1 1 0, l, kR f t sp)) (fun K => ?_)
  rw [km_91]
  show kWP sc (d) 91 0 [.ref 1] [] ((120, cu, su), i, l, kR f t sp) K = K (some (none)) ((120, cu, su), kupi i 1 1 0, l, kR f t sp)
  simp only [e_X9_empty_0, e_X9_empty_1, e_X9_empty_2, e_X9_empty_5, ob_1, kcl_i, kcl_r, kcl_l, kcl_0, kcl_n, true_and, and_true]
theorem c_cut {p : Int32} : kCA sc (d + 1) 90 [.ref 1, .int p] y nx hd L st ((120, cu, su), i, l, kR f t sp) K = kWP sc (d + 1) y nx L (.int (kb (¬ p < 0 ∧ p ≤ i 1 1)) :: st) ((120, cu, su), if ¬ p < 0 ∧ p ≤ i 1 1 then kupi i 1 1 p else i, l, kR f t sp) K := by
  refine kCA_of (d := d) (v := some (.int (kb (¬ p < 0 ∧ p ≤ i 1 1)))) (S2 := ((120, cu, su), if ¬ p < 0 ∧ p ≤ i 1 1 then kupi i 1 1 p else i, l, kR f t sp)) (fun K => ?_)
  rw [km_90]
  show kWP sc (d) 90 0 [.ref 1, .int p] [] ((120, cu, su), i, l, kR f t sp) K = K (some (some (.int (kb (¬ p < 0 ∧ p ≤ i 1 1))))) ((120, cu, su), if ¬ p < 0 ∧ p ≤ i 1 1 then kupi i 1 1 p else i, l, kR f t sp)
  simp only [e_X9_cut_0, e_X9_cut_1, e_X9_cut_4, e_X9_cut_5, e_X9_cut_6, e_X9_cut_9, e_X9_cut_12, e_X9_cut_13, e_X9_cut_14, e_X9_cut_15, e_X9_cut_16, e_X9_cut_19, e_X9_cut_20, ob_1, kcl_i, kcl_r, kcl_l, kcl_0, kcl_n, true_and, and_true, kbool_0, kbool_1]
  by_cases q1 : p < 0 <;> by_cases q2 : p ≤ i 1 1 <;> simp [kb, q1, q2]
def qSign (v : Int32) (s : Int32) : Int32 := (((v.toUInt32 >>> (s.toUInt32 &&& Int32.toUInt32 31)).toInt32 &&& 255).toUInt32 % 65536).toInt32
def qAdd (X : Nat × (Nat → Int32)) (v : Int32) : Nat × (Nat → Int32) := if X.1 ≤ 76 then qPut (qPut (qPut (qPut X (qSign v 24)) (qSign v 16)) (qSign v 8)) (qSign v 0) else X
theorem c_xadd {v : Int32} (hX : X.1 ≤ 80) : kCA sc (d + 2) 88 [.ref 1, .int v] y nx hd L st ((120, cu, su), xPut i X, l, kR f t sp) K = kWP sc (d + 2) y nx L (.int (if X.1 ≤ 76 then Int32.ofNat (qAdd X v).1 else -1) :: st) ((120, cu, su), xPut i (qAdd X v), l, kR f t sp) K := by
  refine kCA_of (d := d + 1) (v := some (.int (if X.1 ≤ 76 then Int32.ofNat (qAdd X v).1 else -1))) (S2 := ((120, cu, su), xPut i (qAdd X v), l, kR f t sp)) (fun K => ?_)
  rw [km_88]
  show kWP sc (d + 1) 88 0 [.ref 1, .int v, .retAddr 0] [] ((120, cu, su), xPut i X, l, kR f t sp) K = K (some (some (.int (if X.1 ≤ 76 then Int32.ofNat (qAdd X v).1 else -1)))) ((120, cu, su), xPut i (qAdd X v), l, kR f t sp)
  have h1 := @qPut_le X (qSign v 24) hX
  have h2 := @qPut_le _ (qSign v 16) h1
  have h3 := @qPut_le _ (qSign v 8) h2
  have g : ∀ s : Int32, (((v.toUInt32 >>> (s.toUInt32 &&& Int32.toUInt32 31)).toInt32 &&& 255).toUInt32 % 65536).toInt32 = qSign v s := fun s => rfl
  simp only [e_X9_add_0, e_X9_add_1, e_X9_add_4, e_X9_add_6, e_X9_add_9, e_X9_add_10, e_X9_add_11, e_X9_add_13, e_X9_add_14, e_X9_add_15, e_X9_add_18, e_X9_add_19, e_X9_add_20, e_X9_add_21, e_X9_add_22, e_X9_add_25, e_X9_add_26, e_X9_add_27, e_X9_add_30, e_X9_add_33, e_X9_add_36, e_X9_add_37, e_X9_add_40, ob_1, kcl_i, kcl_r, kcl_l, kcl_0, kcl_n, true_and, and_true, xP_n, show (76 : Int32) = Int32.ofNat 76 from rfl, tn_le (show X.1 < 2147483648 by omega) (show 76 < 2147483648 by decide), g, show ((24 : Int32) < 0) = False from eq_false (by decide), show (24 : Int32) + -8 = 16 from by decide, show ((16 : Int32) < 0) = False from eq_false (by decide), show (16 : Int32) + -8 = 8 from by decide, show ((8 : Int32) < 0) = False from eq_false (by decide), show (8 : Int32) + -8 = 0 from by decide, show ((0 : Int32) < 0) = False from eq_false (by decide), show (0 : Int32) + -8 = -8 from by decide, show ((-8 : Int32) < 0) = True from eq_true (by decide), if_false, if_true, c_put hX, c_put h1, c_put h2, c_put h3]
  unfold qAdd
  by_cases q1 : X.1 ≤ 76
  · simp only [q1, if_true]
  · simp only [q1, if_false]
def wPut (i : Nat → Nat → Int32) (n : Nat) : Nat → Nat → Int32 := kupi i 3 1 (Int32.ofNat n)
theorem wP_n {n : Nat} : wPut i n 3 1 = Int32.ofNat n := kupi_s
theorem wP_o {n x : Nat} (h : x ≠ 3) : wPut i n x = i x := kupi_cf h
theorem wP_pp {n n2 : Nat} : wPut (wPut i n) n2 = wPut i n2 := by
  funext x j; unfold wPut kupi; by_cases h : x = 3 ∧ j = 1
  · simp [h]
  · simp [h]
theorem c_start  : kCA sc (d + 1) 40 [.ref 3] y nx hd L st ((120, cu, su), i, l, kR f t sp) K = kWP sc (d + 1) y nx L st ((120, cu, su), wPut i 0, l, kR f t sp) K := by
  refine kCA_of (d := d) (v := none) (S2 := ((120, cu, su), wPut i 0, l, kR f t sp)) (fun K => ?_)
  rw [km_40]
  show kWP sc (d) 40 0 [.ref 3] [] ((120, cu, su), i, l, kR f t sp) K = K (some (none)) ((120, cu, su), wPut i 0, l, kR f t sp)
  simp only [e_X4_start_0, e_X4_start_1, e_X4_start_2, e_X4_start_5, ob_3, kcl_i, kcl_r, kcl_l, kcl_0, kcl_n, true_and, and_true]
  rfl
theorem c_radd {n : Nat} {z : Int64} (hn : n < 128) : kCA sc (d + 1) 41 [.ref 3, .long z] y nx hd L st ((120, cu, su), wPut i n, l, kR f t sp) K = kWP sc (d + 1) y nx L st ((120, cu, su), wPut i (n + 1), kupl l 4 n z, kR f t sp) K := by
  refine kCA_of (d := d) (v := none) (S2 := ((120, cu, su), wPut i (n + 1), kupl l 4 n z, kR f t sp)) (fun K => ?_)
  rw [km_41]
  show kWP sc (d) 41 0 [.ref 3, .long z, .retAddr 0] [] ((120, cu, su), wPut i n, l, kR f t sp) K = K (some (none)) ((120, cu, su), wPut i (n + 1), kupl l 4 n z, kR f t sp)
  have c1 : (Int32.ofNat 128 ≤ Int32.ofNat n) = False := by rw [tn_le (by omega) (by omega)]; exact eq_false (by omega)
  have c2 : kin (Int32.ofNat n) 128 = True := by rw [tn_kin (by omega)]; exact eq_true hn
  simp only [e_X4_add_0, e_X4_add_1, e_X4_add_4, e_X4_add_7, e_X4_add_10, e_X4_add_11, e_X4_add_14, e_X4_add_15, e_X4_add_18, e_X4_add_19, e_X4_add_20, e_X4_add_21, e_X4_add_22, e_X4_add_25, e_X4_add_26, e_X4_add_27, e_X4_add_30, ob_3, rk_3_0, ar_4, kcl_i, kcl_r, kcl_l, kcl_0, kcl_n, true_and, and_true, wP_n, show (128 : Int32) = Int32.ofNat 128 from rfl, c1, c2, if_false, tn_cl (show n < 2147483648 by omega), tn_s]
  show K _ (_, wPut (wPut i n) (n + 1), _, _) = _
  rw [wP_pp]
theorem c_dstart {p : Int32} : kCA sc (d + 1) 1 [.ref 84, .int p] y nx hd L st ((120, cu, su), i, l, kR f t sp) K = kWP sc (d + 1) y nx L st ((120, cu, su), kupi i 84 0 p, l, kR f t sp) K := by
  refine kCA_of (d := d) (v := none) (S2 := ((120, cu, su), kupi i 84 0 p, l, kR f t sp)) (fun K => ?_)
  rw [km_1]
  show kWP sc (d) 1 0 [.ref 84, .int p] [] ((120, cu, su), i, l, kR f t sp) K = K (some (none)) ((120, cu, su), kupi i 84 0 p, l, kR f t sp)
  simp only [e_X0_start_0, e_X0_start_1, e_X0_start_2, e_X0_start_5, ob_84, kcl_i, kcl_r, kcl_l, kcl_0, kcl_n, true_and, and_true]
def qDr (x : Int32) : Int32 := x * 1103515245 + 12345
def qOf (x n : Int32) : Int32 := (x.toUInt32 >>> (Int32.toUInt32 16 &&& Int32.toUInt32 31)).toInt32 - (x.toUInt32 >>> (Int32.toUInt32 16 &&& Int32.toUInt32 31)).toInt32 / n * n
theorem c_of {n : Int32} (h1 : 1 ≤ n) : kCA sc (d + 1) 2 [.ref 84, .int n] y nx hd L st ((120, cu, su), i, l, kR f t sp) K = kWP sc (d + 1) y nx L (.int (qOf (qDr (i 84 0)) n) :: st) ((120, cu, su), kupi i 84 0 (qDr (i 84 0)), l, kR f t sp) K := by
  refine kCA_of (d := d) (v := some (.int (qOf (qDr (i 84 0)) n))) (S2 := ((120, cu, su), kupi i 84 0 (qDr (i 84 0)), l, kR f t sp)) (fun K => ?_)
  rw [km_2]
  show kWP sc (d) 2 0 [.ref 84, .int n] [] ((120, cu, su), i, l, kR f t sp) K = K (some (some (.int (qOf (qDr (i 84 0)) n)))) ((120, cu, su), kupi i 84 0 (qDr (i 84 0)), l, kR f t sp)
  have h0 : (¬ n = 0) = True := eq_true (fun e => by rw [e] at h1; exact absurd h1 (by decide))
  simp only [e_X0_of_0, e_X0_of_1, e_X0_of_2, e_X0_of_5, e_X0_of_7, e_X0_of_8, e_X0_of_11, e_X0_of_12, e_X0_of_15, e_X0_of_16, e_X0_of_17, e_X0_of_20, e_X0_of_21, e_X0_of_24, e_X0_of_25, e_X0_of_28, e_X0_of_30, e_X0_of_31, e_X0_of_32, e_X0_of_33, ob_84, kcl_i, kcl_r, kcl_l, kcl_0, kcl_n, true_and, and_true, h1, if_true, kupi_s, h0]
  rfl
end TC
