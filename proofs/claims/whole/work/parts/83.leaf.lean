/-! the class's small methods that change nothing -/
section TC
variable {sc : Nat × (Nat → Int32)} {d y nx : Nat} {hd : List (Int × Nat)} {L st : List Value} {S : kS} {cu su : Nat} {i : Nat → Nat → Int32} {l : Nat → Nat → Int64} {f t c b m : Nat} {sp : Nat → Nat} {K : Option (Option Value) → kS → Prop}
theorem kin_of {p : Int32} {m n : Nat} (hm : m ≤ n) (hn : n < 2147483648) (h0 : ¬ p < 0) (h1 : p < Int32.ofNat m) : kin p n = True := by
  obtain ⟨a, ha, rfl⟩ := tn_ex (by omega) (Int32.not_lt.1 h0) h1
  rw [tn_kin (by omega)]; exact eq_true (by omega)
def pHas (M p : Int32) : Bool := !decide (p < 0) && !decide (M ≤ p)
theorem pHas_iff {M p : Int32} : pHas M p = true ↔ ¬ p < 0 ∧ ¬ M ≤ p := by simp [pHas]
def pBit (v : Int32) (x : Nat) : Int32 := (v >>> (Int32.ofNat x &&& 31)) &&& 1
def pFirst (v : Int32) : Int32 := match kfi (fun x => ¬ pBit v x = 0) 8 0 with | some y => Int32.ofNat y | none => -1
def pNob (p : Int32) : Int32 := if p = -1 then -2 else p
theorem c_orNobody {p : Int32} : kCA sc (d + 1) 147 [.int p] y nx hd L st ((120, cu, su), i, l, kR f t sp) K = kWP sc (d + 1) y nx L (.int (pNob p) :: st) ((120, cu, su), i, l, kR f t sp) K := by
  refine kCA_of (d := d) (v := some (.int (pNob p))) (S2 := ((120, cu, su), i, l, kR f t sp)) (fun K => ?_)
  rw [km_147]
  show kWP sc (d) 147 0 [.int p] [] ((120, cu, su), i, l, kR f t sp) K = K (some (some (.int (pNob p)))) ((120, cu, su), i, l, kR f t sp)
  simp only [e_X10_orNobody_0, e_X10_orNobody_1, e_X10_orNobody_2, e_X10_orNobody_5, e_X10_orNobody_7, e_X10_orNobody_10, e_X10_orNobody_11, kcl_i, kcl_r, kcl_l, kcl_0, kcl_n, true_and, and_true]
  by_cases q1 : p = -1 <;> simp [pNob, q1]
theorem c_isThing {p : Int32} : kCA sc (d + 1) 148 [.int p] y nx hd L st ((120, cu, su), i, l, kR f t sp) K = kWP sc (d + 1) y nx L (.int (kb (¬ p < 0 ∧ ¬ 8 ≤ p)) :: st) ((120, cu, su), i, l, kR f t sp) K := by
  refine kCA_of (d := d) (v := some (.int (kb (¬ p < 0 ∧ ¬ 8 ≤ p)))) (S2 := ((120, cu, su), i, l, kR f t sp)) (fun K => ?_)
  rw [km_148]
  show kWP sc (d) 148 0 [.int p] [] ((120, cu, su), i, l, kR f t sp) K = K (some (some (.int (kb (¬ p < 0 ∧ ¬ 8 ≤ p))))) ((120, cu, su), i, l, kR f t sp)
  simp only [e_X10_isThing_0, e_X10_isThing_1, e_X10_isThing_4, e_X10_isThing_5, e_X10_isThing_7, e_X10_isThing_10, e_X10_isThing_11, e_X10_isThing_14, e_X10_isThing_15, kcl_i, kcl_r, kcl_l, kcl_0, kcl_n, true_and, and_true, kbool_0, kbool_1]
  by_cases q1 : p < 0 <;> by_cases q2 : 8 ≤ p <;> simp [kb, q1, q2]
theorem c_areThings {p : Int32} : kCA sc (d + 1) 149 [.int p] y nx hd L st ((120, cu, su), i, l, kR f t sp) K = kWP sc (d + 1) y nx L (.int (kb (¬ p < 0 ∧ ¬ 255 < p)) :: st) ((120, cu, su), i, l, kR f t sp) K := by
  refine kCA_of (d := d) (v := some (.int (kb (¬ p < 0 ∧ ¬ 255 < p)))) (S2 := ((120, cu, su), i, l, kR f t sp)) (fun K => ?_)
  rw [km_149]
  show kWP sc (d) 149 0 [.int p] [] ((120, cu, su), i, l, kR f t sp) K = K (some (some (.int (kb (¬ p < 0 ∧ ¬ 255 < p))))) ((120, cu, su), i, l, kR f t sp)
  simp only [e_X10_areThings_0, e_X10_areThings_1, e_X10_areThings_4, e_X10_areThings_5, e_X10_areThings_8, e_X10_areThings_11, e_X10_areThings_12, e_X10_areThings_15, e_X10_areThings_16, kcl_i, kcl_r, kcl_l, kcl_0, kcl_n, true_and, and_true, kbool_0, kbool_1]
  by_cases q1 : p < 0 <;> by_cases q2 : 255 < p <;> simp [kb, q1, q2]
theorem c_isLength {p : Int32} : kCA sc (d + 1) 150 [.int p] y nx hd L st ((120, cu, su), i, l, kR f t sp) K = kWP sc (d + 1) y nx L (.int (kb (¬ p < 1 ∧ ¬ 9 < p)) :: st) ((120, cu, su), i, l, kR f t sp) K := by
  refine kCA_of (d := d) (v := some (.int (kb (¬ p < 1 ∧ ¬ 9 < p)))) (S2 := ((120, cu, su), i, l, kR f t sp)) (fun K => ?_)
  rw [km_150]
  show kWP sc (d) 150 0 [.int p] [] ((120, cu, su), i, l, kR f t sp) K = K (some (some (.int (kb (¬ p < 1 ∧ ¬ 9 < p))))) ((120, cu, su), i, l, kR f t sp)
  simp only [e_X10_isLength_0, e_X10_isLength_1, e_X10_isLength_2, e_X10_isLength_5, e_X10_isLength_6, e_X10_isLength_8, e_X10_isLength_11, e_X10_isLength_12, e_X10_isLength_15, e_X10_isLength_16, kcl_i, kcl_r, kcl_l, kcl_0, kcl_n, true_and, and_true, kbool_0, kbool_1]
  by_cases q1 : p < 1 <;> by_cases q2 : 9 < p <;> simp [kb, q1, q2]
theorem c_isDigit {p : Int32} : kCA sc (d + 1) 151 [.int p] y nx hd L st ((120, cu, su), i, l, kR f t sp) K = kWP sc (d + 1) y nx L (.int (kb (¬ p < 48 ∧ ¬ 57 < p)) :: st) ((120, cu, su), i, l, kR f t sp) K := by
  refine kCA_of (d := d) (v := some (.int (kb (¬ p < 48 ∧ ¬ 57 < p)))) (S2 := ((120, cu, su), i, l, kR f t sp)) (fun K => ?_)
  rw [km_151]
  show kWP sc (d) 151 0 [.int p] [] ((120, cu, su), i, l, kR f t sp) K = K (some (some (.int (kb (¬ p < 48 ∧ ¬ 57 < p))))) ((120, cu, su), i, l, kR f t sp)
  simp only [e_X10_isDigit_0, e_X10_isDigit_1, e_X10_isDigit_3, e_X10_isDigit_6, e_X10_isDigit_7, e_X10_isDigit_9, e_X10_isDigit_12, e_X10_isDigit_13, e_X10_isDigit_16, e_X10_isDigit_17, kcl_i, kcl_r, kcl_l, kcl_0, kcl_n, true_and, and_true, kbool_0, kbool_1]
  by_cases q1 : p < 48 <;> by_cases q2 : 57 < p <;> simp [kb, q1, q2]
theorem c_firstOf {v : Int32} : kCA sc (d + 1) 152 [.int v] y nx hd L st ((120, cu, su), i, l, kR f t sp) K = kWP sc (d + 1) y nx L (.int (pFirst v) :: st) ((120, cu, su), i, l, kR f t sp) K := by
  refine kCA_of (d := d) (v := some (.int (pFirst v))) (S2 := ((120, cu, su), i, l, kR f t sp)) (fun K => ?_)
  rw [km_152]
  show kWP sc (d) 152 0 [.int v, .retAddr 0] [] ((120, cu, su), i, l, kR f t sp) K = K (some (some (.int (pFirst v)))) ((120, cu, su), i, l, kR f t sp)
  simp only [e_X10_firstOf_0, e_X10_firstOf_1, e_X10_firstOf_3, e_X10_firstOf_5, e_X10_firstOf_8, e_X10_firstOf_9, e_X10_firstOf_10, e_X10_firstOf_11, e_X10_firstOf_12, e_X10_firstOf_13, e_X10_firstOf_16, e_X10_firstOf_17, e_X10_firstOf_18, e_X10_firstOf_21, e_X10_firstOf_24, e_X10_firstOf_25, kcl_i, kcl_r, kcl_l, kcl_0, kcl_n, true_and, and_true]
  refine (k_find (P := fun x => kWP sc d 152 2 [.int v, .int (Int32.ofNat x)] [] ((120, cu, su), i, l, kR f t sp) K) (Q := fun y => K (some (some (.int (Int32.ofNat y)))) ((120, cu, su), i, l, kR f t sp)) (p := fun x => ¬ pBit v x = 0) (n := 8) ?_).trans ?_
  · intro x hx
    have c1 : ((8 : Int32) ≤ Int32.ofNat x) = False := by rw [show (8 : Int32) = Int32.ofNat 8 from rfl, tn_le (by omega) (by omega)]; exact eq_false (by omega)
    refine e_X10_firstOf_2.trans ?_
    simp only [e_X10_firstOf_0, e_X10_firstOf_1, e_X10_firstOf_3, e_X10_firstOf_5, e_X10_firstOf_8, e_X10_firstOf_9, e_X10_firstOf_10, e_X10_firstOf_11, e_X10_firstOf_12, e_X10_firstOf_13, e_X10_firstOf_16, e_X10_firstOf_17, e_X10_firstOf_18, e_X10_firstOf_21, e_X10_firstOf_24, e_X10_firstOf_25, kcl_i, kcl_r, kcl_l, kcl_0, kcl_n, true_and, and_true, c1, if_false, tn_s]
    show (if pBit v x = 0 then _ else _) = _
    by_cases q : pBit v x = 0
    · simp [q]
    · simp [q]
  · unfold pFirst
    cases kfi (fun x => ¬ pBit v x = 0) 8 0 with
    | some y => rfl
    | none =>
      refine e_X10_firstOf_2.trans ?_
      simp only [e_X10_firstOf_0, e_X10_firstOf_1, e_X10_firstOf_3, e_X10_firstOf_5, e_X10_firstOf_8, e_X10_firstOf_9, e_X10_firstOf_10, e_X10_firstOf_11, e_X10_firstOf_12, e_X10_firstOf_13, e_X10_firstOf_16, e_X10_firstOf_17, e_X10_firstOf_18, e_X10_firstOf_21, e_X10_firstOf_24, e_X10_firstOf_25, kcl_i, kcl_r, kcl_l, kcl_0, kcl_n, true_and, and_true, show ((8 : Int32) ≤ Int32.ofNat 8) = True from eq_true (by decide), if_true]
theorem c_has {p : Int32} : kCA sc (d + 1) 28 [.ref 5, .int p] y nx hd L st ((120, cu, su), i, l, kR f t sp) K = kWP sc (d + 1) y nx L (.int (kb (pHas (i 5 0) p)) :: st) ((120, cu, su), i, l, kR f t sp) K := by
  refine kCA_of (d := d) (v := some (.int (kb (pHas (i 5 0) p)))) (S2 := ((120, cu, su), i, l, kR f t sp)) (fun K => ?_)
  rw [km_28]
  show kWP sc (d) 28 0 [.ref 5, .int p] [] ((120, cu, su), i, l, kR f t sp) K = K (some (some (.int (kb (pHas (i 5 0) p))))) ((120, cu, su), i, l, kR f t sp)
  simp only [e_X3_has_0, e_X3_has_1, e_X3_has_4, e_X3_has_5, e_X3_has_6, e_X3_has_9, e_X3_has_12, e_X3_has_13, e_X3_has_16, e_X3_has_17, ob_5, kcl_i, kcl_r, kcl_l, kcl_0, kcl_n, true_and, and_true, kbool_0, kbool_1]
  by_cases q1 : p < 0 <;> by_cases q2 : i 5 0 ≤ p <;> simp [kb, pHas, q1, q2]
theorem c_areTwo {p q : Int32} : kCA sc (d + 2) 29 [.ref 5, .int p, .int q] y nx hd L st ((120, cu, su), i, l, kR f t sp) K = kWP sc (d + 2) y nx L (.int (kb (pHas (i 5 0) p ∧ pHas (i 5 0) q ∧ ¬ p = q)) :: st) ((120, cu, su), i, l, kR f t sp) K := by
  refine kCA_of (d := d + 1) (v := some (.int (kb (pHas (i 5 0) p ∧ pHas (i 5 0) q ∧ ¬ p = q)))) (S2 := ((120, cu, su), i, l, kR f t sp)) (fun K => ?_)
  rw [km_29]
  show kWP sc (d + 1) 29 0 [.ref 5, .int p, .int q] [] ((120, cu, su), i, l, kR f t sp) K = K (some (some (.int (kb (pHas (i 5 0) p ∧ pHas (i 5 0) q ∧ ¬ p = q))))) ((120, cu, su), i, l, kR f t sp)
  simp only [e_X3_areTwo_0, e_X3_areTwo_1, e_X3_areTwo_2, e_X3_areTwo_5, e_X3_areTwo_8, e_X3_areTwo_9, e_X3_areTwo_10, e_X3_areTwo_13, e_X3_areTwo_16, e_X3_areTwo_17, e_X3_areTwo_18, e_X3_areTwo_21, e_X3_areTwo_22, e_X3_areTwo_25, e_X3_areTwo_26, ob_5, kcl_i, kcl_r, kcl_l, kcl_0, kcl_n, true_and, and_true, c_has, kb_0, kbool_0, kbool_1]
  by_cases q1 : pHas (i 5 0) p <;> by_cases q2 : pHas (i 5 0) q <;> by_cases q3 : p = q <;> simp [kb, q1, q2, q3]
theorem c_at {p : Int32} (hs : ¬ 80 < i 1 1) : kCA sc (d + 1) 92 [.ref 1, .int p] y nx hd L st ((120, cu, su), i, l, kR f t sp) K = kWP sc (d + 1) y nx L (.int (if ¬ p < 0 ∧ ¬ i 1 1 ≤ p then i 2 p.toNatClampNeg else -1) :: st) ((120, cu, su), i, l, kR f t sp) K := by
  refine kCA_of (d := d) (v := some (.int (if ¬ p < 0 ∧ ¬ i 1 1 ≤ p then i 2 p.toNatClampNeg else -1))) (S2 := ((120, cu, su), i, l, kR f t sp)) (fun K => ?_)
  rw [km_92]
  show kWP sc (d) 92 0 [.ref 1, .int p] [] ((120, cu, su), i, l, kR f t sp) K = K (some (some (.int (if ¬ p < 0 ∧ ¬ i 1 1 ≤ p then i 2 p.toNatClampNeg else -1)))) ((120, cu, su), i, l, kR f t sp)
  simp only [e_X9_at_0, e_X9_at_1, e_X9_at_4, e_X9_at_5, e_X9_at_6, e_X9_at_9, e_X9_at_12, e_X9_at_13, e_X9_at_16, e_X9_at_17, e_X9_at_18, e_X9_at_21, e_X9_at_22, ob_1, rk_1_0, ar_2, kcl_i, kcl_r, kcl_l, kcl_0, kcl_n, true_and, and_true]
  by_cases q1 : p < 0
  · simp [q1]
  · by_cases q2 : i 1 1 ≤ p
    · simp [q1, q2]
    · have q3 : kin p 80 = True := kin_of (m := 80) (Nat.le_refl _) (by decide) q1 (Int32.lt_of_lt_of_le (Int32.not_le.1 q2) (Int32.not_lt.1 hs))
      simp only [q1, q2, q3, if_false, true_and, not_false_eq_true, and_self, if_true]
theorem c_hadHat {p : Int32} (hc : kNc c = true) : kCA sc (d + 1) 5 [.ref c, .int p] y nx hd L st ((120, cu, su), i, l, kR f t sp) K = kWP sc (d + 1) y nx L (.int ((i c 5 >>> (p &&& 31)) &&& 1) :: st) ((120, cu, su), i, l, kR f t sp) K := by
  refine kCA_of (d := d) (v := some (.int ((i c 5 >>> (p &&& 31)) &&& 1))) (S2 := ((120, cu, su), i, l, kR f t sp)) (fun K => ?_)
  rw [km_5]
  show kWP sc (d) 5 0 [.ref c, .int p] [] ((120, cu, su), i, l, kR f t sp) K = K (some (some (.int ((i c 5 >>> (p &&& 31)) &&& 1)))) ((120, cu, su), i, l, kR f t sp)
  simp only [e_X1_hadHat_0, e_X1_hadHat_1, e_X1_hadHat_4, e_X1_hadHat_5, e_X1_hadHat_6, e_X1_hadHat_7, e_X1_hadHat_8, ob_n hc, kcl_i, kcl_r, kcl_l, kcl_0, kcl_n, true_and, and_true]
theorem c_place {p q : Int32} : kCA sc (d + 1) 82 [.int p, .int q] y nx hd L st ((120, cu, su), i, l, kR f t sp) K = kWP sc (d + 1) y nx L (.int (p * 9 + (if q = -1 then 8 else q)) :: st) ((120, cu, su), i, l, kR f t sp) K := by
  refine kCA_of (d := d) (v := some (.int (p * 9 + (if q = -1 then 8 else q)))) (S2 := ((120, cu, su), i, l, kR f t sp)) (fun K => ?_)
  rw [km_82]
  show kWP sc (d) 82 0 [.int p, .int q] [] ((120, cu, su), i, l, kR f t sp) K = K (some (some (.int (p * 9 + (if q = -1 then 8 else q))))) ((120, cu, su), i, l, kR f t sp)
  simp only [e_X7_place_0, e_X7_place_1, e_X7_place_3, e_X7_place_4, e_X7_place_5, e_X7_place_6, e_X7_place_9, e_X7_place_11, e_X7_place_14, e_X7_place_15, e_X7_place_16, kcl_i, kcl_r, kcl_l, kcl_0, kcl_n, true_and, and_true]
  by_cases q1 : q = -1 <;> simp [q1]
theorem c_without {p q : Int32} : kCA sc (d + 1) 81 [.int p, .int q] y nx hd L st ((120, cu, su), i, l, kR f t sp) K = kWP sc (d + 1) y nx L (.int (if q = 8 then p else p &&& ((1 <<< (q &&& 31)) ^^^ (-1))) :: st) ((120, cu, su), i, l, kR f t sp) K := by
  refine kCA_of (d := d) (v := some (.int (if q = 8 then p else p &&& ((1 <<< (q &&& 31)) ^^^ (-1))))) (S2 := ((120, cu, su), i, l, kR f t sp)) (fun K => ?_)
  rw [km_81]
  show kWP sc (d) 81 0 [.int p, .int q] [] ((120, cu, su), i, l, kR f t sp) K = K (some (some (.int (if q = 8 then p else p &&& ((1 <<< (q &&& 31)) ^^^ (-1)))))) ((120, cu, su), i, l, kR f t sp)
  simp only [e_X7_without_0, e_X7_without_1, e_X7_without_3, e_X7_without_6, e_X7_without_7, e_X7_without_10, e_X7_without_11, e_X7_without_12, e_X7_without_13, e_X7_without_14, e_X7_without_15, e_X7_without_16, e_X7_without_17, kcl_i, kcl_r, kcl_l, kcl_0, kcl_n, true_and, and_true]
  by_cases q1 : q = 8 <;> simp [q1]
def pBC (x : Int32) : Int32 :=
  let g := fun (a : Int32) (n : Int32) => (a.toUInt32 >>> (n.toUInt32 &&& Int32.toUInt32 31)).toInt32
  let x1 := x - (g x 1 &&& 1431655765)
  let x2 := (x1 &&& 858993459) + (g x1 2 &&& 858993459)
  let x3 := (x2 + g x2 4) &&& 252645135
  let x4 := x3 + g x3 8
  let x5 := x4 + g x4 16
  x5 &&& 63
theorem c_bitCount {p : Int32} : kCA sc (d + 1) 256 [.int p] y nx hd L st ((120, cu, su), i, l, kR f t sp) K = kWP sc (d + 1) y nx L (.int (pBC p) :: st) ((120, cu, su), i, l, kR f t sp) K := by
  refine kCA_of (d := d) (v := some (.int (pBC p))) (S2 := ((120, cu, su), i, l, kR f t sp)) (fun K => ?_)
  rw [km_256]
  show kWP sc (d) 256 0 [.int p] [] ((120, cu, su), i, l, kR f t sp) K = K (some (some (.int (pBC p)))) ((120, cu, su), i, l, kR f t sp)
  simp only [e_J6_bitCount_0f7a4_0, e_J6_bitCount_0f7a4_1, e_J6_bitCount_0f7a4_2, e_J6_bitCount_0f7a4_3, e_J6_bitCount_0f7a4_4, e_J6_bitCount_0f7a4_7, e_J6_bitCount_0f7a4_8, e_J6_bitCount_0f7a4_9, e_J6_bitCount_0f7a4_10, e_J6_bitCount_0f7a4_11, e_J6_bitCount_0f7a4_14, e_J6_bitCount_0f7a4_15, e_J6_bitCount_0f7a4_16, e_J6_bitCount_0f7a4_17, e_J6_bitCount_0f7a4_18, e_J6_bitCount_0f7a4_21, e_J6_bitCount_0f7a4_22, e_J6_bitCount_0f7a4_23, e_J6_bitCount_0f7a4_24, e_J6_bitCount_0f7a4_25, e_J6_bitCount_0f7a4_26, e_J6_bitCount_0f7a4_27, e_J6_bitCount_0f7a4_28, e_J6_bitCount_0f7a4_29, e_J6_bitCount_0f7a4_32, e_J6_bitCount_0f7a4_33, e_J6_bitCount_0f7a4_34, e_J6_bitCount_0f7a4_35, e_J6_bitCount_0f7a4_36, e_J6_bitCount_0f7a4_38, e_J6_bitCount_0f7a4_39, e_J6_bitCount_0f7a4_40, e_J6_bitCount_0f7a4_41, e_J6_bitCount_0f7a4_42, e_J6_bitCount_0f7a4_43, e_J6_bitCount_0f7a4_45, e_J6_bitCount_0f7a4_46, e_J6_bitCount_0f7a4_47, e_J6_bitCount_0f7a4_48, e_J6_bitCount_0f7a4_49, e_J6_bitCount_0f7a4_51, e_J6_bitCount_0f7a4_52, kcl_i, kcl_r, kcl_l, kcl_0, kcl_n, true_and, and_true]
  rfl
theorem c_actSigns {p : Int32} : kCA sc (d + 1) 139 [.int p] y nx hd L st ((120, cu, su), i, l, kR f t sp) K = kWP sc (d + 1) y nx L (.int (if p = 110 ∨ p = 122 then 2 else 3) :: st) ((120, cu, su), i, l, kR f t sp) K := by
  refine kCA_of (d := d) (v := some (.int (if p = 110 ∨ p = 122 then 2 else 3))) (S2 := ((120, cu, su), i, l, kR f t sp)) (fun K => ?_)
  rw [km_139]
  show kWP sc (d) 139 0 [.int p] [] ((120, cu, su), i, l, kR f t sp) K = K (some (some (.int (if p = 110 ∨ p = 122 then 2 else 3)))) ((120, cu, su), i, l, kR f t sp)
  simp only [e_X10_actSigns_0, e_X10_actSigns_1, e_X10_actSigns_3, e_X10_actSigns_6, e_X10_actSigns_7, e_X10_actSigns_9, e_X10_actSigns_12, e_X10_actSigns_13, e_X10_actSigns_16, e_X10_actSigns_17, kcl_i, kcl_r, kcl_l, kcl_0, kcl_n, true_and, and_true]
  by_cases q1 : p = 110 <;> by_cases q2 : p = 122 <;> simp [q1, q2]
def pKind (p : Int32) : Int32 := if p = 119 then 0 else if p = 122 then 1 else if p = 113 then 2 else if p = 98 then 3 else if p = 99 then 4 else -1
theorem c_kindOf {p : Int32} : kCA sc (d + 1) 141 [.int p] y nx hd L st ((120, cu, su), i, l, kR f t sp) K = kWP sc (d + 1) y nx L (.int (pKind p) :: st) ((120, cu, su), i, l, kR f t sp) K := by
  refine kCA_of (d := d) (v := some (.int (pKind p))) (S2 := ((120, cu, su), i, l, kR f t sp)) (fun K => ?_)
  rw [km_141]
  show kWP sc (d) 141 0 [.int p] [] ((120, cu, su), i, l, kR f t sp) K = K (some (some (.int (pKind p)))) ((120, cu, su), i, l, kR f t sp)
  simp only [e_X10_kindOf_0, e_X10_kindOf_1, e_X10_kindOf_52, e_X10_kindOf_53, e_X10_kindOf_54, e_X10_kindOf_55, e_X10_kindOf_56, e_X10_kindOf_57, e_X10_kindOf_58, e_X10_kindOf_59, e_X10_kindOf_60, e_X10_kindOf_61, e_X10_kindOf_62, e_X10_kindOf_63, kcl_i, kcl_r, kcl_l, kcl_0, kcl_n, true_and, and_true]
  unfold pKind
  by_cases q1 : p = 98
  · subst q1; rfl
  by_cases q2 : p = 99
  · subst q2; rfl
  by_cases q3 : p = 113
  · subst q3; rfl
  by_cases q4 : p = 119
  · subst q4; rfl
  by_cases q5 : p = 122
  · subst q5; rfl
  simp [q1, q2, q3, q4, q5]
end TC
