/-! the reference's small methods -/
section TC
variable {sc : Nat × (Nat → Int32)} {d y nx : Nat} {hd : List (Int × Nat)} {L st : List Value} {S : kS} {cu su : Nat} {i : Nat → Nat → Int32} {l : Nat → Nat → Int64} {f t c b m : Nat} {sp : Nat → Nat} {K : Option (Option Value) → kS → Prop}
variable {M Z S1 Q : Nat → Int32}
theorem lg_lt {x z : Int64} : (lg_cmp x z < 0) = (x < z) := by
  unfold lg_cmp
  by_cases h : x > z
  · rw [if_pos h]; apply propext; constructor
    · intro q; exact absurd q (by decide)
    · intro q; exact absurd q (Int64.lt_asymm h)
  · rw [if_neg h]
    by_cases e : x = z
    · rw [if_pos e, e]; simp
    · rw [if_neg e]; apply propext; constructor
      · intro _; rcases Int64.lt_or_lt_of_ne e with q | q
        · exact q
        · exact absurd q h
      · intro _; decide
theorem lg_gt {x z : Int64} : (0 < lg_cmp x z) = (z < x) := by
  unfold lg_cmp
  by_cases h : x > z
  · rw [if_pos h]; exact propext ⟨fun _ => h, fun _ => by decide⟩
  · rw [if_neg h]
    by_cases e : x = z
    · rw [if_pos e, e]; simp
    · rw [if_neg e]; apply propext; constructor
      · intro q; exact absurd q (by decide)
      · intro q; exact absurd q h
theorem lg_eq {x z : Int64} : (lg_cmp x z = 0) = (x = z) := by
  unfold lg_cmp
  by_cases h : x > z
  · rw [if_pos h]; apply propext; constructor
    · intro q; exact absurd q (by decide)
    · intro q; rw [q] at h; exact absurd h Int64.lt_irrefl
  · rw [if_neg h]
    by_cases e : x = z
    · rw [if_pos e]; simp [e]
    · rw [if_neg e]; apply propext; constructor
      · intro q; exact absurd q (by decide)
      · intro q; exact absurd q e
theorem m_in {z1 z2 z3 : Int64} : kCA sc (d + 1) 157 [.long z1, .long z2, .long z3] y nx hd L st ((120, cu, su), i, l, kR f t sp) K = kWP sc (d + 1) y nx L (.int (kb (¬ z1 < z2 ∧ ¬ z3 < z1)) :: st) ((120, cu, su), i, l, kR f t sp) K := by
  refine kCA_of (d := d) (v := some (.int (kb (¬ z1 < z2 ∧ ¬ z3 < z1)))) (S2 := ((120, cu, su), i, l, kR f t sp)) (fun K => ?_)
  rw [km_157]
  show kWP sc (d) 157 0 [.long z1, .retAddr 0, .long z2, .retAddr 0, .long z3, .retAddr 0] [] ((120, cu, su), i, l, kR f t sp) K = K (some (some (.int (kb (¬ z1 < z2 ∧ ¬ z3 < z1))))) ((120, cu, su), i, l, kR f t sp)
  simp only [e_X11_in_0, e_X11_in_1, e_X11_in_2, e_X11_in_3, e_X11_in_6, e_X11_in_7, e_X11_in_9, e_X11_in_10, e_X11_in_13, e_X11_in_14, e_X11_in_17, e_X11_in_18, kcl_i, kcl_r, kcl_l, kcl_0, kcl_n, true_and, and_true, kbool_0, kbool_1, lg_lt, lg_gt]
  by_cases q1 : z1 < z2 <;> by_cases q2 : z3 < z1 <;> simp [kb, q1, q2]
theorem m_inI {p q w : Int32} : kb (¬ p.toInt64 < q.toInt64 ∧ ¬ w.toInt64 < p.toInt64) = kb (¬ p < q ∧ ¬ w < p) := kb_c (by rw [Int32.toInt64_lt, Int32.toInt64_lt])
theorem m_has {p q : Int32} : kCA sc (d + 1) 158 [.int p, .int q] y nx hd L st ((120, cu, su), i, l, kR f t sp) K = kWP sc (d + 1) y nx L (.int (kb ((p >>> (q &&& 31)) &&& 1 = 1)) :: st) ((120, cu, su), i, l, kR f t sp) K := by
  refine kCA_of (d := d) (v := some (.int (kb ((p >>> (q &&& 31)) &&& 1 = 1)))) (S2 := ((120, cu, su), i, l, kR f t sp)) (fun K => ?_)
  rw [km_158]
  show kWP sc (d) 158 0 [.int p, .int q] [] ((120, cu, su), i, l, kR f t sp) K = K (some (some (.int (kb ((p >>> (q &&& 31)) &&& 1 = 1))))) ((120, cu, su), i, l, kR f t sp)
  simp only [e_X11_has_0, e_X11_has_1, e_X11_has_2, e_X11_has_3, e_X11_has_4, e_X11_has_5, e_X11_has_6, e_X11_has_9, e_X11_has_10, e_X11_has_13, e_X11_has_14, kcl_i, kcl_r, kcl_l, kcl_0, kcl_n, true_and, and_true, kbool_0, kbool_1]
  by_cases q1 : (p >>> (q &&& 31)) &&& 1 = 1 <;> simp [kb, q1]
theorem m_flag {p : Int32} : kCA sc (d + 1) 159 [.int p] y nx hd L st ((120, cu, su), i, l, kR f t sp) K = kWP sc (d + 1) y nx L (.int (if p = 0 then 0 else 1) :: st) ((120, cu, su), i, l, kR f t sp) K := by
  refine kCA_of (d := d) (v := some (.int (if p = 0 then 0 else 1))) (S2 := ((120, cu, su), i, l, kR f t sp)) (fun K => ?_)
  rw [km_159]
  show kWP sc (d) 159 0 [.int p] [] ((120, cu, su), i, l, kR f t sp) K = K (some (some (.int (if p = 0 then 0 else 1)))) ((120, cu, su), i, l, kR f t sp)
  simp only [e_X11_flag_0, e_X11_flag_1, e_X11_flag_4, e_X11_flag_5, e_X11_flag_8, e_X11_flag_9, kcl_i, kcl_r, kcl_l, kcl_0, kcl_n, true_and, and_true]
  by_cases q1 : p = 0 <;> simp [q1]
theorem m_flagkb {e : Prop} [Decidable e] : (if kb e = 0 then (0 : Int32) else 1) = kb e := by
  unfold kb; by_cases h : e <;> simp [h]
theorem lt_pred {p : Int32} (h8 : m ≤ 8) : (Int32.ofNat m - 1 < p) ↔ Int32.ofNat m ≤ p := by
  have : m = 0 ∨ m = 1 ∨ m = 2 ∨ m = 3 ∨ m = 4 ∨ m = 5 ∨ m = 6 ∨ m = 7 ∨ m = 8 := by omega
  rw [Int32.lt_iff_toInt_lt, Int32.le_iff_toInt_le]
  rcases this with rfl | rfl | rfl | rfl | rfl | rfl | rfl | rfl | rfl
  · rw [show (Int32.ofNat 0 - 1).toInt = -1 from by decide, show (Int32.ofNat 0).toInt = 0 from by decide]; omega
  · rw [show (Int32.ofNat 1 - 1).toInt = 0 from by decide, show (Int32.ofNat 1).toInt = 1 from by decide]; omega
  · rw [show (Int32.ofNat 2 - 1).toInt = 1 from by decide, show (Int32.ofNat 2).toInt = 2 from by decide]; omega
  · rw [show (Int32.ofNat 3 - 1).toInt = 2 from by decide, show (Int32.ofNat 3).toInt = 3 from by decide]; omega
  · rw [show (Int32.ofNat 4 - 1).toInt = 3 from by decide, show (Int32.ofNat 4).toInt = 4 from by decide]; omega
  · rw [show (Int32.ofNat 5 - 1).toInt = 4 from by decide, show (Int32.ofNat 5).toInt = 5 from by decide]; omega
  · rw [show (Int32.ofNat 6 - 1).toInt = 5 from by decide, show (Int32.ofNat 6).toInt = 6 from by decide]; omega
  · rw [show (Int32.ofNat 7 - 1).toInt = 6 from by decide, show (Int32.ofNat 7).toInt = 7 from by decide]; omega
  · rw [show (Int32.ofNat 8 - 1).toInt = 7 from by decide, show (Int32.ofNat 8).toInt = 8 from by decide]; omega
theorem l0 : (0 : Int64) = (0 : Int32).toInt64 := by decide
theorem l7 : (7 : Int64) = (7 : Int32).toInt64 := by decide
theorem l6 : (6 : Int64) = (6 : Int32).toInt64 := by decide
theorem m_isMan {p : Int32} (hm : i 91 3 = Int32.ofNat m) (h8 : m ≤ 8) : kCA sc (d + 2) 164 [.ref 91, .int p] y nx hd L st ((120, cu, su), i, l, kR f t sp) K = kWP sc (d + 2) y nx L (.int (kb (pHas (Int32.ofNat m) p)) :: st) ((120, cu, su), i, l, kR f t sp) K := by
  refine kCA_of (d := d + 1) (v := some (.int (kb (pHas (Int32.ofNat m) p)))) (S2 := ((120, cu, su), i, l, kR f t sp)) (fun K => ?_)
  rw [km_164]
  show kWP sc (d + 1) 164 0 [.ref 91, .int p] [] ((120, cu, su), i, l, kR f t sp) K = K (some (some (.int (kb (pHas (Int32.ofNat m) p))))) ((120, cu, su), i, l, kR f t sp)
  simp only [e_X11_isMan_0, e_X11_isMan_1, e_X11_isMan_2, e_X11_isMan_3, e_X11_isMan_4, e_X11_isMan_7, e_X11_isMan_8, e_X11_isMan_9, e_X11_isMan_10, e_X11_isMan_13, ob_91, kcl_i, kcl_r, kcl_l, kcl_0, kcl_n, true_and, and_true, hm, l0, m_in, kb_ok]
  rw [m_inI, show kb (¬ p < 0 ∧ ¬ Int32.ofNat m - 1 < p) = kb (pHas (Int32.ofNat m) p) from kb_c (by rw [pHas_iff, lt_pred h8])]
theorem seven_lt {p : Int32} : (7 : Int32) < p ↔ (8 : Int32) ≤ p := by
  rw [Int32.lt_iff_toInt_lt, Int32.le_iff_toInt_le, show (7 : Int32).toInt = 7 from by decide, show (8 : Int32).toInt = 8 from by decide]; omega
theorem six_lt {p : Int32} : (6 : Int32) < p ↔ (7 : Int32) ≤ p := by
  rw [Int32.lt_iff_toInt_lt, Int32.le_iff_toInt_le, show (6 : Int32).toInt = 6 from by decide, show (7 : Int32).toInt = 7 from by decide]; omega
theorem m_isThing {p : Int32} : kCA sc (d + 2) 165 [.int p] y nx hd L st ((120, cu, su), i, l, kR f t sp) K = kWP sc (d + 2) y nx L (.int (kb (¬ p < 0 ∧ ¬ 8 ≤ p)) :: st) ((120, cu, su), i, l, kR f t sp) K := by
  refine kCA_of (d := d + 1) (v := some (.int (kb (¬ p < 0 ∧ ¬ 8 ≤ p)))) (S2 := ((120, cu, su), i, l, kR f t sp)) (fun K => ?_)
  rw [km_165]
  show kWP sc (d + 1) 165 0 [.int p] [] ((120, cu, su), i, l, kR f t sp) K = K (some (some (.int (kb (¬ p < 0 ∧ ¬ 8 ≤ p))))) ((120, cu, su), i, l, kR f t sp)
  simp only [e_X11_isThing_0, e_X11_isThing_1, e_X11_isThing_2, e_X11_isThing_3, e_X11_isThing_6, e_X11_isThing_9, kcl_i, kcl_r, kcl_l, kcl_0, kcl_n, true_and, and_true, l0, l7, m_in, kb_ok]
  rw [m_inI, show kb (¬ p < 0 ∧ ¬ 7 < p) = kb (¬ p < 0 ∧ ¬ 8 ≤ p) from kb_c (by rw [seven_lt])]
def pAble (le : Nat → Int32) (br wa : Int32) : Int32 := kfo (fun x c => c ||| (if (wa >>> (Int32.ofNat x &&& 31)) &&& 1 = 1 ∧ ¬ br < le x then 1 <<< (Int32.ofNat x &&& 31) else 0)) 8 0
theorem m_able {a : Nat} (ha : a < 8) : kCA sc (d + 2) 166 [.ref 91, .int (Int32.ofNat a)] y nx hd L st ((120, cu, su), i, l, kR f t sp) K = kWP sc (d + 2) y nx L (.int (pAble (i 93) (i 94 a) (i 95 a)) :: st) ((120, cu, su), i, l, kR f t sp) K := by
  refine kCA_of (d := d + 1) (v := some (.int (pAble (i 93) (i 94 a) (i 95 a)))) (S2 := ((120, cu, su), i, l, kR f t sp)) (fun K => ?_)
  rw [km_166]
  show kWP sc (d + 1) 166 0 [.ref 91, .int (Int32.ofNat a), .retAddr 0, .retAddr 0] [] ((120, cu, su), i, l, kR f t sp) K = K (some (some (.int (pAble (i 93) (i 94 a) (i 95 a))))) ((120, cu, su), i, l, kR f t sp)
  have c2 : kin (Int32.ofNat a) 8 = True := by rw [tn_kin (by omega)]; exact eq_true ha
  simp only [e_X11_able_0, e_X11_able_1, e_X11_able_2, e_X11_able_3, e_X11_able_5, e_X11_able_7, e_X11_able_10, e_X11_able_11, e_X11_able_12, e_X11_able_15, e_X11_able_16, e_X11_able_17, e_X11_able_18, e_X11_able_21, e_X11_able_24, e_X11_able_25, e_X11_able_28, e_X11_able_29, e_X11_able_30, e_X11_able_31, e_X11_able_34, e_X11_able_35, e_X11_able_36, e_X11_able_39, e_X11_able_40, e_X11_able_41, e_X11_able_42, e_X11_able_45, e_X11_able_46, e_X11_able_47, e_X11_able_48, e_X11_able_51, e_X11_able_54, e_X11_able_55, ob_91, rk_91_7, ar_95, rk_91_5, ar_93, rk_91_6, ar_94, kcl_i, kcl_r, kcl_l, kcl_0, kcl_n, true_and, and_true]
  refine (k_for (P := fun x b => kWP sc (d + 1) 166 4 [.ref 91, .int (Int32.ofNat a), .int b, .int (Int32.ofNat x)] [] ((120, cu, su), i, l, kR f t sp) K) (n := 8) (g := fun x c => c ||| (if (i 95 a >>> (Int32.ofNat x &&& 31)) &&& 1 = 1 ∧ ¬ i 94 a < i 93 x then 1 <<< (Int32.ofNat x &&& 31) else 0)) ?_ 0).trans ?_
  · intro x b hx
    have d1 : ((8 : Int32) ≤ Int32.ofNat x) = False := by rw [show (8 : Int32) = Int32.ofNat 8 from rfl, tn_le (by omega) (by omega)]; exact eq_false (by omega)
    have d2 : kin (Int32.ofNat x) 8 = True := by rw [tn_kin (by omega)]; exact eq_true (by omega)
    refine e_X11_able_4.trans ?_
    simp only [e_X11_able_0, e_X11_able_1, e_X11_able_2, e_X11_able_3, e_X11_able_5, e_X11_able_7, e_X11_able_10, e_X11_able_11, e_X11_able_12, e_X11_able_15, e_X11_able_16, e_X11_able_17, e_X11_able_18, e_X11_able_21, e_X11_able_24, e_X11_able_25, e_X11_able_28, e_X11_able_29, e_X11_able_30, e_X11_able_31, e_X11_able_34, e_X11_able_35, e_X11_able_36, e_X11_able_39, e_X11_able_40, e_X11_able_41, e_X11_able_42, e_X11_able_45, e_X11_able_46, e_X11_able_47, e_X11_able_48, e_X11_able_51, e_X11_able_54, e_X11_able_55, ob_91, rk_91_7, ar_95, rk_91_5, ar_93, rk_91_6, ar_94, kcl_i, kcl_r, kcl_l, kcl_0, kcl_n, true_and, and_true, d1, d2, c2, if_false, tn_cl (show a < 2147483648 by omega), tn_cl (show x < 2147483648 by omega), m_has, kb_0, tn_s]
    by_cases q1 : (i 95 a >>> (Int32.ofNat x &&& 31)) &&& 1 = 1
    · by_cases q2 : i 94 a < i 93 x
      · simp only [q1, q2, not_true_eq_false, if_true, if_false, and_false]
      · simp only [q1, q2, not_true_eq_false, if_true, if_false, not_false_eq_true, and_self]
    · simp only [q1, not_false_eq_true, if_true, if_false, false_and]
  · refine e_X11_able_4.trans ?_
    simp only [e_X11_able_0, e_X11_able_1, e_X11_able_2, e_X11_able_3, e_X11_able_5, e_X11_able_7, e_X11_able_10, e_X11_able_11, e_X11_able_12, e_X11_able_15, e_X11_able_16, e_X11_able_17, e_X11_able_18, e_X11_able_21, e_X11_able_24, e_X11_able_25, e_X11_able_28, e_X11_able_29, e_X11_able_30, e_X11_able_31, e_X11_able_34, e_X11_able_35, e_X11_able_36, e_X11_able_39, e_X11_able_40, e_X11_able_41, e_X11_able_42, e_X11_able_45, e_X11_able_46, e_X11_able_47, e_X11_able_48, e_X11_able_51, e_X11_able_54, e_X11_able_55, ob_91, rk_91_7, ar_95, rk_91_5, ar_93, rk_91_6, ar_94, kcl_i, kcl_r, kcl_l, kcl_0, kcl_n, true_and, and_true, show ((8 : Int32) ≤ Int32.ofNat 8) = True from eq_true (by decide), if_true]
    rfl
/-- what the reference's talk changes: a row at cell b, fields 25 to 28, its stack and what is asked -/
def mPut (i : Nat → Nat → Int32) (b : Nat) (M Z S1 Q : Nat → Int32) : Nat → Nat → Int32 := fun x j => if x = b ∧ j < 25 then M j else if x = 91 ∧ 25 ≤ j ∧ j < 29 then Z j else if x = 102 ∧ j < 80 then S1 j else if x = 103 ∧ j < 7 then Q j else i x j
def mRow (b : Nat) : Bool := [96, 97].contains b
theorem mRow_of (h : mRow b = true) : b = 96 ∨ b = 97 := by simpa [mRow] using h
theorem ar_b (h : mRow b = true) {j : Int32} : kar (120, cu, su) b 0 j = kin j 25 := by
  rcases mRow_of h with rfl | rfl
  · exact ar_96
  · exact ar_97
theorem mP_r {x : Nat} (h : x < 25) : mPut i b M Z S1 Q b x = M x := by simp [mPut, h]
theorem mP_z (hb : mRow b = true) {j : Nat} (h1 : 25 ≤ j) (h2 : j < 29) : mPut i b M Z S1 Q 91 j = Z j := by
  rcases mRow_of hb with rfl | rfl <;> simp [mPut, h1, h2]
theorem mP_f (hb : mRow b = true) {j : Nat} (h1 : j < 25 ∨ 29 ≤ j) : mPut i b M Z S1 Q 91 j = i 91 j := by
  have : ¬ (25 ≤ j ∧ j < 29) := by omega
  rcases mRow_of hb with rfl | rfl <;> simp [mPut, this]
theorem mP_s (hb : mRow b = true) {j : Nat} (h1 : j < 80) : mPut i b M Z S1 Q 102 j = S1 j := by
  rcases mRow_of hb with rfl | rfl <;> simp [mPut, h1]
theorem mP_q (hb : mRow b = true) {j : Nat} (h1 : j < 7) : mPut i b M Z S1 Q 103 j = Q j := by
  rcases mRow_of hb with rfl | rfl <;> simp [mPut, h1]
theorem mP_o {x : Nat} (h0 : x ≠ b) (h1 : x ≠ 91) (h2 : x ≠ 102) (h3 : x ≠ 103) : mPut i b M Z S1 Q x = i x := by
  funext j; simp [mPut, h0, h1, h2, h3]
theorem mP_lo (hb : mRow b = true) {x : Nat} (h : x < 91) : mPut i b M Z S1 Q x = i x := by
  rcases mRow_of hb with rfl | rfl <;> exact mP_o (by omega) (by omega) (by omega) (by omega)
theorem mP_l (hb : mRow b = true) {x : Nat} (h0 : 91 < x) (h : x < 96) : mPut i b M Z S1 Q x = i x := by
  rcases mRow_of hb with rfl | rfl <;> exact mP_o (by omega) (by omega) (by omega) (by omega)
theorem mP_c (hb : mRow b = true) {x : Nat} (h0 : 97 < x) (h : x < 102) : mPut i b M Z S1 Q x = i x := by
  rcases mRow_of hb with rfl | rfl <;> exact mP_o (by omega) (by omega) (by omega) (by omega)
theorem mP_h (hb : mRow b = true) {x : Nat} (h0 : 103 < x) : mPut i b M Z S1 Q x = i x := by
  rcases mRow_of hb with rfl | rfl <;> exact mP_o (by omega) (by omega) (by omega) (by omega)
theorem mP_g : mPut i b (i b) (i 91) (i 102) (i 103) = i := by
  funext x j
  unfold mPut
  by_cases h1 : x = b ∧ j < 25
  · rw [if_pos h1, h1.1]
  · rw [if_neg h1]
    by_cases h2 : x = 91 ∧ 25 ≤ j ∧ j < 29
    · rw [if_pos h2, h2.1]
    · rw [if_neg h2]
      by_cases h3 : x = 102 ∧ j < 80
      · rw [if_pos h3, h3.1]
      · rw [if_neg h3]
        by_cases h4 : x = 103 ∧ j < 7
        · rw [if_pos h4, h4.1]
        · rw [if_neg h4]
theorem mW_r {x : Nat} {v : Int32} (h : x < 25) : kupi (mPut i b M Z S1 Q) b x v = mPut i b (kuf M x v) Z S1 Q := by
  funext z j
  unfold kupi mPut kuf
  by_cases h1 : z = b
  · subst h1
    by_cases hj : j = x
    · subst hj; simp [h]
    · simp [hj]
  · simp [h1]
theorem mW_z (hb : mRow b = true) {x : Nat} {v : Int32} (h1 : 25 ≤ x) (h2 : x < 29) : kupi (mPut i b M Z S1 Q) 91 x v = mPut i b M (kuf Z x v) S1 Q := by
  funext z j
  unfold kupi mPut kuf
  by_cases hz : z = 91
  · subst hz
    have e : ¬ 91 = b := by rcases mRow_of hb with rfl | rfl <;> decide
    by_cases hj : j = x
    · subst hj; simp [h1, h2, e]
    · simp [hj, e]
  · simp [hz]
theorem mW_s (hb : mRow b = true) {x : Nat} {v : Int32} (h : x < 80) : kupi (mPut i b M Z S1 Q) 102 x v = mPut i b M Z (kuf S1 x v) Q := by
  funext z j
  unfold kupi mPut kuf
  by_cases hz : z = 102
  · subst hz
    have e : ¬ 102 = b := by rcases mRow_of hb with rfl | rfl <;> decide
    by_cases hj : j = x
    · subst hj; simp [h, e]
    · simp [hj, e]
  · simp [hz]
theorem mW_q (hb : mRow b = true) {x : Nat} {v : Int32} (h : x < 7) : kupi (mPut i b M Z S1 Q) 103 x v = mPut i b M Z S1 (kuf Q x v) := by
  funext z j
  unfold kupi mPut kuf
  by_cases hz : z = 103
  · subst hz
    have e : ¬ 103 = b := by rcases mRow_of hb with rfl | rfl <;> decide
    by_cases hj : j = x
    · subst hj; simp [h, e]
    · simp [hj, e]
  · simp [hz]
end TC
