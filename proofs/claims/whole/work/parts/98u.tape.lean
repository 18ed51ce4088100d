/-! the reference's reading of THE TEXT -/
section TC
variable {sc : Nat × (Nat → Int32)} {d y nx : Nat} {hd : List (Int × Nat)} {L st : List Value} {S : kS} {cu su : Nat} {i : Nat → Nat → Int32} {l : Nat → Nat → Int64} {f t c b m : Nat} {sp : Nat → Nat} {K : Option (Option Value) → kS → Prop}
variable {N M Z S1 Q A : Nat → Int32} {i1 i2 i3 : Nat → Nat → Int32} {l2 : Nat → Nat → Int64} {n n2 k x a o g : Nat} {v r p q : Int32} {zs zs2 : List Int64}
/-- at, to, nest -/
def tS (i : Nat → Nat → Int32) (a o g : Nat) : Nat → Nat → Int32 := fun c j => if c = 91 ∧ j = 12 then Int32.ofNat a else if c = 91 ∧ j = 13 then Int32.ofNat o else if c = 91 ∧ j = 14 then Int32.ofNat g else i c j
theorem tS_12 : tS i a o g 91 12 = Int32.ofNat a := rfl
theorem tS_13 : tS i a o g 91 13 = Int32.ofNat o := rfl
theorem tS_14 : tS i a o g 91 14 = Int32.ofNat g := rfl
theorem tS_o {c : Nat} (h : c ≠ 91) : tS i a o g c = i c := by funext j; simp [tS, h]
theorem tS_f {j : Nat} (h1 : j ≠ 12) (h2 : j ≠ 13) (h3 : j ≠ 14) : tS i a o g 91 j = i 91 j := by simp [tS, h1, h2, h3]
theorem tW_12 {b : Nat} : kupi (tS i a o g) 91 12 (Int32.ofNat b) = tS i b o g := by
  funext c j; unfold kupi tS
  by_cases q : c = 91 ∧ j = 12
  · rw [if_pos q, if_pos q]
  · rw [if_neg q, if_neg q, if_neg q]
theorem tW_13 {b : Nat} : kupi (tS i a o g) 91 13 (Int32.ofNat b) = tS i a b g := by
  funext c j; unfold kupi tS
  by_cases q : c = 91 ∧ j = 13
  · rw [if_pos q, if_neg (by omega), if_pos q]
  · rw [if_neg q, if_neg q, if_neg q]
theorem tW_14 {b : Nat} : kupi (tS i a o g) 91 14 (Int32.ofNat b) = tS i a o b := by
  funext c j; unfold kupi tS
  by_cases q : c = 91 ∧ j = 14
  · rw [if_pos q, if_neg (by omega), if_neg (by omega), if_pos q]
  · rw [if_neg q, if_neg q, if_neg q]
theorem tS_tS {a2 o2 g2 : Nat} : tS (tS i a o g) a2 o2 g2 = tS i a2 o2 g2 := by
  funext c j; unfold tS
  by_cases q1 : c = 91 ∧ j = 12
  · rw [if_pos q1, if_pos q1]
  · by_cases q2 : c = 91 ∧ j = 13
    · obtain ⟨rfl, rfl⟩ := q2; rfl
    · by_cases q3 : c = 91 ∧ j = 14
      · obtain ⟨rfl, rfl⟩ := q3; rfl
      · simp only [q1, q2, q3, if_false]
theorem tS_98 : tS i a o g 98 = i 98 := tS_o (by decide)
theorem kin80 {a : Nat} (h : a < 80) : kin (Int32.ofNat a) 80 = True := by rw [tn_kin (by omega)]; exact eq_true h
theorem ge_nat {a b : Nat} (ha : a < 100000) (hb : b < 100000) : (Int32.ofNat a ≤ Int32.ofNat b) = (a ≤ b) := tn_le (by omega) (by omega)
theorem m_begins {n k : Nat} (hn : i 91 11 = Int32.ofNat n) (h1 : n < 100000) (h2 : k < 100000) : kCA sc (d + 1) 171 [.ref 91, .int (Int32.ofNat k)] y nx hd L st ((120, cu, su), i, l, kR f t sp) K = kWP sc (d + 1) y nx L (.int (Int32.ofNat n) :: st) ((120, cu, su), tS (kupi i 91 11 0) 0 (min n k) 0, l, kR f t sp) K := by
  refine kCA_of (d := d) (v := some (.int (Int32.ofNat n))) (S2 := ((120, cu, su), tS (kupi i 91 11 0) 0 (min n k) 0, l, kR f t sp)) (fun K => ?_)
  rw [km_171]
  show kWP sc (d) 171 0 [.ref 91, .int (Int32.ofNat k), .retAddr 0] [] ((120, cu, su), i, l, kR f t sp) K = K (some (some (.int (Int32.ofNat n)))) ((120, cu, su), tS (kupi i 91 11 0) 0 (min n k) 0, l, kR f t sp)
  have e : kupi (kupi (kupi (kupi i 91 11 0) 91 12 0) 91 14 0) 91 13 (Int32.ofNat (min n k)) = tS (kupi i 91 11 0) 0 (min n k) 0 := by
    funext c j; unfold kupi tS
    by_cases q1 : c = 91 ∧ j = 12
    · rw [if_neg (by omega), if_neg (by omega), if_pos q1, if_pos q1]; rfl
    · rw [if_neg q1, if_neg q1]
      by_cases q2 : c = 91 ∧ j = 13
      · rw [if_pos q2, if_pos q2]
      · rw [if_neg q2, if_neg q2]
        by_cases q3 : c = 91 ∧ j = 14
        · rw [if_pos q3, if_pos q3]; rfl
        · rw [if_neg q3, if_neg q3]
  simp only [e_X11_begins_0, e_X11_begins_1, e_X11_begins_4, e_X11_begins_5, e_X11_begins_6, e_X11_begins_7, e_X11_begins_10, e_X11_begins_11, e_X11_begins_12, e_X11_begins_15, e_X11_begins_16, e_X11_begins_17, e_X11_begins_20, e_X11_begins_21, e_X11_begins_22, e_X11_begins_23, e_X11_begins_26, e_X11_begins_29, e_X11_begins_30, ob_91, kcl_i, kcl_r, kcl_l, kcl_0, kcl_n, true_and, and_true, hn, min_nat h1 h2, e]
theorem m_takes {a o g : Nat} {p : Int32} (ho : o ≤ 80) (ha : a ≤ o) : kCA sc (d + 2) 172 [.ref 91, .int p] y nx hd L st ((120, cu, su), tS i a o g, l, kR f t sp) K = kWP sc (d + 2) y nx L (.int (kb (a < o ∧ i 98 a = p)) :: st) ((120, cu, su), tS i (if a < o ∧ i 98 a = p then a + 1 else a) o g, l, kR f t sp) K := by
  refine kCA_of (d := d + 1) (v := some (.int (kb (a < o ∧ i 98 a = p)))) (S2 := ((120, cu, su), tS i (if a < o ∧ i 98 a = p then a + 1 else a) o g, l, kR f t sp)) (fun K => ?_)
  rw [km_172]
  show kWP sc (d + 1) 172 0 [.ref 91, .int p, .retAddr 0] [] ((120, cu, su), tS i a o g, l, kR f t sp) K = K (some (some (.int (kb (a < o ∧ i 98 a = p))))) ((120, cu, su), tS i (if a < o ∧ i 98 a = p then a + 1 else a) o g, l, kR f t sp)
  simp only [e_X11_takes_0, e_X11_takes_1, e_X11_takes_4, e_X11_takes_5, e_X11_takes_8, e_X11_takes_11, e_X11_takes_12, e_X11_takes_15, e_X11_takes_16, e_X11_takes_19, e_X11_takes_20, e_X11_takes_21, e_X11_takes_24, e_X11_takes_25, e_X11_takes_28, e_X11_takes_29, e_X11_takes_30, e_X11_takes_31, e_X11_takes_32, e_X11_takes_35, e_X11_takes_36, e_X11_takes_39, e_X11_takes_40, e_X11_takes_43, e_X11_takes_44, ob_91, rk_91_10, ar_98, kcl_i, kcl_r, kcl_l, kcl_0, kcl_n, true_and, and_true, tS_12, tS_13, ge_nat (show o < 100000 by omega) (show a < 100000 by omega), tS_98, m_flag]
  by_cases q1 : a < o
  · have q2 : ¬ o ≤ a := by omega
    by_cases q3 : i 98 a = p
    · simp only [q1, q2, q3, if_true, if_false, kin80 (show a < 80 by omega), cl_n (show a < 100000 by omega), true_and, kb, z10, kbool_1, tn_s, tW_12]
    · simp only [q1, q2, q3, if_true, if_false, kin80 (show a < 80 by omega), cl_n (show a < 100000 by omega), true_and, and_false, kb, kbool_0, Int32.add_zero, tW_12]
  · have q2 : o ≤ a := by omega
    simp only [q1, q2, if_true, if_false, false_and, kb, kbool_0, Int32.add_zero, tW_12, true_and]
def isDg (v : Int32) : Bool := !decide (v < 48) && !decide (57 < v)
theorem isDg_iff {v : Int32} : isDg v = true ↔ ¬ v < 48 ∧ ¬ 57 < v := by simp [isDg]
theorem l48 : (48 : Int64) = (48 : Int32).toInt64 := by decide
theorem l57 : (57 : Int64) = (57 : Int32).toInt64 := by decide
theorem m_isDigit {a o g : Nat} (ho : o ≤ 80) (ha : a ≤ o) : kCA sc (d + 2) 173 [.ref 91] y nx hd L st ((120, cu, su), tS i a o g, l, kR f t sp) K = kWP sc (d + 2) y nx L (.int (kb (a < o ∧ isDg (i 98 a) = true)) :: st) ((120, cu, su), tS i a o g, l, kR f t sp) K := by
  refine kCA_of (d := d + 1) (v := some (.int (kb (a < o ∧ isDg (i 98 a) = true)))) (S2 := ((120, cu, su), tS i a o g, l, kR f t sp)) (fun K => ?_)
  rw [km_173]
  show kWP sc (d + 1) 173 0 [.ref 91] [] ((120, cu, su), tS i a o g, l, kR f t sp) K = K (some (some (.int (kb (a < o ∧ isDg (i 98 a) = true))))) ((120, cu, su), tS i a o g, l, kR f t sp)
  simp only [e_X11_isDigit_0, e_X11_isDigit_1, e_X11_isDigit_4, e_X11_isDigit_5, e_X11_isDigit_8, e_X11_isDigit_11, e_X11_isDigit_12, e_X11_isDigit_15, e_X11_isDigit_16, e_X11_isDigit_19, e_X11_isDigit_20, e_X11_isDigit_21, e_X11_isDigit_24, e_X11_isDigit_27, e_X11_isDigit_30, e_X11_isDigit_33, e_X11_isDigit_34, e_X11_isDigit_37, e_X11_isDigit_38, ob_91, rk_91_10, ar_98, kcl_i, kcl_r, kcl_l, kcl_0, kcl_n, true_and, and_true, tS_12, tS_13, ge_nat (show o < 100000 by omega) (show a < 100000 by omega), tS_98, l48, l57, m_in, m_inI, kb_0, kbool_0, kbool_1, isDg_iff]
  by_cases q1 : a < o
  · have q2 : ¬ o ≤ a := by omega
    by_cases q3 : ¬ i 98 a < 48 ∧ ¬ 57 < i 98 a
    · simp only [q1, q2, q3, if_true, if_false, kin80 (show a < 80 by omega), cl_n (show a < 100000 by omega), true_and, not_true_eq_false, not_false_eq_true, and_self, kb]
    · simp only [q1, q2, q3, if_true, if_false, kin80 (show a < 80 by omega), cl_n (show a < 100000 by omega), true_and, not_false_eq_true, and_false, kb]
  · have q2 : o ≤ a := by omega
    simp only [q1, q2, if_true, if_false, false_and, kb]
def pAm (C : Nat → Int32) (n : Nat) (c : Int32) : Int32 := match kfi (fun k => C k = c) n 0 with | some y => Int32.ofNat y | none => -1
theorem pAm_ok {C : Nat → Int32} {c : Int32} : pAm C n c = -1 ∨ ∃ k, k < n ∧ pAm C n c = Int32.ofNat k ∧ C k = c := by
  unfold pAm
  cases e : kfi (fun k => C k = c) n 0 with
  | none => exact Or.inl rfl
  | some y => have := kfi_some e; exact Or.inr ⟨y, by omega, rfl, this.2.2⟩
theorem m_among {a o g n : Nat} (ho : o ≤ 80) (ha : a ≤ o) (hc : kStA ≤ c ∧ c < kStA + kStr.length) (hn : kstl c = n) (h100 : n < 100000) : kCA sc (d + 1) 174 [.ref 91, .ref c] y nx hd L st ((120, cu, su), tS i a o g, l, kR f t sp) K = kWP sc (d + 1) y nx L (.int (if a < o then pAm (kchr c) n (i 98 a) else -1) :: st) ((120, cu, su), tS i a o g, l, kR f t sp) K := by
  refine kCA_of (d := d) (v := some (.int (if a < o then pAm (kchr c) n (i 98 a) else -1))) (S2 := ((120, cu, su), tS i a o g, l, kR f t sp)) (fun K => ?_)
  rw [km_174]
  show kWP sc (d) 174 0 [.ref 91, .ref c, .retAddr 0] [] ((120, cu, su), tS i a o g, l, kR f t sp) K = K (some (some (.int (if a < o then pAm (kchr c) n (i 98 a) else -1)))) ((120, cu, su), tS i a o g, l, kR f t sp)
  simp only [e_X11_among_0, e_X11_among_1, e_X11_among_3, e_X11_among_7, e_X11_among_10, e_X11_among_11, e_X11_among_14, e_X11_among_15, e_X11_among_18, e_X11_among_21, e_X11_among_22, e_X11_among_23, e_X11_among_26, e_X11_among_27, e_X11_among_30, e_X11_among_31, e_X11_among_34, e_X11_among_35, e_X11_among_38, e_X11_among_39, e_X11_among_40, e_X11_among_43, e_X11_among_46, e_X11_among_47, ob_91, rk_91_10, ar_98, kcl_i, kcl_r, kcl_l, kcl_0, kcl_n, true_and, and_true]
  by_cases q1 : a < o
  · have q2 : ¬ o ≤ a := by omega
    rw [if_pos q1]
    refine (k_find (P := fun x => kWP sc d 174 2 [.ref 91, .ref c, .int (Int32.ofNat x)] [] ((120, cu, su), tS i a o g, l, kR f t sp) K) (Q := fun y => K (some (some (.int (Int32.ofNat y)))) ((120, cu, su), tS i a o g, l, kR f t sp)) (p := fun x => kchr c x = i 98 a) (n := n) ?_).trans ?_
    · intro x hx
      have kx : kin (Int32.ofNat x) (kstl c) = True := by rw [tn_kin (by omega), hn]; exact eq_true hx
      refine e_X11_among_2.trans ?_
      simp only [e_X11_among_0, e_X11_among_1, e_X11_among_3, e_X11_among_7, e_X11_among_10, e_X11_among_11, e_X11_among_14, e_X11_among_15, e_X11_among_18, e_X11_among_21, e_X11_among_22, e_X11_among_23, e_X11_among_26, e_X11_among_27, e_X11_among_30, e_X11_among_31, e_X11_among_34, e_X11_among_35, e_X11_among_38, e_X11_among_39, e_X11_among_40, e_X11_among_43, e_X11_among_46, e_X11_among_47, ob_91, rk_91_10, ar_98, kcl_i, kcl_r, kcl_l, kcl_0, kcl_n, true_and, and_true, e_X11_among_4 hc hn, jpF hx h100, if_false, tS_12, tS_13, ge_nat (show o < 100000 by omega) (show a < 100000 by omega), q2, kx, tS_98, kin80 (show a < 80 by omega), cl_n (show a < 100000 by omega), cl_n (show x < 100000 by omega), tn_s]
    · unfold pAm
      cases kfi (fun x => kchr c x = i 98 a) n 0 with
      | some y => rfl
      | none =>
        refine e_X11_among_2.trans ?_
        simp only [e_X11_among_0, e_X11_among_1, e_X11_among_3, e_X11_among_7, e_X11_among_10, e_X11_among_11, e_X11_among_14, e_X11_among_15, e_X11_among_18, e_X11_among_21, e_X11_among_22, e_X11_among_23, e_X11_among_26, e_X11_among_27, e_X11_among_30, e_X11_among_31, e_X11_among_34, e_X11_among_35, e_X11_among_38, e_X11_among_39, e_X11_among_40, e_X11_among_43, e_X11_among_46, e_X11_among_47, ob_91, rk_91_10, ar_98, kcl_i, kcl_r, kcl_l, kcl_0, kcl_n, true_and, and_true, e_X11_among_4 hc hn, Int32.le_refl, if_true]
  · have q2 : o ≤ a := by omega
    rw [if_neg q1]
    refine (e_X11_among_2 (p := 0)).trans ?_
    simp only [e_X11_among_0, e_X11_among_1, e_X11_among_3, e_X11_among_7, e_X11_among_10, e_X11_among_11, e_X11_among_14, e_X11_among_15, e_X11_among_18, e_X11_among_21, e_X11_among_22, e_X11_among_23, e_X11_among_26, e_X11_among_27, e_X11_among_30, e_X11_among_31, e_X11_among_34, e_X11_among_35, e_X11_among_38, e_X11_among_39, e_X11_among_40, e_X11_among_43, e_X11_among_46, e_X11_among_47, ob_91, rk_91_10, ar_98, kcl_i, kcl_r, kcl_l, kcl_0, kcl_n, true_and, and_true, e_X11_among_4 hc hn, tS_12, tS_13, ge_nat (show o < 100000 by omega) (show a < 100000 by omega), q2, if_true, ite_self]
theorem m_takesOf {a o g n : Nat} (ho : o ≤ 80) (ha : a ≤ o) (hc : kStA ≤ c ∧ c < kStA + kStr.length) (hn : kstl c = n) (h100 : n < 100000) : kCA sc (d + 2) 175 [.ref 91, .ref c] y nx hd L st ((120, cu, su), tS i a o g, l, kR f t sp) K = kWP sc (d + 2) y nx L (.int (if a < o then pAm (kchr c) n (i 98 a) else -1) :: st) ((120, cu, su), tS i (if a < o ∧ ¬ pAm (kchr c) n (i 98 a) = -1 then a + 1 else a) o g, l, kR f t sp) K := by
  refine kCA_of (d := d + 1) (v := some (.int (if a < o then pAm (kchr c) n (i 98 a) else -1))) (S2 := ((120, cu, su), tS i (if a < o ∧ ¬ pAm (kchr c) n (i 98 a) = -1 then a + 1 else a) o g, l, kR f t sp)) (fun K => ?_)
  rw [km_175]
  show kWP sc (d + 1) 175 0 [.ref 91, .ref c, .retAddr 0] [] ((120, cu, su), tS i a o g, l, kR f t sp) K = K (some (some (.int (if a < o then pAm (kchr c) n (i 98 a) else -1)))) ((120, cu, su), tS i (if a < o ∧ ¬ pAm (kchr c) n (i 98 a) = -1 then a + 1 else a) o g, l, kR f t sp)
  simp only [e_X11_takesOf_0, e_X11_takesOf_1, e_X11_takesOf_2, e_X11_takesOf_5, e_X11_takesOf_6, e_X11_takesOf_7, e_X11_takesOf_8, e_X11_takesOf_11, e_X11_takesOf_12, e_X11_takesOf_15, e_X11_takesOf_16, e_X11_takesOf_19, e_X11_takesOf_20, e_X11_takesOf_23, e_X11_takesOf_24, e_X11_takesOf_27, e_X11_takesOf_28, ob_91, kcl_i, kcl_r, kcl_l, kcl_0, kcl_n, true_and, and_true, m_among ho ha hc hn h100, tS_12, m_flag]
  by_cases q1 : a < o
  · rcases @pAm_ok n (kchr c) (i 98 a) with e | ⟨k, hk, e, _⟩
    · simp only [q1, e, if_true, not_true_eq_false, and_false, if_false, show ((-1 : Int32) < 0) = True from eq_true (by decide), Int32.add_zero, tW_12]
    · have e2 : ¬ Int32.ofNat k = -1 := m1_ne (by omega)
      simp only [q1, e, e2, if_true, not_false_eq_true, and_self, tn_lt0 (show k < 2147483648 by omega), if_false, z10, tn_s, tW_12]
  · simp only [q1, if_false, false_and, show ((-1 : Int32) < 0) = True from eq_true (by decide), if_true, Int32.add_zero, tW_12]
theorem kb_if {e : Prop} [Decidable e] {a b : Int32} : (if e then kb True else b) = if e then 1 else b := rfl
def pFault (n k a o : Nat) (is : Int32) : Int32 := if k < n ∧ ((¬ is = 0 ∧ a = o) ∨ k ≤ a) then -1 - Int32.ofNat k else if ¬ is = 0 ∧ a = o then 0 else -1 - Int32.ofNat a
theorem m_faultOf {a o g n k : Nat} {v : Int32} (ho : o < 100000) (ha : a < 100000) (hn : n < 100000) (hk : k < 100000) : kCA sc (d + 1) 178 [.ref 91, .int (Int32.ofNat n), .int (Int32.ofNat k), .int v] y nx hd L st ((120, cu, su), tS i a o g, l, kR f t sp) K = kWP sc (d + 1) y nx L (.int (pFault n k a o v) :: st) ((120, cu, su), tS i a o g, l, kR f t sp) K := by
  refine kCA_of (d := d) (v := some (.int (pFault n k a o v))) (S2 := ((120, cu, su), tS i a o g, l, kR f t sp)) (fun K => ?_)
  rw [km_178]
  show kWP sc (d) 178 0 [.ref 91, .int (Int32.ofNat n), .int (Int32.ofNat k), .int v, .retAddr 0] [] ((120, cu, su), tS i a o g, l, kR f t sp) K = K (some (some (.int (pFault n k a o v)))) ((120, cu, su), tS i a o g, l, kR f t sp)
  simp only [e_X11_faultOf_0, e_X11_faultOf_1, e_X11_faultOf_4, e_X11_faultOf_5, e_X11_faultOf_8, e_X11_faultOf_9, e_X11_faultOf_12, e_X11_faultOf_15, e_X11_faultOf_16, e_X11_faultOf_19, e_X11_faultOf_20, e_X11_faultOf_22, e_X11_faultOf_23, e_X11_faultOf_24, e_X11_faultOf_27, e_X11_faultOf_29, e_X11_faultOf_32, e_X11_faultOf_33, e_X11_faultOf_36, e_X11_faultOf_37, e_X11_faultOf_40, e_X11_faultOf_41, e_X11_faultOf_42, e_X11_faultOf_43, e_X11_faultOf_44, e_X11_faultOf_46, e_X11_faultOf_49, e_X11_faultOf_50, e_X11_faultOf_53, e_X11_faultOf_54, e_X11_faultOf_55, e_X11_faultOf_58, e_X11_faultOf_59, ob_91, kcl_i, kcl_r, kcl_l, kcl_0, kcl_n, true_and, and_true, tS_12, tS_13, ge_nat hn hk, tn_lt (show a < 2147483648 by omega) (show k < 2147483648 by omega), tn_eq (show a < 2147483648 by omega) (show o < 2147483648 by omega)]
  unfold pFault
  by_cases q1 : v = 0
  · by_cases q2 : n ≤ k
    · have q3 : ¬ k < n := by omega
      simp only [q1, q2, q3, if_true, if_false, not_true_eq_false, false_and]
    · have q3 : k < n := by omega
      by_cases q4 : a < k
      · have q5 : ¬ k ≤ a := by omega
        simp only [q1, q2, q3, q4, q5, if_true, if_false, not_true_eq_false, false_and, or_self, and_false]
      · have q5 : k ≤ a := by omega
        simp only [q1, q2, q3, q4, q5, if_true, if_false, or_true, and_self]
  · by_cases q6 : a = o
    · by_cases q2 : n ≤ k
      · have q3 : ¬ k < n := by omega
        simp only [q1, q2, q3, q6, if_true, if_false, not_false_eq_true, false_and, and_self, z10]
      · have q3 : k < n := by omega
        simp only [q1, q2, q3, q6, if_true, if_false, not_false_eq_true, and_self, z10, true_or]
    · by_cases q2 : n ≤ k
      · have q3 : ¬ k < n := by omega
        simp only [q1, q2, q3, q6, if_true, if_false, and_false, false_and]
      · have q3 : k < n := by omega
        by_cases q4 : a < k
        · have q5 : ¬ k ≤ a := by omega
          simp only [q1, q2, q3, q4, q5, q6, if_true, if_false, and_false, or_self]
        · have q5 : k ≤ a := by omega
          simp only [q1, q2, q3, q4, q5, q6, if_true, if_false, or_true, and_self]
/-- a digit between two -/
def dgIn (v lo hi : Int32) : Bool := !decide (v - 48 < lo) && !decide (hi < v - 48)
theorem dgIn_iff {v lo hi : Int32} : dgIn v lo hi = true ↔ ¬ v - 48 < lo ∧ ¬ hi < v - 48 := by simp [dgIn]
theorem m_digitIn {a o g : Nat} {p q : Int32} (ho : o ≤ 80) (ha : a ≤ o) : kCA sc (d + 2) 177 [.ref 91, .int p, .int q] y nx hd L st ((120, cu, su), tS i a o g, l, kR f t sp) K = kWP sc (d + 2) y nx L (.int (if a < o ∧ dgIn (i 98 a) p q = true then i 98 a - 48 else -1) :: st) ((120, cu, su), tS i (if a < o ∧ dgIn (i 98 a) p q = true then a + 1 else a) o g, l, kR f t sp) K := by
  refine kCA_of (d := d + 1) (v := some (.int (if a < o ∧ dgIn (i 98 a) p q = true then i 98 a - 48 else -1))) (S2 := ((120, cu, su), tS i (if a < o ∧ dgIn (i 98 a) p q = true then a + 1 else a) o g, l, kR f t sp)) (fun K => ?_)
  rw [km_177]
  show kWP sc (d + 1) 177 0 [.ref 91, .int p, .int q] [] ((120, cu, su), tS i a o g, l, kR f t sp) K = K (some (some (.int (if a < o ∧ dgIn (i 98 a) p q = true then i 98 a - 48 else -1)))) ((120, cu, su), tS i (if a < o ∧ dgIn (i 98 a) p q = true then a + 1 else a) o g, l, kR f t sp)
  simp only [e_X11_digitIn_0, e_X11_digitIn_1, e_X11_digitIn_4, e_X11_digitIn_5, e_X11_digitIn_8, e_X11_digitIn_11, e_X11_digitIn_12, e_X11_digitIn_15, e_X11_digitIn_16, e_X11_digitIn_19, e_X11_digitIn_20, e_X11_digitIn_22, e_X11_digitIn_23, e_X11_digitIn_24, e_X11_digitIn_25, e_X11_digitIn_26, e_X11_digitIn_27, e_X11_digitIn_28, e_X11_digitIn_31, e_X11_digitIn_34, e_X11_digitIn_35, e_X11_digitIn_36, e_X11_digitIn_37, e_X11_digitIn_38, e_X11_digitIn_41, e_X11_digitIn_42, e_X11_digitIn_43, e_X11_digitIn_46, e_X11_digitIn_47, e_X11_digitIn_50, e_X11_digitIn_51, e_X11_digitIn_54, e_X11_digitIn_55, e_X11_digitIn_56, e_X11_digitIn_57, e_X11_digitIn_59, e_X11_digitIn_60, ob_91, rk_91_10, ar_98, kcl_i, kcl_r, kcl_l, kcl_0, kcl_n, true_and, and_true, tS_12, tS_13, ge_nat (show o < 100000 by omega) (show a < 100000 by omega), tS_98, m_in, m_inI, kb_0, dgIn_iff]
  by_cases q1 : a < o
  · have q2 : ¬ o ≤ a := by omega
    by_cases q3 : ¬ i 98 a - 48 < p ∧ ¬ q < i 98 a - 48
    · simp only [q1, q2, q3, if_true, if_false, kin80 (show a < 80 by omega), cl_n (show a < 100000 by omega), true_and, not_true_eq_false, not_false_eq_true, and_self, tn_s, tW_12, tS_12, tS_98, tn_sub (show 0 < a + 1 by omega), show a + 1 - 1 = a by omega]
    · simp only [q1, q2, q3, if_true, if_false, kin80 (show a < 80 by omega), cl_n (show a < 100000 by omega), true_and, not_false_eq_true, and_false]
  · have q2 : o ≤ a := by omega
    simp only [q1, q2, if_true, if_false, false_and]
end TC
