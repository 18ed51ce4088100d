/-! order: the class -/
section TC
variable {sc : Nat × (Nat → Int32)} {d y nx : Nat} {hd : List (Int × Nat)} {L st : List Value} {S : kS} {cu su : Nat} {i : Nat → Nat → Int32} {l : Nat → Nat → Int64} {f t c b m : Nat} {sp : Nat → Nat} {K : Option (Option Value) → kS → Prop}
variable {N M Z S1 Q A B G F Pn le co : Nat → Int32} {i1 i2 i3 j : Nat → Nat → Int32} {l2 : Nat → Nat → Int64} {n n2 k x a o g u w h : Nat} {v r p q : Int32} {zs zs2 : List Int64}
def wo (u w : Nat) : Nat := u &&& (255 ^^^ 2 ^ w)
theorem w_nat : ∀ u, u < 256 → ∀ w, w < 8 → Int32.ofNat u &&& ((1 <<< (Int32.ofNat w &&& 31)) ^^^ (-1)) = Int32.ofNat (wo u w) := by decide +kernel
theorem wo_le {u w : Nat} : wo u w ≤ u := Nat.and_le_left
theorem bit_at {v : Int32} {x : Nat} (hx : x < 32) : (v &&& (1 <<< (Int32.ofNat x &&& 31)) = 0) = (pBit v x = 0) := by
  apply propext
  rw [pBit_0 hx]
  constructor
  · intro e
    have := congrArg (fun z => tb z x) e
    rw [tb_and, tb_one x hx x hx, tb_0] at this
    simpa using this
  · intro e
    apply tb_ext
    intro y hy
    rw [tb_and, tb_one x hx y hy, tb_0]
    by_cases q : y = x
    · subst q; rw [e]; rfl
    · rw [decide_eq_false q, Bool.and_false]
def mn (a b : Int32) : Int32 := if b < a then b else a
/-- the minutes if he talks of it now -/
def cG (le co A : Nat → Int32) (u a w : Nat) : Int32 := if pBit (Int32.ofNat u &&& co a) w = 0 then 1000 else le w + A (wo u w * 9 + a)
def cF (le co A : Nat → Int32) (u a : Nat) : Int32 := kfo (fun w b => mn b (cG le co A u a w)) 8 1000
def pSo (F : Nat → Int32) (m : Nat) (ex : Int32) : Int32 := kfo (fun a r => if Int32.ofNat a = ex then r else if r = -1 then Int32.ofNat a else if F r.toNatClampNeg ≤ F a then r else Int32.ofNat a) m (-1)
def pBe (F : Nat → Int32) (m : Nat) (so : Int32) (h : Nat) : Int32 := if (if Int32.ofNat h = so then pSo F m (Int32.ofNat h) else so) = -1 then 1000 else F (if Int32.ofNat h = so then pSo F m (Int32.ofNat h) else so).toNatClampNeg
def cPl (F : Nat → Int32) (m : Nat) (q : Int32) (u h : Nat) : Int32 := if u = 0 then (if Int32.ofNat h = q then 1000 else 0) else pBe F m (pSo F m (-1)) h
theorem at9 {x u : Nat} : Int32.ofNat x * 9 + Int32.ofNat u = Int32.ofNat (x * 9 + u) := by
  rw [show (9 : Int32) = Int32.ofNat 9 from rfl, mul_nat, ← Int32.ofNat_add]
theorem jp9 {x : Nat} (hx : x < 9) : ((9 : Int32) ≤ Int32.ofNat x) = False := jpF (n := 9) hx (by decide)
theorem jp99 : ((9 : Int32) ≤ Int32.ofNat 9) = True := eq_true (by decide)
theorem kin9 {a : Nat} (h : a < 9) : kin (Int32.ofNat a) 9 = True := by rw [tn_kin (by omega)]; exact eq_true h
theorem e8_f {a : Nat} (h : a < 8) : (Int32.ofNat a = 8) = False := by rw [show (8 : Int32) = Int32.ofNat 8 from rfl, tn_eq (by omega) (by decide)]; exact eq_false (by omega)
theorem c_minutesBy (hu : u < 256) (ha : a < 8) (hw : w < 8) : kCA sc (d + 2) 74 [.ref 77, .int (Int32.ofNat u), .int (Int32.ofNat a), .int (Int32.ofNat w)] y nx hd L st ((120, cu, su), i, l, kR f t sp) K = kWP sc (d + 2) y nx L (.int (cG (i 9) (i 8) (i 78) u a w) :: st) ((120, cu, su), i, l, kR f t sp) K := by
  refine kCA_of (d := d + 1) (v := some (.int (cG (i 9) (i 8) (i 78) u a w))) (S2 := ((120, cu, su), i, l, kR f t sp)) (fun K => ?_)
  rw [km_74]
  show kWP sc (d + 1) 74 0 [.ref 77, .int (Int32.ofNat u), .int (Int32.ofNat a), .int (Int32.ofNat w)] [] _ K = _
  have hwo : wo u w * 9 + a < 2304 := by have := @wo_le u w; omega
  simp only [e_X7_minutesBy_0, e_X7_minutesBy_1, e_X7_minutesBy_3, e_X7_minutesBy_6, e_X7_minutesBy_7, e_X7_minutesBy_8, e_X7_minutesBy_11, e_X7_minutesBy_12, e_X7_minutesBy_13, e_X7_minutesBy_16, e_X7_minutesBy_17, e_X7_minutesBy_18, e_X7_minutesBy_19, e_X7_minutesBy_20, e_X7_minutesBy_21, e_X7_minutesBy_24, e_X7_minutesBy_27, e_X7_minutesBy_28, e_X7_minutesBy_29, e_X7_minutesBy_30, e_X7_minutesBy_31, e_X7_minutesBy_32, e_X7_minutesBy_33, e_X7_minutesBy_34, e_X7_minutesBy_37, e_X7_minutesBy_40, e_X7_minutesBy_41, e_X7_minutesBy_42, e_X7_minutesBy_45, e_X7_minutesBy_48, e_X7_minutesBy_49, e_X7_minutesBy_50, e_X7_minutesBy_51, e_X7_minutesBy_54, e_X7_minutesBy_55, e_X7_minutesBy_56, e_X7_minutesBy_59, e_X7_minutesBy_60, e_X7_minutesBy_63, e_X7_minutesBy_64, e_X7_minutesBy_65, ob_77, rk_77_1, ar_78, rk_77_0, ob_5, rk_5_3, ar_8, rk_5_4, ar_9, kcl_i, kcl_r, kcl_l, kcl_0, kcl_n, true_and, and_true, e8_f hw, not_false_eq_true, if_true, if_false, kin8 ha, kin8 hw, cl_n (show a < 100000 by omega), cl_n (show w < 100000 by omega), c_without, c_place, w_nat u hu w hw, m1_ne (show a < 100000 by omega), at9, kin2304 hwo, cl_n (show wo u w * 9 + a < 100000 by omega), bit_at (show w < 32 by omega), true_and]
  unfold cG
  by_cases c : pBit (Int32.ofNat u &&& i 8 a) w = 0
  · simp only [c, not_true_eq_false, if_true, if_false]
  · simp only [c, not_false_eq_true, if_true, if_false]
theorem c_minutesBy8 (hu : u < 256) (ha : a < 8) : kCA sc (d + 2) 74 [.ref 77, .int (Int32.ofNat u), .int (Int32.ofNat a), .int 8] y nx hd L st ((120, cu, su), i, l, kR f t sp) K = kWP sc (d + 2) y nx L (.int (1 + i 78 (u * 9 + a)) :: st) ((120, cu, su), i, l, kR f t sp) K := by
  refine kCA_of (d := d + 1) (v := some (.int (1 + i 78 (u * 9 + a)))) (S2 := ((120, cu, su), i, l, kR f t sp)) (fun K => ?_)
  rw [km_74]
  show kWP sc (d + 1) 74 0 [.ref 77, .int (Int32.ofNat u), .int (Int32.ofNat a), .int 8] [] _ K = _
  simp only [e_X7_minutesBy_0, e_X7_minutesBy_1, e_X7_minutesBy_3, e_X7_minutesBy_6, e_X7_minutesBy_7, e_X7_minutesBy_8, e_X7_minutesBy_11, e_X7_minutesBy_12, e_X7_minutesBy_13, e_X7_minutesBy_16, e_X7_minutesBy_17, e_X7_minutesBy_18, e_X7_minutesBy_19, e_X7_minutesBy_20, e_X7_minutesBy_21, e_X7_minutesBy_24, e_X7_minutesBy_27, e_X7_minutesBy_28, e_X7_minutesBy_29, e_X7_minutesBy_30, e_X7_minutesBy_31, e_X7_minutesBy_32, e_X7_minutesBy_33, e_X7_minutesBy_34, e_X7_minutesBy_37, e_X7_minutesBy_40, e_X7_minutesBy_41, e_X7_minutesBy_42, e_X7_minutesBy_45, e_X7_minutesBy_48, e_X7_minutesBy_49, e_X7_minutesBy_50, e_X7_minutesBy_51, e_X7_minutesBy_54, e_X7_minutesBy_55, e_X7_minutesBy_56, e_X7_minutesBy_59, e_X7_minutesBy_60, e_X7_minutesBy_63, e_X7_minutesBy_64, e_X7_minutesBy_65, ob_77, rk_77_1, ar_78, rk_77_0, ob_5, rk_5_3, ar_8, rk_5_4, ar_9, kcl_i, kcl_r, kcl_l, kcl_0, kcl_n, true_and, and_true, not_true_eq_false, if_true, if_false, c_place, m1_ne (show a < 100000 by omega), at9, kin2304 (show u * 9 + a < 2304 by omega), cl_n (show u * 9 + a < 100000 by omega), true_and]
theorem c_fewestIfFirst (hu : u < 256) (ha : a < 8) : kCA sc (d + 3) 73 [.ref 77, .int (Int32.ofNat u), .int (Int32.ofNat a)] y nx hd L st ((120, cu, su), i, l, kR f t sp) K = kWP sc (d + 3) y nx L (.int (cF (i 9) (i 8) (i 78) u a) :: st) ((120, cu, su), i, l, kR f t sp) K := by
  refine kCA_of (d := d + 2) (v := some (.int (cF (i 9) (i 8) (i 78) u a))) (S2 := ((120, cu, su), i, l, kR f t sp)) (fun K => ?_)
  rw [km_73]
  show kWP sc (d + 2) 73 0 [.ref 77, .int (Int32.ofNat u), .int (Int32.ofNat a), .retAddr 0, .retAddr 0] [] _ K = _
  simp only [e_X7_fewestIfFirst_0, e_X7_fewestIfFirst_3, e_X7_fewestIfFirst_4, e_X7_fewestIfFirst_5, e_X7_fewestIfFirst_9, e_X7_fewestIfFirst_11, e_X7_fewestIfFirst_14, e_X7_fewestIfFirst_15, e_X7_fewestIfFirst_16, e_X7_fewestIfFirst_17, e_X7_fewestIfFirst_18, e_X7_fewestIfFirst_20, e_X7_fewestIfFirst_23, e_X7_fewestIfFirst_26, e_X7_fewestIfFirst_27, e_X7_fewestIfFirst_30, e_X7_fewestIfFirst_33, e_X7_fewestIfFirst_34, ob_77, kcl_i, kcl_r, kcl_l, kcl_0, kcl_n, true_and, and_true]
  refine (k_for (P := fun w (b : Int32) => kWP sc (d + 2) 73 7 [.ref 77, .int (Int32.ofNat u), .int (Int32.ofNat a), .int b, .int (Int32.ofNat w)] [] ((120, cu, su), i, l, kR f t sp) K) (n := 8) (g := fun w b => mn b (cG (i 9) (i 8) (i 78) u a w)) ?_ 1000).trans ?_
  · intro w b hw
    refine e_X7_fewestIfFirst_7.trans ?_
    simp only [e_X7_fewestIfFirst_0, e_X7_fewestIfFirst_3, e_X7_fewestIfFirst_4, e_X7_fewestIfFirst_5, e_X7_fewestIfFirst_9, e_X7_fewestIfFirst_11, e_X7_fewestIfFirst_14, e_X7_fewestIfFirst_15, e_X7_fewestIfFirst_16, e_X7_fewestIfFirst_17, e_X7_fewestIfFirst_18, e_X7_fewestIfFirst_20, e_X7_fewestIfFirst_23, e_X7_fewestIfFirst_26, e_X7_fewestIfFirst_27, e_X7_fewestIfFirst_30, e_X7_fewestIfFirst_33, e_X7_fewestIfFirst_34, ob_77, kcl_i, kcl_r, kcl_l, kcl_0, kcl_n, true_and, and_true, jp8 hw, if_false, c_minutesBy hu ha hw, tn_s]
    rfl
  · refine e_X7_fewestIfFirst_7.trans ?_
    simp only [e_X7_fewestIfFirst_0, e_X7_fewestIfFirst_3, e_X7_fewestIfFirst_4, e_X7_fewestIfFirst_5, e_X7_fewestIfFirst_9, e_X7_fewestIfFirst_11, e_X7_fewestIfFirst_14, e_X7_fewestIfFirst_15, e_X7_fewestIfFirst_16, e_X7_fewestIfFirst_17, e_X7_fewestIfFirst_18, e_X7_fewestIfFirst_20, e_X7_fewestIfFirst_23, e_X7_fewestIfFirst_26, e_X7_fewestIfFirst_27, e_X7_fewestIfFirst_30, e_X7_fewestIfFirst_33, e_X7_fewestIfFirst_34, ob_77, kcl_i, kcl_r, kcl_l, kcl_0, kcl_n, true_and, and_true, jp88, if_true]
    rfl
theorem pSo_ok {ex : Int32} {k : Nat} : pSo F k ex = -1 ∨ ∃ b, b < k ∧ pSo F k ex = Int32.ofNat b := by
  unfold pSo
  refine kfo_inv (I := fun x r => r = -1 ∨ ∃ b, b < x ∧ r = Int32.ofNat b) (fun x r _ hr => ?_) (Or.inl rfl)
  have hr' : r = -1 ∨ ∃ b, b < x + 1 ∧ r = Int32.ofNat b := by
    rcases hr with e | ⟨b, hb, e⟩
    · exact Or.inl e
    · exact Or.inr ⟨b, by omega, e⟩
  split
  · exact hr'
  · split
    · exact Or.inr ⟨x, by omega, rfl⟩
    · split
      · exact hr'
      · exact Or.inr ⟨x, by omega, rfl⟩
theorem kin79 {a : Nat} (h : a < 8) : kin (Int32.ofNat a) 8 = True := kin8 h
theorem kin80' {a : Nat} (h : a < 9) : kin (Int32.ofNat a) 9 = True := kin9 h

theorem c_soonestOf79 {ex : Int32} (hm : i 5 0 = Int32.ofNat m) (h8 : m ≤ 8) : kCA sc (d + 1) 76 [.ref 77, .ref 79, .int ex] y nx hd L st ((120, cu, su), i, l, kR f t sp) K = kWP sc (d + 1) y nx L (.int (pSo (i 79) m ex) :: st) ((120, cu, su), i, l, kR f t sp) K := by
  refine kCA_of (d := d) (v := some (.int (pSo (i 79) m ex))) (S2 := ((120, cu, su), i, l, kR f t sp)) (fun K => ?_)
  rw [km_76]
  show kWP sc d 76 0 [.ref 77, .ref 79, .int ex, .retAddr 0, .retAddr 0] [] _ K = _
  simp only [e_X7_soonestOf_0, e_X7_soonestOf_1, e_X7_soonestOf_2, e_X7_soonestOf_3, e_X7_soonestOf_7, e_X7_soonestOf_8, e_X7_soonestOf_11, e_X7_soonestOf_14, e_X7_soonestOf_17, e_X7_soonestOf_19, e_X7_soonestOf_20, e_X7_soonestOf_23, e_X7_soonestOf_24, e_X7_soonestOf_25, e_X7_soonestOf_28, e_X7_soonestOf_29, e_X7_soonestOf_31, e_X7_soonestOf_32, e_X7_soonestOf_33, e_X7_soonestOf_34, e_X7_soonestOf_35, e_X7_soonestOf_38, e_X7_soonestOf_40, e_X7_soonestOf_41, e_X7_soonestOf_44, e_X7_soonestOf_47, e_X7_soonestOf_48, ob_77, rk_77_0, ob_5, kcl_i, kcl_r, kcl_l, kcl_0, kcl_n, true_and, and_true]
  have E := k_forI (P := fun x (r : Int32) => kWP sc d 76 5 [.ref 77, .ref 79, .int ex, .int r, .int (Int32.ofNat x)] [] ((120, cu, su), i, l, kR f t sp) K) (n := m) (I := fun x r => r = -1 ∨ ∃ b, b < x ∧ r = Int32.ofNat b) (g := fun a r => if Int32.ofNat a = ex then r else if r = -1 then Int32.ofNat a else if i 79 r.toNatClampNeg ≤ i 79 a then r else Int32.ofNat a) ?_ (-1) (Or.inl rfl)
  · refine E.1.trans ?_
    refine e_X7_soonestOf_5.trans ?_
    simp only [e_X7_soonestOf_0, e_X7_soonestOf_1, e_X7_soonestOf_2, e_X7_soonestOf_3, e_X7_soonestOf_7, e_X7_soonestOf_8, e_X7_soonestOf_11, e_X7_soonestOf_14, e_X7_soonestOf_17, e_X7_soonestOf_19, e_X7_soonestOf_20, e_X7_soonestOf_23, e_X7_soonestOf_24, e_X7_soonestOf_25, e_X7_soonestOf_28, e_X7_soonestOf_29, e_X7_soonestOf_31, e_X7_soonestOf_32, e_X7_soonestOf_33, e_X7_soonestOf_34, e_X7_soonestOf_35, e_X7_soonestOf_38, e_X7_soonestOf_40, e_X7_soonestOf_41, e_X7_soonestOf_44, e_X7_soonestOf_47, e_X7_soonestOf_48, ob_77, rk_77_0, ob_5, kcl_i, kcl_r, kcl_l, kcl_0, kcl_n, true_and, and_true, hm, Int32.le_refl, if_true]
    rfl
  · intro x r hx hr
    have hr' : r = -1 ∨ ∃ b, b < x + 1 ∧ r = Int32.ofNat b := by
      rcases hr with e | ⟨b, hb, e⟩
      · exact Or.inl e
      · exact Or.inr ⟨b, by omega, e⟩
    constructor
    · refine e_X7_soonestOf_5.trans ?_
      simp only [e_X7_soonestOf_0, e_X7_soonestOf_1, e_X7_soonestOf_2, e_X7_soonestOf_3, e_X7_soonestOf_7, e_X7_soonestOf_8, e_X7_soonestOf_11, e_X7_soonestOf_14, e_X7_soonestOf_17, e_X7_soonestOf_19, e_X7_soonestOf_20, e_X7_soonestOf_23, e_X7_soonestOf_24, e_X7_soonestOf_25, e_X7_soonestOf_28, e_X7_soonestOf_29, e_X7_soonestOf_31, e_X7_soonestOf_32, e_X7_soonestOf_33, e_X7_soonestOf_34, e_X7_soonestOf_35, e_X7_soonestOf_38, e_X7_soonestOf_40, e_X7_soonestOf_41, e_X7_soonestOf_44, e_X7_soonestOf_47, e_X7_soonestOf_48, ob_77, rk_77_0, ob_5, kcl_i, kcl_r, kcl_l, kcl_0, kcl_n, true_and, and_true, hm, jpF hx (by omega), if_false, ar_79, kin79 (show x < 8 by omega), cl_n (show x < 100000 by omega), true_and, tn_s]
      by_cases c1 : Int32.ofNat x = ex
      · simp only [eq_true c1, if_true]
      · rcases hr with e | ⟨b, hb, e⟩
        · subst e
          simp only [eq_false c1, if_true, if_false, e_X7_soonestOf_0, e_X7_soonestOf_1, e_X7_soonestOf_2, e_X7_soonestOf_3, e_X7_soonestOf_7, e_X7_soonestOf_8, e_X7_soonestOf_11, e_X7_soonestOf_14, e_X7_soonestOf_17, e_X7_soonestOf_19, e_X7_soonestOf_20, e_X7_soonestOf_23, e_X7_soonestOf_24, e_X7_soonestOf_25, e_X7_soonestOf_28, e_X7_soonestOf_29, e_X7_soonestOf_31, e_X7_soonestOf_32, e_X7_soonestOf_33, e_X7_soonestOf_34, e_X7_soonestOf_35, e_X7_soonestOf_38, e_X7_soonestOf_40, e_X7_soonestOf_41, e_X7_soonestOf_44, e_X7_soonestOf_47, e_X7_soonestOf_48, ob_77, rk_77_0, ob_5, kcl_i, kcl_r, kcl_l, kcl_0, kcl_n, true_and, and_true, tn_s]
        · subst e
          simp only [eq_false c1, m1_ne (show b < 100000 by omega), if_false, ar_79, kin79 (show b < 8 by omega), cl_n (show b < 100000 by omega), true_and]
          by_cases c2 : i 79 b ≤ i 79 x
          · simp only [c2, if_true]
          · simp only [c2, if_false, e_X7_soonestOf_0, e_X7_soonestOf_1, e_X7_soonestOf_2, e_X7_soonestOf_3, e_X7_soonestOf_7, e_X7_soonestOf_8, e_X7_soonestOf_11, e_X7_soonestOf_14, e_X7_soonestOf_17, e_X7_soonestOf_19, e_X7_soonestOf_20, e_X7_soonestOf_23, e_X7_soonestOf_24, e_X7_soonestOf_25, e_X7_soonestOf_28, e_X7_soonestOf_29, e_X7_soonestOf_31, e_X7_soonestOf_32, e_X7_soonestOf_33, e_X7_soonestOf_34, e_X7_soonestOf_35, e_X7_soonestOf_38, e_X7_soonestOf_40, e_X7_soonestOf_41, e_X7_soonestOf_44, e_X7_soonestOf_47, e_X7_soonestOf_48, ob_77, rk_77_0, ob_5, kcl_i, kcl_r, kcl_l, kcl_0, kcl_n, true_and, and_true, tn_s]
    · split
      · exact hr'
      · split
        · exact Or.inr ⟨x, by omega, rfl⟩
        · split
          · exact hr'
          · exact Or.inr ⟨x, by omega, rfl⟩
theorem c_fewestBeside79 {so : Int32} {h : Nat} (hm : i 5 0 = Int32.ofNat m) (h8 : m ≤ 8) (hso : so = -1 ∨ ∃ b, b < m ∧ so = Int32.ofNat b) (hh : h < 9) : kCA sc (d + 2) 77 [.ref 77, .ref 79, .int so, .int (Int32.ofNat h)] y nx hd L st ((120, cu, su), i, l, kR f t sp) K = kWP sc (d + 2) y nx L (.int (pBe (i 79) m so h) :: st) ((120, cu, su), i, l, kR f t sp) K := by
  refine kCA_of (d := d + 1) (v := some (.int (pBe (i 79) m so h))) (S2 := ((120, cu, su), i, l, kR f t sp)) (fun K => ?_)
  rw [km_77]
  show kWP sc (d + 1) 77 0 [.ref 77, .ref 79, .int so, .int (Int32.ofNat h), .retAddr 0] [] _ K = _
  have R : ∀ r : Int32, (r = -1 ∨ ∃ b, b < m ∧ r = Int32.ofNat b) → kWP sc (d + 1) 77 15 [.ref 77, .ref 79, .int so, .int (Int32.ofNat h), .retAddr 0] [.int r] ((120, cu, su), i, l, kR f t sp) K = K (some (some (.int (if r = -1 then 1000 else i 79 r.toNatClampNeg)))) ((120, cu, su), i, l, kR f t sp) := by
    intro r hr
    rcases hr with e | ⟨b, hb, e⟩
    · subst e
      simp only [e_X7_fewestBeside_0, e_X7_fewestBeside_1, e_X7_fewestBeside_2, e_X7_fewestBeside_5, e_X7_fewestBeside_6, e_X7_fewestBeside_7, e_X7_fewestBeside_8, e_X7_fewestBeside_11, e_X7_fewestBeside_14, e_X7_fewestBeside_15, e_X7_fewestBeside_17, e_X7_fewestBeside_19, e_X7_fewestBeside_20, e_X7_fewestBeside_23, e_X7_fewestBeside_26, e_X7_fewestBeside_29, e_X7_fewestBeside_30, e_X7_fewestBeside_32, e_X7_fewestBeside_33, ob_77, kcl_i, kcl_r, kcl_l, kcl_0, kcl_n, true_and, and_true, not_true_eq_false, if_true, if_false]
    · subst e
      simp only [e_X7_fewestBeside_0, e_X7_fewestBeside_1, e_X7_fewestBeside_2, e_X7_fewestBeside_5, e_X7_fewestBeside_6, e_X7_fewestBeside_7, e_X7_fewestBeside_8, e_X7_fewestBeside_11, e_X7_fewestBeside_14, e_X7_fewestBeside_15, e_X7_fewestBeside_17, e_X7_fewestBeside_19, e_X7_fewestBeside_20, e_X7_fewestBeside_23, e_X7_fewestBeside_26, e_X7_fewestBeside_29, e_X7_fewestBeside_30, e_X7_fewestBeside_32, e_X7_fewestBeside_33, ob_77, kcl_i, kcl_r, kcl_l, kcl_0, kcl_n, true_and, and_true, m1_ne (show b < 100000 by omega), not_false_eq_true, if_true, if_false, ar_79, kin79 (show b < 8 by omega), cl_n (show b < 100000 by omega), true_and]
  unfold pBe
  by_cases c : Int32.ofNat h = so
  · simp only [e_X7_fewestBeside_0, e_X7_fewestBeside_1, e_X7_fewestBeside_2, e_X7_fewestBeside_5, e_X7_fewestBeside_6, e_X7_fewestBeside_7, e_X7_fewestBeside_8, e_X7_fewestBeside_11, e_X7_fewestBeside_14, e_X7_fewestBeside_17, e_X7_fewestBeside_19, e_X7_fewestBeside_20, e_X7_fewestBeside_23, e_X7_fewestBeside_26, e_X7_fewestBeside_29, e_X7_fewestBeside_30, e_X7_fewestBeside_32, e_X7_fewestBeside_33, ob_77, kcl_i, kcl_r, kcl_l, kcl_0, kcl_n, true_and, and_true, eq_true c, not_true_eq_false, if_false, if_true, c_soonestOf79 hm h8]
    exact R _ pSo_ok
  · simp only [e_X7_fewestBeside_0, e_X7_fewestBeside_1, e_X7_fewestBeside_2, e_X7_fewestBeside_5, e_X7_fewestBeside_6, e_X7_fewestBeside_7, e_X7_fewestBeside_8, e_X7_fewestBeside_11, e_X7_fewestBeside_14, e_X7_fewestBeside_17, e_X7_fewestBeside_19, e_X7_fewestBeside_20, e_X7_fewestBeside_23, e_X7_fewestBeside_26, e_X7_fewestBeside_29, e_X7_fewestBeside_30, e_X7_fewestBeside_32, e_X7_fewestBeside_33, ob_77, kcl_i, kcl_r, kcl_l, kcl_0, kcl_n, true_and, and_true, eq_false c, not_false_eq_true, if_true, if_false]
    exact R _ hso

theorem c_soonestOf80 {ex : Int32} (hm : i 5 0 = Int32.ofNat m) (h8 : m ≤ 8) : kCA sc (d + 1) 76 [.ref 77, .ref 80, .int ex] y nx hd L st ((120, cu, su), i, l, kR f t sp) K = kWP sc (d + 1) y nx L (.int (pSo (i 80) m ex) :: st) ((120, cu, su), i, l, kR f t sp) K := by
  refine kCA_of (d := d) (v := some (.int (pSo (i 80) m ex))) (S2 := ((120, cu, su), i, l, kR f t sp)) (fun K => ?_)
  rw [km_76]
  show kWP sc d 76 0 [.ref 77, .ref 80, .int ex, .retAddr 0, .retAddr 0] [] _ K = _
  simp only [e_X7_soonestOf_0, e_X7_soonestOf_1, e_X7_soonestOf_2, e_X7_soonestOf_3, e_X7_soonestOf_7, e_X7_soonestOf_8, e_X7_soonestOf_11, e_X7_soonestOf_14, e_X7_soonestOf_17, e_X7_soonestOf_19, e_X7_soonestOf_20, e_X7_soonestOf_23, e_X7_soonestOf_24, e_X7_soonestOf_25, e_X7_soonestOf_28, e_X7_soonestOf_29, e_X7_soonestOf_31, e_X7_soonestOf_32, e_X7_soonestOf_33, e_X7_soonestOf_34, e_X7_soonestOf_35, e_X7_soonestOf_38, e_X7_soonestOf_40, e_X7_soonestOf_41, e_X7_soonestOf_44, e_X7_soonestOf_47, e_X7_soonestOf_48, ob_77, rk_77_0, ob_5, kcl_i, kcl_r, kcl_l, kcl_0, kcl_n, true_and, and_true]
  have E := k_forI (P := fun x (r : Int32) => kWP sc d 76 5 [.ref 77, .ref 80, .int ex, .int r, .int (Int32.ofNat x)] [] ((120, cu, su), i, l, kR f t sp) K) (n := m) (I := fun x r => r = -1 ∨ ∃ b, b < x ∧ r = Int32.ofNat b) (g := fun a r => if Int32.ofNat a = ex then r else if r = -1 then Int32.ofNat a else if i 80 r.toNatClampNeg ≤ i 80 a then r else Int32.ofNat a) ?_ (-1) (Or.inl rfl)
  · refine E.1.trans ?_
    refine e_X7_soonestOf_5.trans ?_
    simp only [e_X7_soonestOf_0, e_X7_soonestOf_1, e_X7_soonestOf_2, e_X7_soonestOf_3, e_X7_soonestOf_7, e_X7_soonestOf_8, e_X7_soonestOf_11, e_X7_soonestOf_14, e_X7_soonestOf_17, e_X7_soonestOf_19, e_X7_soonestOf_20, e_X7_soonestOf_23, e_X7_soonestOf_24, e_X7_soonestOf_25, e_X7_soonestOf_28, e_X7_soonestOf_29, e_X7_soonestOf_31, e_X7_soonestOf_32, e_X7_soonestOf_33, e_X7_soonestOf_34, e_X7_soonestOf_35, e_X7_soonestOf_38, e_X7_soonestOf_40, e_X7_soonestOf_41, e_X7_soonestOf_44, e_X7_soonestOf_47, e_X7_soonestOf_48, ob_77, rk_77_0, ob_5, kcl_i, kcl_r, kcl_l, kcl_0, kcl_n, true_and, and_true, hm, Int32.le_refl, if_true]
    rfl
  · intro x r hx hr
    have hr' : r = -1 ∨ ∃ b, b < x + 1 ∧ r = Int32.ofNat b := by
      rcases hr with e | ⟨b, hb, e⟩
      · exact Or.inl e
      · exact Or.inr ⟨b, by omega, e⟩
    constructor
    · refine e_X7_soonestOf_5.trans ?_
      simp only [e_X7_soonestOf_0, e_X7_soonestOf_1, e_X7_soonestOf_2, e_X7_soonestOf_3, e_X7_soonestOf_7, e_X7_soonestOf_8, e_X7_soonestOf_11, e_X7_soonestOf_14, e_X7_soonestOf_17, e_X7_soonestOf_19, e_X7_soonestOf_20, e_X7_soonestOf_23, e_X7_soonestOf_24, e_X7_soonestOf_25, e_X7_soonestOf_28, e_X7_soonestOf_29, e_X7_soonestOf_31, e_X7_soonestOf_32, e_X7_soonestOf_33, e_X7_soonestOf_34, e_X7_soonestOf_35, e_X7_soonestOf_38, e_X7_soonestOf_40, e_X7_soonestOf_41, e_X7_soonestOf_44, e_X7_soonestOf_47, e_X7_soonestOf_48, ob_77, rk_77_0, ob_5, kcl_i, kcl_r, kcl_l, kcl_0, kcl_n, true_and, and_true, hm, jpF hx (by omega), if_false, ar_80, kin80' (show x < 9 by omega), cl_n (show x < 100000 by omega), true_and, tn_s]
      by_cases c1 : Int32.ofNat x = ex
      · simp only [eq_true c1, if_true]
      · rcases hr with e | ⟨b, hb, e⟩
        · subst e
          simp only [eq_false c1, if_true, if_false, e_X7_soonestOf_0, e_X7_soonestOf_1, e_X7_soonestOf_2, e_X7_soonestOf_3, e_X7_soonestOf_7, e_X7_soonestOf_8, e_X7_soonestOf_11, e_X7_soonestOf_14, e_X7_soonestOf_17, e_X7_soonestOf_19, e_X7_soonestOf_20, e_X7_soonestOf_23, e_X7_soonestOf_24, e_X7_soonestOf_25, e_X7_soonestOf_28, e_X7_soonestOf_29, e_X7_soonestOf_31, e_X7_soonestOf_32, e_X7_soonestOf_33, e_X7_soonestOf_34, e_X7_soonestOf_35, e_X7_soonestOf_38, e_X7_soonestOf_40, e_X7_soonestOf_41, e_X7_soonestOf_44, e_X7_soonestOf_47, e_X7_soonestOf_48, ob_77, rk_77_0, ob_5, kcl_i, kcl_r, kcl_l, kcl_0, kcl_n, true_and, and_true, tn_s]
        · subst e
          simp only [eq_false c1, m1_ne (show b < 100000 by omega), if_false, ar_80, kin80' (show b < 9 by omega), cl_n (show b < 100000 by omega), true_and]
          by_cases c2 : i 80 b ≤ i 80 x
          · simp only [c2, if_true]
          · simp only [c2, if_false, e_X7_soonestOf_0, e_X7_soonestOf_1, e_X7_soonestOf_2, e_X7_soonestOf_3, e_X7_soonestOf_7, e_X7_soonestOf_8, e_X7_soonestOf_11, e_X7_soonestOf_14, e_X7_soonestOf_17, e_X7_soonestOf_19, e_X7_soonestOf_20, e_X7_soonestOf_23, e_X7_soonestOf_24, e_X7_soonestOf_25, e_X7_soonestOf_28, e_X7_soonestOf_29, e_X7_soonestOf_31, e_X7_soonestOf_32, e_X7_soonestOf_33, e_X7_soonestOf_34, e_X7_soonestOf_35, e_X7_soonestOf_38, e_X7_soonestOf_40, e_X7_soonestOf_41, e_X7_soonestOf_44, e_X7_soonestOf_47, e_X7_soonestOf_48, ob_77, rk_77_0, ob_5, kcl_i, kcl_r, kcl_l, kcl_0, kcl_n, true_and, and_true, tn_s]
    · split
      · exact hr'
      · split
        · exact Or.inr ⟨x, by omega, rfl⟩
        · split
          · exact hr'
          · exact Or.inr ⟨x, by omega, rfl⟩
theorem c_fewestBeside80 {so : Int32} {h : Nat} (hm : i 5 0 = Int32.ofNat m) (h8 : m ≤ 8) (hso : so = -1 ∨ ∃ b, b < m ∧ so = Int32.ofNat b) (hh : h < 9) : kCA sc (d + 2) 77 [.ref 77, .ref 80, .int so, .int (Int32.ofNat h)] y nx hd L st ((120, cu, su), i, l, kR f t sp) K = kWP sc (d + 2) y nx L (.int (pBe (i 80) m so h) :: st) ((120, cu, su), i, l, kR f t sp) K := by
  refine kCA_of (d := d + 1) (v := some (.int (pBe (i 80) m so h))) (S2 := ((120, cu, su), i, l, kR f t sp)) (fun K => ?_)
  rw [km_77]
  show kWP sc (d + 1) 77 0 [.ref 77, .ref 80, .int so, .int (Int32.ofNat h), .retAddr 0] [] _ K = _
  have R : ∀ r : Int32, (r = -1 ∨ ∃ b, b < m ∧ r = Int32.ofNat b) → kWP sc (d + 1) 77 15 [.ref 77, .ref 80, .int so, .int (Int32.ofNat h), .retAddr 0] [.int r] ((120, cu, su), i, l, kR f t sp) K = K (some (some (.int (if r = -1 then 1000 else i 80 r.toNatClampNeg)))) ((120, cu, su), i, l, kR f t sp) := by
    intro r hr
    rcases hr with e | ⟨b, hb, e⟩
    · subst e
      simp only [e_X7_fewestBeside_0, e_X7_fewestBeside_1, e_X7_fewestBeside_2, e_X7_fewestBeside_5, e_X7_fewestBeside_6, e_X7_fewestBeside_7, e_X7_fewestBeside_8, e_X7_fewestBeside_11, e_X7_fewestBeside_14, e_X7_fewestBeside_15, e_X7_fewestBeside_17, e_X7_fewestBeside_19, e_X7_fewestBeside_20, e_X7_fewestBeside_23, e_X7_fewestBeside_26, e_X7_fewestBeside_29, e_X7_fewestBeside_30, e_X7_fewestBeside_32, e_X7_fewestBeside_33, ob_77, kcl_i, kcl_r, kcl_l, kcl_0, kcl_n, true_and, and_true, not_true_eq_false, if_true, if_false]
    · subst e
      simp only [e_X7_fewestBeside_0, e_X7_fewestBeside_1, e_X7_fewestBeside_2, e_X7_fewestBeside_5, e_X7_fewestBeside_6, e_X7_fewestBeside_7, e_X7_fewestBeside_8, e_X7_fewestBeside_11, e_X7_fewestBeside_14, e_X7_fewestBeside_15, e_X7_fewestBeside_17, e_X7_fewestBeside_19, e_X7_fewestBeside_20, e_X7_fewestBeside_23, e_X7_fewestBeside_26, e_X7_fewestBeside_29, e_X7_fewestBeside_30, e_X7_fewestBeside_32, e_X7_fewestBeside_33, ob_77, kcl_i, kcl_r, kcl_l, kcl_0, kcl_n, true_and, and_true, m1_ne (show b < 100000 by omega), not_false_eq_true, if_true, if_false, ar_80, kin80' (show b < 9 by omega), cl_n (show b < 100000 by omega), true_and]
  unfold pBe
  by_cases c : Int32.ofNat h = so
  · simp only [e_X7_fewestBeside_0, e_X7_fewestBeside_1, e_X7_fewestBeside_2, e_X7_fewestBeside_5, e_X7_fewestBeside_6, e_X7_fewestBeside_7, e_X7_fewestBeside_8, e_X7_fewestBeside_11, e_X7_fewestBeside_14, e_X7_fewestBeside_17, e_X7_fewestBeside_19, e_X7_fewestBeside_20, e_X7_fewestBeside_23, e_X7_fewestBeside_26, e_X7_fewestBeside_29, e_X7_fewestBeside_30, e_X7_fewestBeside_32, e_X7_fewestBeside_33, ob_77, kcl_i, kcl_r, kcl_l, kcl_0, kcl_n, true_and, and_true, eq_true c, not_true_eq_false, if_false, if_true, c_soonestOf80 hm h8]
    exact R _ pSo_ok
  · simp only [e_X7_fewestBeside_0, e_X7_fewestBeside_1, e_X7_fewestBeside_2, e_X7_fewestBeside_5, e_X7_fewestBeside_6, e_X7_fewestBeside_7, e_X7_fewestBeside_8, e_X7_fewestBeside_11, e_X7_fewestBeside_14, e_X7_fewestBeside_17, e_X7_fewestBeside_19, e_X7_fewestBeside_20, e_X7_fewestBeside_23, e_X7_fewestBeside_26, e_X7_fewestBeside_29, e_X7_fewestBeside_30, e_X7_fewestBeside_32, e_X7_fewestBeside_33, ob_77, kcl_i, kcl_r, kcl_l, kcl_0, kcl_n, true_and, and_true, eq_false c, not_false_eq_true, if_true, if_false]
    exact R _ hso

/-- the search's three rows -/
def oS (i : Nat → Nat → Int32) (A F Pn : Nat → Int32) : Nat → Nat → Int32 := fun c => if c = 78 then A else if c = 79 then F else if c = 80 then Pn else i c
theorem oS_78 : oS i A F Pn 78 = A := rfl
theorem oS_79 : oS i A F Pn 79 = F := rfl
theorem oS_80 : oS i A F Pn 80 = Pn := rfl
theorem oS_o {c : Nat} (h1 : c < 78 ∨ 80 < c) : oS i A F Pn c = i c := by unfold oS; rw [if_neg (by omega), if_neg (by omega), if_neg (by omega)]
theorem oS_g : oS i (i 78) (i 79) (i 80) = i := by
  funext c
  unfold oS
  by_cases h1 : c = 78
  · rw [if_pos h1, h1]
  · rw [if_neg h1]
    by_cases h2 : c = 79
    · rw [if_pos h2, h2]
    · rw [if_neg h2]
      by_cases h3 : c = 80
      · rw [if_pos h3, h3]
      · rw [if_neg h3]
theorem oU_78 {x : Nat} {v : Int32} : kupi (oS i A F Pn) 78 x v = oS i (kuf A x v) F Pn := by
  funext c z; unfold kupi oS kuf
  by_cases h1 : c = 78
  · subst h1; by_cases h2 : z = x
    · simp [h2]
    · simp [h2]
  · simp [h1]
theorem oU_79 {x : Nat} {v : Int32} : kupi (oS i A F Pn) 79 x v = oS i A (kuf F x v) Pn := by
  funext c z; unfold kupi oS kuf
  by_cases h1 : c = 79
  · subst h1; by_cases h2 : z = x
    · simp [h2]
    · simp [h2]
  · simp [h1]
theorem oU_80 {x : Nat} {v : Int32} : kupi (oS i A F Pn) 80 x v = oS i A F (kuf Pn x v) := by
  funext c z; unfold kupi oS kuf
  by_cases h1 : c = 80
  · subst h1; by_cases h2 : z = x
    · simp [h2]
    · simp [h2]
  · simp [h1]
def fF (le co A : Nat → Int32) (m u : Nat) (F : Nat → Int32) : Nat → Int32 := kfo (fun a F => kuf F a (cF le co A u a)) m F
def fP (F : Nat → Int32) (m : Nat) (q : Int32) (u : Nat) (Pn : Nat → Int32) : Nat → Int32 := kfo (fun h Pn => kuf Pn h (cPl F m q u h)) 9 Pn
def fA (Pn : Nat → Int32) (m u : Nat) (A : Nat → Int32) : Nat → Int32 := kfo (fun h A => kuf A (u * 9 + h) (mn (Pn h) (1 + pBe Pn m (pSo Pn m (-1)) h))) 9 A
theorem c_fillPlains {q : Int32} (hm : i 5 0 = Int32.ofNat m) (h8 : m ≤ 8) (hu : u < 256) : kCA sc (d + 4) 71 [.ref 77, .int (Int32.ofNat u), .int q] y nx hd L st ((120, cu, su), oS i A F Pn, l, kR f t sp) K = kWP sc (d + 4) y nx L st ((120, cu, su), oS i A (fF (i 9) (i 8) A m u F) (fP (fF (i 9) (i 8) A m u F) m q u Pn), l, kR f t sp) K := by
  refine kCA_of (d := d + 3) (v := none) (S2 := ((120, cu, su), oS i A (fF (i 9) (i 8) A m u F) (fP (fF (i 9) (i 8) A m u F) m q u Pn), l, kR f t sp)) (fun K => ?_)
  rw [km_71]
  show kWP sc (d + 3) 71 0 [.ref 77, .int (Int32.ofNat u), .int q, .retAddr 0, .retAddr 0] [] _ K = _
  have hmS : ∀ A F Pn, oS i A F Pn 5 0 = Int32.ofNat m := fun A F Pn => by rw [oS_o (by decide)]; exact hm
  have e8 : ∀ A F Pn, oS i A F Pn 8 = i 8 := fun A F Pn => oS_o (by decide)
  have e9 : ∀ A F Pn, oS i A F Pn 9 = i 9 := fun A F Pn => oS_o (by decide)
  simp only [e_X7_fillPlains_0, e_X7_fillPlains_1, e_X7_fillPlains_3, e_X7_fillPlains_4, e_X7_fillPlains_7, e_X7_fillPlains_10, e_X7_fillPlains_13, e_X7_fillPlains_14, e_X7_fillPlains_17, e_X7_fillPlains_18, e_X7_fillPlains_19, e_X7_fillPlains_20, e_X7_fillPlains_21, e_X7_fillPlains_24, e_X7_fillPlains_25, e_X7_fillPlains_28, e_X7_fillPlains_31, e_X7_fillPlains_32, e_X7_fillPlains_33, e_X7_fillPlains_36, e_X7_fillPlains_37, e_X7_fillPlains_40, e_X7_fillPlains_41, e_X7_fillPlains_42, e_X7_fillPlains_46, e_X7_fillPlains_48, e_X7_fillPlains_51, e_X7_fillPlains_52, e_X7_fillPlains_55, e_X7_fillPlains_56, e_X7_fillPlains_59, e_X7_fillPlains_61, e_X7_fillPlains_63, e_X7_fillPlains_64, e_X7_fillPlains_67, e_X7_fillPlains_70, e_X7_fillPlains_73, e_X7_fillPlains_74, e_X7_fillPlains_75, e_X7_fillPlains_78, e_X7_fillPlains_79, e_X7_fillPlains_82, e_X7_fillPlains_84, e_X7_fillPlains_85, e_X7_fillPlains_86, e_X7_fillPlains_89, e_X7_fillPlains_90, e_X7_fillPlains_92, e_X7_fillPlains_95, e_X7_fillPlains_96, e_X7_fillPlains_99, e_X7_fillPlains_102, ob_77, rk_77_0, ob_5, rk_77_2, ar_79, rk_77_3, ar_80, kcl_i, kcl_r, kcl_l, kcl_0, kcl_n, true_and, and_true]
  refine (k_for (P := fun a (F : Nat → Int32) => kWP sc (d + 3) 71 2 [.ref 77, .int (Int32.ofNat u), .int q, .int (Int32.ofNat a), .retAddr 0] [] ((120, cu, su), oS i A F Pn, l, kR f t sp) K) (n := m) (g := fun a F => kuf F a (cF (i 9) (i 8) A u a)) ?_ F).trans ?_
  · intro a F ha
    refine e_X7_fillPlains_2.trans ?_
    simp only [e_X7_fillPlains_0, e_X7_fillPlains_1, e_X7_fillPlains_3, e_X7_fillPlains_4, e_X7_fillPlains_7, e_X7_fillPlains_10, e_X7_fillPlains_13, e_X7_fillPlains_14, e_X7_fillPlains_17, e_X7_fillPlains_18, e_X7_fillPlains_19, e_X7_fillPlains_20, e_X7_fillPlains_21, e_X7_fillPlains_24, e_X7_fillPlains_25, e_X7_fillPlains_28, e_X7_fillPlains_31, e_X7_fillPlains_32, e_X7_fillPlains_33, e_X7_fillPlains_36, e_X7_fillPlains_37, e_X7_fillPlains_40, e_X7_fillPlains_41, e_X7_fillPlains_42, e_X7_fillPlains_46, e_X7_fillPlains_48, e_X7_fillPlains_51, e_X7_fillPlains_52, e_X7_fillPlains_55, e_X7_fillPlains_56, e_X7_fillPlains_59, e_X7_fillPlains_61, e_X7_fillPlains_63, e_X7_fillPlains_64, e_X7_fillPlains_67, e_X7_fillPlains_70, e_X7_fillPlains_73, e_X7_fillPlains_74, e_X7_fillPlains_75, e_X7_fillPlains_78, e_X7_fillPlains_79, e_X7_fillPlains_82, e_X7_fillPlains_84, e_X7_fillPlains_85, e_X7_fillPlains_86, e_X7_fillPlains_89, e_X7_fillPlains_90, e_X7_fillPlains_92, e_X7_fillPlains_95, e_X7_fillPlains_96, e_X7_fillPlains_99, e_X7_fillPlains_102, ob_77, rk_77_0, ob_5, rk_77_2, ar_79, rk_77_3, ar_80, kcl_i, kcl_r, kcl_l, kcl_0, kcl_n, true_and, and_true, hmS, jpF ha (by omega), if_false, c_fewestIfFirst hu (show a < 8 by omega), e8, e9, oS_78, kin8 (show a < 8 by omega), cl_n (show a < 100000 by omega), oU_79, true_and, tn_s]
  · show kWP sc (d + 3) _ _ _ _ (_, oS i A (fF (i 9) (i 8) A m u F) Pn, _, _) K = _
    refine e_X7_fillPlains_2.trans ?_
    simp only [e_X7_fillPlains_0, e_X7_fillPlains_1, e_X7_fillPlains_3, e_X7_fillPlains_4, e_X7_fillPlains_7, e_X7_fillPlains_10, e_X7_fillPlains_13, e_X7_fillPlains_14, e_X7_fillPlains_17, e_X7_fillPlains_18, e_X7_fillPlains_19, e_X7_fillPlains_20, e_X7_fillPlains_21, e_X7_fillPlains_24, e_X7_fillPlains_25, e_X7_fillPlains_28, e_X7_fillPlains_31, e_X7_fillPlains_32, e_X7_fillPlains_33, e_X7_fillPlains_36, e_X7_fillPlains_37, e_X7_fillPlains_40, e_X7_fillPlains_41, e_X7_fillPlains_42, e_X7_fillPlains_46, e_X7_fillPlains_48, e_X7_fillPlains_51, e_X7_fillPlains_52, e_X7_fillPlains_55, e_X7_fillPlains_56, e_X7_fillPlains_59, e_X7_fillPlains_61, e_X7_fillPlains_63, e_X7_fillPlains_64, e_X7_fillPlains_67, e_X7_fillPlains_70, e_X7_fillPlains_73, e_X7_fillPlains_74, e_X7_fillPlains_75, e_X7_fillPlains_78, e_X7_fillPlains_79, e_X7_fillPlains_82, e_X7_fillPlains_84, e_X7_fillPlains_85, e_X7_fillPlains_86, e_X7_fillPlains_89, e_X7_fillPlains_90, e_X7_fillPlains_92, e_X7_fillPlains_95, e_X7_fillPlains_96, e_X7_fillPlains_99, e_X7_fillPlains_102, ob_77, rk_77_0, ob_5, rk_77_2, ar_79, rk_77_3, ar_80, kcl_i, kcl_r, kcl_l, kcl_0, kcl_n, true_and, and_true, hmS, Int32.le_refl, if_true, c_soonestOf79 (hmS _ _ _) h8, oS_79]
    refine (k_for (P := fun h (Pn : Nat → Int32) => kWP sc (d + 3) 71 44 [.ref 77, .int (Int32.ofNat u), .int q, .int (pSo (fF (i 9) (i 8) A m u F) m (-1)), .int (Int32.ofNat h)] [] ((120, cu, su), oS i A (fF (i 9) (i 8) A m u F) Pn, l, kR f t sp) K) (n := 9) (g := fun h Pn => kuf Pn h (cPl (fF (i 9) (i 8) A m u F) m q u h)) ?_ Pn).trans ?_
    · intro h Pn hh
      refine e_X7_fillPlains_44.trans ?_
      unfold cPl
      simp only [e_X7_fillPlains_0, e_X7_fillPlains_1, e_X7_fillPlains_3, e_X7_fillPlains_4, e_X7_fillPlains_7, e_X7_fillPlains_10, e_X7_fillPlains_13, e_X7_fillPlains_14, e_X7_fillPlains_17, e_X7_fillPlains_18, e_X7_fillPlains_19, e_X7_fillPlains_20, e_X7_fillPlains_21, e_X7_fillPlains_24, e_X7_fillPlains_25, e_X7_fillPlains_28, e_X7_fillPlains_31, e_X7_fillPlains_32, e_X7_fillPlains_33, e_X7_fillPlains_36, e_X7_fillPlains_37, e_X7_fillPlains_40, e_X7_fillPlains_41, e_X7_fillPlains_42, e_X7_fillPlains_46, e_X7_fillPlains_48, e_X7_fillPlains_51, e_X7_fillPlains_52, e_X7_fillPlains_55, e_X7_fillPlains_56, e_X7_fillPlains_59, e_X7_fillPlains_61, e_X7_fillPlains_63, e_X7_fillPlains_64, e_X7_fillPlains_67, e_X7_fillPlains_70, e_X7_fillPlains_73, e_X7_fillPlains_74, e_X7_fillPlains_75, e_X7_fillPlains_78, e_X7_fillPlains_79, e_X7_fillPlains_82, e_X7_fillPlains_84, e_X7_fillPlains_85, e_X7_fillPlains_86, e_X7_fillPlains_89, e_X7_fillPlains_90, e_X7_fillPlains_92, e_X7_fillPlains_95, e_X7_fillPlains_96, e_X7_fillPlains_99, e_X7_fillPlains_102, ob_77, rk_77_0, ob_5, rk_77_2, ar_79, rk_77_3, ar_80, kcl_i, kcl_r, kcl_l, kcl_0, kcl_n, true_and, and_true, jp9 hh, if_false, tn_z (show u < 2147483648 by omega)]
      by_cases c : u = 0
      · by_cases c2 : Int32.ofNat h = q
        · simp only [eq_true c, eq_true c2, not_true_eq_false, if_true, if_false, kin9 hh, cl_n (show h < 100000 by omega), oU_80, true_and, tn_s, e_X7_fillPlains_0, e_X7_fillPlains_1, e_X7_fillPlains_3, e_X7_fillPlains_4, e_X7_fillPlains_7, e_X7_fillPlains_10, e_X7_fillPlains_13, e_X7_fillPlains_14, e_X7_fillPlains_17, e_X7_fillPlains_18, e_X7_fillPlains_19, e_X7_fillPlains_20, e_X7_fillPlains_21, e_X7_fillPlains_24, e_X7_fillPlains_25, e_X7_fillPlains_28, e_X7_fillPlains_31, e_X7_fillPlains_32, e_X7_fillPlains_33, e_X7_fillPlains_36, e_X7_fillPlains_37, e_X7_fillPlains_40, e_X7_fillPlains_41, e_X7_fillPlains_42, e_X7_fillPlains_46, e_X7_fillPlains_48, e_X7_fillPlains_51, e_X7_fillPlains_52, e_X7_fillPlains_55, e_X7_fillPlains_56, e_X7_fillPlains_59, e_X7_fillPlains_61, e_X7_fillPlains_63, e_X7_fillPlains_64, e_X7_fillPlains_67, e_X7_fillPlains_70, e_X7_fillPlains_73, e_X7_fillPlains_74, e_X7_fillPlains_75, e_X7_fillPlains_78, e_X7_fillPlains_79, e_X7_fillPlains_82, e_X7_fillPlains_84, e_X7_fillPlains_85, e_X7_fillPlains_86, e_X7_fillPlains_89, e_X7_fillPlains_90, e_X7_fillPlains_92, e_X7_fillPlains_95, e_X7_fillPlains_96, e_X7_fillPlains_99, e_X7_fillPlains_102, ob_77, rk_77_0, ob_5, rk_77_2, ar_79, rk_77_3, ar_80, kcl_i, kcl_r, kcl_l, kcl_0, kcl_n, true_and, and_true]
        · simp only [eq_true c, eq_false c2, not_true_eq_false, not_false_eq_true, if_true, if_false, kin9 hh, cl_n (show h < 100000 by omega), oU_80, true_and, tn_s, e_X7_fillPlains_0, e_X7_fillPlains_1, e_X7_fillPlains_3, e_X7_fillPlains_4, e_X7_fillPlains_7, e_X7_fillPlains_10, e_X7_fillPlains_13, e_X7_fillPlains_14, e_X7_fillPlains_17, e_X7_fillPlains_18, e_X7_fillPlains_19, e_X7_fillPlains_20, e_X7_fillPlains_21, e_X7_fillPlains_24, e_X7_fillPlains_25, e_X7_fillPlains_28, e_X7_fillPlains_31, e_X7_fillPlains_32, e_X7_fillPlains_33, e_X7_fillPlains_36, e_X7_fillPlains_37, e_X7_fillPlains_40, e_X7_fillPlains_41, e_X7_fillPlains_42, e_X7_fillPlains_46, e_X7_fillPlains_48, e_X7_fillPlains_51, e_X7_fillPlains_52, e_X7_fillPlains_55, e_X7_fillPlains_56, e_X7_fillPlains_59, e_X7_fillPlains_61, e_X7_fillPlains_63, e_X7_fillPlains_64, e_X7_fillPlains_67, e_X7_fillPlains_70, e_X7_fillPlains_73, e_X7_fillPlains_74, e_X7_fillPlains_75, e_X7_fillPlains_78, e_X7_fillPlains_79, e_X7_fillPlains_82, e_X7_fillPlains_84, e_X7_fillPlains_85, e_X7_fillPlains_86, e_X7_fillPlains_89, e_X7_fillPlains_90, e_X7_fillPlains_92, e_X7_fillPlains_95, e_X7_fillPlains_96, e_X7_fillPlains_99, e_X7_fillPlains_102, ob_77, rk_77_0, ob_5, rk_77_2, ar_79, rk_77_3, ar_80, kcl_i, kcl_r, kcl_l, kcl_0, kcl_n, true_and, and_true]
      · simp only [eq_false c, not_false_eq_true, if_true, if_false, c_fewestBeside79 (d := d + 1) (hmS _ _ _) h8 pSo_ok hh, oS_79, kin9 hh, cl_n (show h < 100000 by omega), oU_80, true_and, tn_s, e_X7_fillPlains_0, e_X7_fillPlains_1, e_X7_fillPlains_3, e_X7_fillPlains_4, e_X7_fillPlains_7, e_X7_fillPlains_10, e_X7_fillPlains_13, e_X7_fillPlains_14, e_X7_fillPlains_17, e_X7_fillPlains_18, e_X7_fillPlains_19, e_X7_fillPlains_20, e_X7_fillPlains_21, e_X7_fillPlains_24, e_X7_fillPlains_25, e_X7_fillPlains_28, e_X7_fillPlains_31, e_X7_fillPlains_32, e_X7_fillPlains_33, e_X7_fillPlains_36, e_X7_fillPlains_37, e_X7_fillPlains_40, e_X7_fillPlains_41, e_X7_fillPlains_42, e_X7_fillPlains_46, e_X7_fillPlains_48, e_X7_fillPlains_51, e_X7_fillPlains_52, e_X7_fillPlains_55, e_X7_fillPlains_56, e_X7_fillPlains_59, e_X7_fillPlains_61, e_X7_fillPlains_63, e_X7_fillPlains_64, e_X7_fillPlains_67, e_X7_fillPlains_70, e_X7_fillPlains_73, e_X7_fillPlains_74, e_X7_fillPlains_75, e_X7_fillPlains_78, e_X7_fillPlains_79, e_X7_fillPlains_82, e_X7_fillPlains_84, e_X7_fillPlains_85, e_X7_fillPlains_86, e_X7_fillPlains_89, e_X7_fillPlains_90, e_X7_fillPlains_92, e_X7_fillPlains_95, e_X7_fillPlains_96, e_X7_fillPlains_99, e_X7_fillPlains_102, ob_77, rk_77_0, ob_5, rk_77_2, ar_79, rk_77_3, ar_80, kcl_i, kcl_r, kcl_l, kcl_0, kcl_n, true_and, and_true]
    · refine e_X7_fillPlains_44.trans ?_
      simp only [e_X7_fillPlains_0, e_X7_fillPlains_1, e_X7_fillPlains_3, e_X7_fillPlains_4, e_X7_fillPlains_7, e_X7_fillPlains_10, e_X7_fillPlains_13, e_X7_fillPlains_14, e_X7_fillPlains_17, e_X7_fillPlains_18, e_X7_fillPlains_19, e_X7_fillPlains_20, e_X7_fillPlains_21, e_X7_fillPlains_24, e_X7_fillPlains_25, e_X7_fillPlains_28, e_X7_fillPlains_31, e_X7_fillPlains_32, e_X7_fillPlains_33, e_X7_fillPlains_36, e_X7_fillPlains_37, e_X7_fillPlains_40, e_X7_fillPlains_41, e_X7_fillPlains_42, e_X7_fillPlains_46, e_X7_fillPlains_48, e_X7_fillPlains_51, e_X7_fillPlains_52, e_X7_fillPlains_55, e_X7_fillPlains_56, e_X7_fillPlains_59, e_X7_fillPlains_61, e_X7_fillPlains_63, e_X7_fillPlains_64, e_X7_fillPlains_67, e_X7_fillPlains_70, e_X7_fillPlains_73, e_X7_fillPlains_74, e_X7_fillPlains_75, e_X7_fillPlains_78, e_X7_fillPlains_79, e_X7_fillPlains_82, e_X7_fillPlains_84, e_X7_fillPlains_85, e_X7_fillPlains_86, e_X7_fillPlains_89, e_X7_fillPlains_90, e_X7_fillPlains_92, e_X7_fillPlains_95, e_X7_fillPlains_96, e_X7_fillPlains_99, e_X7_fillPlains_102, ob_77, rk_77_0, ob_5, rk_77_2, ar_79, rk_77_3, ar_80, kcl_i, kcl_r, kcl_l, kcl_0, kcl_n, true_and, and_true, jp99, if_true]
      rfl
theorem c_fillWithSneezes (hm : i 5 0 = Int32.ofNat m) (h8 : m ≤ 8) (hu : u < 256) : kCA sc (d + 3) 72 [.ref 77, .int (Int32.ofNat u)] y nx hd L st ((120, cu, su), oS i A F Pn, l, kR f t sp) K = kWP sc (d + 3) y nx L st ((120, cu, su), oS i (fA Pn m u A) F Pn, l, kR f t sp) K := by
  refine kCA_of (d := d + 2) (v := none) (S2 := ((120, cu, su), oS i (fA Pn m u A) F Pn, l, kR f t sp)) (fun K => ?_)
  rw [km_72]
  show kWP sc (d + 2) 72 0 [.ref 77, .int (Int32.ofNat u), .retAddr 0, .retAddr 0, .retAddr 0] [] _ K = _
  have hmS : ∀ A F Pn, oS i A F Pn 5 0 = Int32.ofNat m := fun A F Pn => by rw [oS_o (by decide)]; exact hm
  simp only [e_X7_fillWithSneezes_0, e_X7_fillWithSneezes_1, e_X7_fillWithSneezes_2, e_X7_fillWithSneezes_5, e_X7_fillWithSneezes_6, e_X7_fillWithSneezes_9, e_X7_fillWithSneezes_10, e_X7_fillWithSneezes_11, e_X7_fillWithSneezes_13, e_X7_fillWithSneezes_15, e_X7_fillWithSneezes_18, e_X7_fillWithSneezes_19, e_X7_fillWithSneezes_20, e_X7_fillWithSneezes_21, e_X7_fillWithSneezes_24, e_X7_fillWithSneezes_25, e_X7_fillWithSneezes_26, e_X7_fillWithSneezes_29, e_X7_fillWithSneezes_30, e_X7_fillWithSneezes_32, e_X7_fillWithSneezes_33, e_X7_fillWithSneezes_36, e_X7_fillWithSneezes_37, e_X7_fillWithSneezes_38, e_X7_fillWithSneezes_41, e_X7_fillWithSneezes_42, e_X7_fillWithSneezes_45, e_X7_fillWithSneezes_46, e_X7_fillWithSneezes_47, e_X7_fillWithSneezes_49, e_X7_fillWithSneezes_52, e_X7_fillWithSneezes_53, e_X7_fillWithSneezes_56, e_X7_fillWithSneezes_59, ob_77, rk_77_3, ar_80, rk_77_1, ar_78, kcl_i, kcl_r, kcl_l, kcl_0, kcl_n, true_and, and_true, c_soonestOf80 (hmS _ _ _) h8, oS_80]
  have E := k_lq (n := 9) (Q := fun x (w : (Nat → Int32) × Value) => kWP sc (d + 2) 72 12 [.ref 77, .int (Int32.ofNat u), .int (pSo Pn m (-1)), .int (Int32.ofNat x), w.2] [] ((120, cu, su), oS i w.1 F Pn, l, kR f t sp) K) (I := fun x w => w.1 = kfo (fun h A => kuf A (u * 9 + h) (mn (Pn h) (1 + pBe Pn m (pSo Pn m (-1)) h))) x A) (b0 := (A, .retAddr 0)) ?_ rfl
  · obtain ⟨⟨A2, v4⟩, hA, e⟩ := E
    have hA' : A2 = fA Pn m u A := hA
    refine e.trans ?_
    refine e_X7_fillWithSneezes_12.trans ?_
    simp only [e_X7_fillWithSneezes_0, e_X7_fillWithSneezes_1, e_X7_fillWithSneezes_2, e_X7_fillWithSneezes_5, e_X7_fillWithSneezes_6, e_X7_fillWithSneezes_9, e_X7_fillWithSneezes_10, e_X7_fillWithSneezes_11, e_X7_fillWithSneezes_13, e_X7_fillWithSneezes_15, e_X7_fillWithSneezes_18, e_X7_fillWithSneezes_19, e_X7_fillWithSneezes_20, e_X7_fillWithSneezes_21, e_X7_fillWithSneezes_24, e_X7_fillWithSneezes_25, e_X7_fillWithSneezes_26, e_X7_fillWithSneezes_29, e_X7_fillWithSneezes_30, e_X7_fillWithSneezes_32, e_X7_fillWithSneezes_33, e_X7_fillWithSneezes_36, e_X7_fillWithSneezes_37, e_X7_fillWithSneezes_38, e_X7_fillWithSneezes_41, e_X7_fillWithSneezes_42, e_X7_fillWithSneezes_45, e_X7_fillWithSneezes_46, e_X7_fillWithSneezes_47, e_X7_fillWithSneezes_49, e_X7_fillWithSneezes_52, e_X7_fillWithSneezes_53, e_X7_fillWithSneezes_56, e_X7_fillWithSneezes_59, ob_77, rk_77_3, ar_80, rk_77_1, ar_78, kcl_i, kcl_r, kcl_l, kcl_0, kcl_n, true_and, and_true, jp99, if_true, hA']
  · intro x ⟨A2, v4⟩ hx hI
    have hI' : A2 = kfo (fun h A => kuf A (u * 9 + h) (mn (Pn h) (1 + pBe Pn m (pSo Pn m (-1)) h))) x A := hI
    refine ⟨(kuf A2 (u * 9 + x) (mn (Pn x) (1 + pBe Pn m (pSo Pn m (-1)) x)), .int (1 + pBe Pn m (pSo Pn m (-1)) x)), ?_, ?_⟩
    · show kuf A2 (u * 9 + x) (mn (Pn x) (1 + pBe Pn m (pSo Pn m (-1)) x)) = kuf (kfo (fun h A => kuf A (u * 9 + h) (mn (Pn h) (1 + pBe Pn m (pSo Pn m (-1)) h))) x A) (u * 9 + x) (mn (Pn x) (1 + pBe Pn m (pSo Pn m (-1)) x))
      rw [hI']
    · refine e_X7_fillWithSneezes_12.trans ?_
      unfold mn
      simp only [e_X7_fillWithSneezes_0, e_X7_fillWithSneezes_1, e_X7_fillWithSneezes_2, e_X7_fillWithSneezes_5, e_X7_fillWithSneezes_6, e_X7_fillWithSneezes_9, e_X7_fillWithSneezes_10, e_X7_fillWithSneezes_11, e_X7_fillWithSneezes_13, e_X7_fillWithSneezes_15, e_X7_fillWithSneezes_18, e_X7_fillWithSneezes_19, e_X7_fillWithSneezes_20, e_X7_fillWithSneezes_21, e_X7_fillWithSneezes_24, e_X7_fillWithSneezes_25, e_X7_fillWithSneezes_26, e_X7_fillWithSneezes_29, e_X7_fillWithSneezes_30, e_X7_fillWithSneezes_32, e_X7_fillWithSneezes_33, e_X7_fillWithSneezes_36, e_X7_fillWithSneezes_37, e_X7_fillWithSneezes_38, e_X7_fillWithSneezes_41, e_X7_fillWithSneezes_42, e_X7_fillWithSneezes_45, e_X7_fillWithSneezes_46, e_X7_fillWithSneezes_47, e_X7_fillWithSneezes_49, e_X7_fillWithSneezes_52, e_X7_fillWithSneezes_53, e_X7_fillWithSneezes_56, e_X7_fillWithSneezes_59, ob_77, rk_77_3, ar_80, rk_77_1, ar_78, kcl_i, kcl_r, kcl_l, kcl_0, kcl_n, true_and, and_true, jp9 hx, if_false, c_fewestBeside80 (d := d) (hmS _ _ _) h8 pSo_ok hx, oS_80, c_place, m1_ne (show x < 100000 by omega), at9, kin9 hx, cl_n (show x < 100000 by omega), kin2304 (show u * 9 + x < 2304 by omega), cl_n (show u * 9 + x < 100000 by omega), oU_78, true_and, tn_s]
abbrev OT := (Nat → Int32) × (Nat → Int32) × (Nat → Int32)
def fU (le co : Nat → Int32) (m : Nat) (p q : Int32) (u : Nat) (s : OT) : OT := if Int32.ofNat u &&& (p ^^^ (-1)) = 0 then (fA (fP (fF le co s.1 m u s.2.1) m q u s.2.2) m u s.1, fF le co s.1 m u s.2.1, fP (fF le co s.1 m u s.2.1) m q u s.2.2) else s
def fT (le co : Nat → Int32) (m : Nat) (p q : Int32) (k : Nat) (s : OT) : OT := kfo (fun u s => fU le co m p q u s) k s
theorem c_fewestMinutes {k : Nat} {hat q : Int32} (hm : i 5 0 = Int32.ofNat m) (h8 : m ≤ 8) (hk : k < 256) (hh : hat = -1 ∨ ∃ a, a < 8 ∧ hat = Int32.ofNat a) : kCA sc (d + 5) 67 [.ref 77, .int (Int32.ofNat k), .int hat, .int q] y nx hd L st ((120, cu, su), i, l, kR f t sp) K = kWP sc (d + 5) y nx L (.int ((fT (i 9) (i 8) m (Int32.ofNat k) q (k + 1) (i 78, i 79, i 80)).1 (k * 9 + (if hat = -1 then 8 else hat.toNatClampNeg))) :: st) ((120, cu, su), oS i (fT (i 9) (i 8) m (Int32.ofNat k) q (k + 1) (i 78, i 79, i 80)).1 (fT (i 9) (i 8) m (Int32.ofNat k) q (k + 1) (i 78, i 79, i 80)).2.1 (fT (i 9) (i 8) m (Int32.ofNat k) q (k + 1) (i 78, i 79, i 80)).2.2, l, kR f t sp) K := by
  refine kCA_of (d := d + 4) (v := some (.int ((fT (i 9) (i 8) m (Int32.ofNat k) q (k + 1) (i 78, i 79, i 80)).1 (k * 9 + (if hat = -1 then 8 else hat.toNatClampNeg))))) (S2 := ((120, cu, su), oS i (fT (i 9) (i 8) m (Int32.ofNat k) q (k + 1) (i 78, i 79, i 80)).1 (fT (i 9) (i 8) m (Int32.ofNat k) q (k + 1) (i 78, i 79, i 80)).2.1 (fT (i 9) (i 8) m (Int32.ofNat k) q (k + 1) (i 78, i 79, i 80)).2.2, l, kR f t sp)) (fun K => ?_)
  rw [km_67]
  show kWP sc (d + 4) 67 0 [.ref 77, .int (Int32.ofNat k), .int hat, .int q, .retAddr 0] [] _ K = _
  simp only [e_X7_fewestMinutes_0, e_X7_fewestMinutes_1, e_X7_fewestMinutes_5, e_X7_fewestMinutes_6, e_X7_fewestMinutes_9, e_X7_fewestMinutes_11, e_X7_fewestMinutes_12, e_X7_fewestMinutes_13, e_X7_fewestMinutes_14, e_X7_fewestMinutes_15, e_X7_fewestMinutes_18, e_X7_fewestMinutes_19, e_X7_fewestMinutes_21, e_X7_fewestMinutes_22, e_X7_fewestMinutes_25, e_X7_fewestMinutes_26, e_X7_fewestMinutes_28, e_X7_fewestMinutes_31, e_X7_fewestMinutes_34, e_X7_fewestMinutes_37, e_X7_fewestMinutes_38, e_X7_fewestMinutes_41, e_X7_fewestMinutes_42, e_X7_fewestMinutes_43, e_X7_fewestMinutes_46, e_X7_fewestMinutes_47, ob_77, rk_77_1, ar_78, kcl_i, kcl_r, kcl_l, kcl_0, kcl_n, true_and, and_true]
  have F := k_for (P := fun u (s : OT) => kWP sc (d + 4) 67 3 [.ref 77, .int (Int32.ofNat k), .int hat, .int q, .int (Int32.ofNat u)] [] ((120, cu, su), oS i s.1 s.2.1 s.2.2, l, kR f t sp) K) (n := k + 1) (g := fun u s => fU (i 9) (i 8) m (Int32.ofNat k) q u s) (fun u s hu => by
    refine e_X7_fewestMinutes_3.trans ?_
    have c1 : (Int32.ofNat k < Int32.ofNat u) = False := by rw [tn_lt (by omega) (by omega)]; exact eq_false (by omega)
    unfold fU
    by_cases c : Int32.ofNat u &&& (Int32.ofNat k ^^^ (-1)) = 0
    · simp only [e_X7_fewestMinutes_0, e_X7_fewestMinutes_1, e_X7_fewestMinutes_5, e_X7_fewestMinutes_6, e_X7_fewestMinutes_9, e_X7_fewestMinutes_11, e_X7_fewestMinutes_12, e_X7_fewestMinutes_13, e_X7_fewestMinutes_14, e_X7_fewestMinutes_15, e_X7_fewestMinutes_18, e_X7_fewestMinutes_19, e_X7_fewestMinutes_21, e_X7_fewestMinutes_22, e_X7_fewestMinutes_25, e_X7_fewestMinutes_26, e_X7_fewestMinutes_28, e_X7_fewestMinutes_31, e_X7_fewestMinutes_34, e_X7_fewestMinutes_37, e_X7_fewestMinutes_38, e_X7_fewestMinutes_41, e_X7_fewestMinutes_42, e_X7_fewestMinutes_43, e_X7_fewestMinutes_46, e_X7_fewestMinutes_47, ob_77, rk_77_1, ar_78, kcl_i, kcl_r, kcl_l, kcl_0, kcl_n, true_and, and_true, c1, c, not_true_eq_false, if_true, if_false, c_fillPlains (d := d) hm h8 (show u < 256 by omega), c_fillWithSneezes (d := d + 1) hm h8 (show u < 256 by omega), tn_s]
    · simp only [e_X7_fewestMinutes_0, e_X7_fewestMinutes_1, e_X7_fewestMinutes_5, e_X7_fewestMinutes_6, e_X7_fewestMinutes_9, e_X7_fewestMinutes_11, e_X7_fewestMinutes_12, e_X7_fewestMinutes_13, e_X7_fewestMinutes_14, e_X7_fewestMinutes_15, e_X7_fewestMinutes_18, e_X7_fewestMinutes_19, e_X7_fewestMinutes_21, e_X7_fewestMinutes_22, e_X7_fewestMinutes_25, e_X7_fewestMinutes_26, e_X7_fewestMinutes_28, e_X7_fewestMinutes_31, e_X7_fewestMinutes_34, e_X7_fewestMinutes_37, e_X7_fewestMinutes_38, e_X7_fewestMinutes_41, e_X7_fewestMinutes_42, e_X7_fewestMinutes_43, e_X7_fewestMinutes_46, e_X7_fewestMinutes_47, ob_77, rk_77_1, ar_78, kcl_i, kcl_r, kcl_l, kcl_0, kcl_n, true_and, and_true, c1, c, not_false_eq_true, if_true, if_false, tn_s]) (i 78, i 79, i 80)
  dsimp only at F
  rw [oS_g] at F
  refine F.trans ?_
  show kWP sc (d + 4) _ _ _ _ (_, oS i (fT (i 9) (i 8) m (Int32.ofNat k) q (k + 1) (i 78, i 79, i 80)).1 (fT (i 9) (i 8) m (Int32.ofNat k) q (k + 1) (i 78, i 79, i 80)).2.1 (fT (i 9) (i 8) m (Int32.ofNat k) q (k + 1) (i 78, i 79, i 80)).2.2, _, _) K = _
  refine e_X7_fewestMinutes_3.trans ?_
  have c2 : (Int32.ofNat k < Int32.ofNat (k + 1)) = True := by rw [tn_lt (by omega) (by omega)]; exact eq_true (by omega)
  rcases hh with e | ⟨a, ha, e⟩
  · subst e
    have e8 : Int32.ofNat k * 9 + 8 = Int32.ofNat (k * 9 + 8) := at9 (u := 8)
    simp only [e_X7_fewestMinutes_0, e_X7_fewestMinutes_1, e_X7_fewestMinutes_5, e_X7_fewestMinutes_6, e_X7_fewestMinutes_9, e_X7_fewestMinutes_11, e_X7_fewestMinutes_12, e_X7_fewestMinutes_13, e_X7_fewestMinutes_14, e_X7_fewestMinutes_15, e_X7_fewestMinutes_18, e_X7_fewestMinutes_19, e_X7_fewestMinutes_21, e_X7_fewestMinutes_22, e_X7_fewestMinutes_25, e_X7_fewestMinutes_26, e_X7_fewestMinutes_28, e_X7_fewestMinutes_31, e_X7_fewestMinutes_34, e_X7_fewestMinutes_37, e_X7_fewestMinutes_38, e_X7_fewestMinutes_41, e_X7_fewestMinutes_42, e_X7_fewestMinutes_43, e_X7_fewestMinutes_46, e_X7_fewestMinutes_47, ob_77, rk_77_1, ar_78, kcl_i, kcl_r, kcl_l, kcl_0, kcl_n, true_and, and_true, c2, if_true, c_place, e8, kin2304 (show k * 9 + 8 < 2304 by omega), cl_n (show k * 9 + 8 < 100000 by omega), oS_78, true_and]
  · subst e
    simp only [e_X7_fewestMinutes_0, e_X7_fewestMinutes_1, e_X7_fewestMinutes_5, e_X7_fewestMinutes_6, e_X7_fewestMinutes_9, e_X7_fewestMinutes_11, e_X7_fewestMinutes_12, e_X7_fewestMinutes_13, e_X7_fewestMinutes_14, e_X7_fewestMinutes_15, e_X7_fewestMinutes_18, e_X7_fewestMinutes_19, e_X7_fewestMinutes_21, e_X7_fewestMinutes_22, e_X7_fewestMinutes_25, e_X7_fewestMinutes_26, e_X7_fewestMinutes_28, e_X7_fewestMinutes_31, e_X7_fewestMinutes_34, e_X7_fewestMinutes_37, e_X7_fewestMinutes_38, e_X7_fewestMinutes_41, e_X7_fewestMinutes_42, e_X7_fewestMinutes_43, e_X7_fewestMinutes_46, e_X7_fewestMinutes_47, ob_77, rk_77_1, ar_78, kcl_i, kcl_r, kcl_l, kcl_0, kcl_n, true_and, and_true, c2, if_true, if_false, c_place, m1_ne (show a < 100000 by omega), at9, kin2304 (show k * 9 + a < 2304 by omega), cl_n (show k * 9 + a < 100000 by omega), cl_n (show a < 100000 by omega), oS_78, true_and]
end TC
