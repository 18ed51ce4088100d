/-! games counted; candles at rest -/
section TC
variable {sc : Nat × (Nat → Int32)} {d y nx : Nat} {hd : List (Int × Nat)} {L st : List Value} {S : kS} {cu su : Nat} {i : Nat → Nat → Int32} {l : Nat → Nat → Int64} {f t c b m : Nat} {sp : Nat → Nat} {K : Option (Option Value) → kS → Prop}
variable {N M Z S1 Q : Nat → Int32} {i1 i2 i3 : Nat → Nat → Int32} {l2 : Nat → Nat → Int64} {n k x : Nat} {v r : Int32} {zs zs2 : List Int64} {le A B : Nat → Int32}
def gWin (F : Nat → Nat) (x : Nat) (w : Int32 × Int32) : Int32 × Int32 := if 0 < F (x + 1) then (w.1 + 1, w.2) else (w.1, Int32.ofNat (x + 1))
theorem J_wins (h : IV m i l f t sp) (q v : Int32) : JJ 123 235 [.int q, .int v] i l f t sp := by
  by_cases h0 : (¬ q < 1 ∧ ¬ 9 < q) ∧ (¬ v < 1 ∧ ¬ 9 < v)
  · obtain ⟨hq, hv⟩ := id h0
    obtain ⟨a, a1, a9, rfl⟩ := len_nat hq
    obtain ⟨b, b1, b9, rfl⟩ := len_nat hv
    have hG := game_eq (w := (i 82, i 83)) (u := (i 111, i 112)) a9 b9
    have hL := lay_is (a := a) (b := b) (w := (i 111, i 112)) 60
    have hL' : ∀ n, 1 ≤ n → n ≤ 60 → (pLay a b (i 111, i 112)).1 n = Int32.ofNat (wK (pLay a b (i 111, i 112)).2 n (min a (n - 1))) := fun n h1 h2 => (hL n h1 h2).1
    have hE : kfo (gWin (fun n => wK (pFill a b (i 82, i 83)).2 n (min a n))) 60 (0, 0) = kfo (gWin (fun n => wK (pLay a b (i 111, i 112)).2 n (min a (n - 1)))) 60 (0, 0) := by
      apply kfo_congr
      intro x hx w
      unfold gWin
      simp only [(hG (x + 1) (by omega) (by omega)).1]
    generalize hA : kfo (gWin (fun n => wK (pFill a b (i 82, i 83)).2 n (min a n))) 60 (0, 0) = A at hE
    refine JJ_q h A.1 1 (gP i (pFill a b (i 82, i 83))) (hP (uPut (wPut (gP i (pFill a b (i 82, i 83))) 1)) (pLay a b (i 111, i 112))) [A.2.toInt64] rfl (by decide) (ag_gP ag_r) (ag_hP (ag_uu ag_r)) rfl ?_ ?_
    · intro sc d y nx hd L st cu su K
      refine kCA_of (d := d + 499) (v := some (.int _)) (fun K => ?_)
      rw [km_123]
      show kWP sc (d + 499) 123 0 [.ref 0, .int (Int32.ofNat a), .int (Int32.ofNat b), .retAddr 0, .retAddr 0, .retAddr 0] [] _ K = _
      simp only [e_X10_wins_0, e_X10_wins_1, e_X10_wins_4, e_X10_wins_7, e_X10_wins_8, e_X10_wins_11, e_X10_wins_14, e_X10_wins_15, e_X10_wins_16, e_X10_wins_17, e_X10_wins_20, e_X10_wins_21, e_X10_wins_22, e_X10_wins_25, e_X10_wins_26, e_X10_wins_27, e_X10_wins_28, e_X10_wins_30, e_X10_wins_31, e_X10_wins_35, e_X10_wins_37, e_X10_wins_40, e_X10_wins_41, e_X10_wins_44, e_X10_wins_46, e_X10_wins_47, e_X10_wins_50, e_X10_wins_53, e_X10_wins_56, e_X10_wins_59, e_X10_wins_61, e_X10_wins_63, e_X10_wins_66, e_X10_wins_69, e_X10_wins_70, e_X10_wins_73, e_X10_wins_76, e_X10_wins_77, e_X10_wins_80, e_X10_wins_82, e_X10_wins_83, e_X10_wins_86, e_X10_wins_87, ob_0, rk_0_8, ob_81, rk_0_1, ob_3, kcl_i, kcl_r, kcl_l, kcl_0, kcl_n, true_and, and_true, c_isLength, kb_0, hq, hv, not_true_eq_false, not_false_eq_true, and_self, if_false, if_true, c_fill a9 b9]
      refine (k_for (P := fun x (w : Int32 × Int32) => kWP sc (d + 499) 123 33 [.ref 0, .int (Int32.ofNat a), .int (Int32.ofNat b), .int w.1, .int w.2, .int (Int32.ofNat (x + 1))] [] ((120, cu, su), gP i (pFill a b (i 82, i 83)), l, kR f t sp) K) (n := 60) (g := gWin (fun n => wK (pFill a b (i 82, i 83)).2 n (min a n))) ?_ (0, 0)).trans ?_
      · intro x ⟨w1, w2⟩ hx
        have c1 : ((60 : Int32) < Int32.ofNat (x + 1)) = False := by rw [show (60 : Int32) = Int32.ofNat 60 from rfl, tn_lt (by omega) (by omega)]; exact eq_false (by omega)
        have l1 : wK (pFill a b (i 82, i 83)).2 (x + 1) (min a (x + 1)) < 100000 := Nat.lt_of_le_of_lt wK_le (by omega)
        refine e_X10_wins_33.trans ?_
        simp only [e_X10_wins_0, e_X10_wins_1, e_X10_wins_4, e_X10_wins_7, e_X10_wins_8, e_X10_wins_11, e_X10_wins_14, e_X10_wins_15, e_X10_wins_16, e_X10_wins_17, e_X10_wins_20, e_X10_wins_21, e_X10_wins_22, e_X10_wins_25, e_X10_wins_26, e_X10_wins_27, e_X10_wins_28, e_X10_wins_30, e_X10_wins_31, e_X10_wins_35, e_X10_wins_37, e_X10_wins_40, e_X10_wins_41, e_X10_wins_44, e_X10_wins_46, e_X10_wins_47, e_X10_wins_50, e_X10_wins_53, e_X10_wins_56, e_X10_wins_59, e_X10_wins_61, e_X10_wins_63, e_X10_wins_66, e_X10_wins_69, e_X10_wins_70, e_X10_wins_73, e_X10_wins_76, e_X10_wins_77, e_X10_wins_80, e_X10_wins_82, e_X10_wins_83, e_X10_wins_86, e_X10_wins_87, ob_0, rk_0_8, ob_81, rk_0_1, ob_3, kcl_i, kcl_r, kcl_l, kcl_0, kcl_n, true_and, and_true, c1, if_false, c_opening a9 (show x + 1 ≤ 60 by omega), wK_gP83 (show x + 1 ≤ 60 by omega), le0_nat l1, tn_s]
        unfold gWin
        by_cases q : 0 < wK (pFill a b (i 82, i 83)).2 (x + 1) (min a (x + 1))
        · simp only [q, not_true_eq_false, if_true, if_false]
        · simp only [q, not_false_eq_true, if_true, if_false]
      · refine e_X10_wins_33.trans ?_
        simp only [e_X10_wins_0, e_X10_wins_1, e_X10_wins_4, e_X10_wins_7, e_X10_wins_8, e_X10_wins_11, e_X10_wins_14, e_X10_wins_15, e_X10_wins_16, e_X10_wins_17, e_X10_wins_20, e_X10_wins_21, e_X10_wins_22, e_X10_wins_25, e_X10_wins_26, e_X10_wins_27, e_X10_wins_28, e_X10_wins_30, e_X10_wins_31, e_X10_wins_35, e_X10_wins_37, e_X10_wins_40, e_X10_wins_41, e_X10_wins_44, e_X10_wins_46, e_X10_wins_47, e_X10_wins_50, e_X10_wins_53, e_X10_wins_56, e_X10_wins_59, e_X10_wins_61, e_X10_wins_63, e_X10_wins_66, e_X10_wins_69, e_X10_wins_70, e_X10_wins_73, e_X10_wins_76, e_X10_wins_77, e_X10_wins_80, e_X10_wins_82, e_X10_wins_83, e_X10_wins_86, e_X10_wins_87, ob_0, rk_0_8, ob_81, rk_0_1, ob_3, kcl_i, kcl_r, kcl_l, kcl_0, kcl_n, true_and, and_true, show ((60 : Int32) < Int32.ofNat (60 + 1)) = True from eq_true (by decide), if_true, c_start, c_radd (show 0 < 128 by decide), hA]
        rfl
    · intro sc d y nx hd L st cu su K
      have e3 : uPut (wPut (gP i (pFill a b (i 82, i 83))) 1) 111 = i 111 := rfl
      have e4 : uPut (wPut (gP i (pFill a b (i 82, i 83))) 1) 112 = i 112 := rfl
      refine kCA_of (d := d + 499) (v := some (.int _)) (fun K => ?_)
      rw [km_235]
      show kWP sc (d + 499) 235 0 [.ref 91, .int (Int32.ofNat a), .int (Int32.ofNat b), .retAddr 0, .retAddr 0, .retAddr 0] [] _ K = _
      simp only [e_X11_wins_0, e_X11_wins_1, e_X11_wins_2, e_X11_wins_5, e_X11_wins_6, e_X11_wins_7, e_X11_wins_8, e_X11_wins_11, e_X11_wins_14, e_X11_wins_17, e_X11_wins_18, e_X11_wins_19, e_X11_wins_20, e_X11_wins_23, e_X11_wins_26, e_X11_wins_29, e_X11_wins_30, e_X11_wins_31, e_X11_wins_32, e_X11_wins_33, e_X11_wins_34, e_X11_wins_37, e_X11_wins_38, e_X11_wins_39, e_X11_wins_40, e_X11_wins_42, e_X11_wins_43, e_X11_wins_47, e_X11_wins_49, e_X11_wins_52, e_X11_wins_53, e_X11_wins_54, e_X11_wins_57, e_X11_wins_59, e_X11_wins_60, e_X11_wins_63, e_X11_wins_64, e_X11_wins_67, e_X11_wins_68, e_X11_wins_71, e_X11_wins_72, e_X11_wins_73, e_X11_wins_74, e_X11_wins_77, e_X11_wins_79, e_X11_wins_80, e_X11_wins_83, e_X11_wins_85, e_X11_wins_88, e_X11_wins_90, e_X11_wins_92, e_X11_wins_95, e_X11_wins_98, e_X11_wins_99, e_X11_wins_100, e_X11_wins_103, e_X11_wins_104, e_X11_wins_106, e_X11_wins_107, e_X11_wins_110, e_X11_wins_111, ob_91, rk_91_37, ar_111, kcl_i, kcl_r, kcl_l, kcl_0, kcl_n, true_and, and_true, uP_0, l1, l9, m_in, m_inI, kb_0, hq, hv, not_true_eq_false, not_false_eq_true, and_self, if_false, if_true, m_laysGame a9 b9, e3, e4]
      refine (k_for (P := fun x (w : Int32 × Int32) => kWP sc (d + 499) 235 45 [.ref 91, .int (Int32.ofNat a), .int (Int32.ofNat b), .int w.1, .int w.2, .int (Int32.ofNat (x + 1))] [] ((120, cu, su), hP (uPut (wPut (gP i (pFill a b (i 82, i 83))) 1)) (pLay a b (i 111, i 112)), tC l 0 [A.2.toInt64], kR f t sp) K) (n := 60) (g := gWin (fun n => wK (pLay a b (i 111, i 112)).2 n (min a (n - 1)))) ?_ (0, 0)).trans ?_
      · intro x ⟨w1, w2⟩ hx
        have c1 : ((60 : Int32) < Int32.ofNat (x + 1)) = False := by rw [show (60 : Int32) = Int32.ofNat 60 from rfl, tn_lt (by omega) (by omega)]; exact eq_false (by omega)
        have c3 : kin (Int32.ofNat (x + 1)) 61 = True := by rw [tn_kin (by omega)]; exact eq_true (by omega)
        have l1 : wK (pLay a b (i 111, i 112)).2 (x + 1) (min a (x + 1 - 1)) < 100000 := Nat.lt_of_le_of_lt wK_le (by omega)
        refine e_X11_wins_45.trans ?_
        simp only [e_X11_wins_0, e_X11_wins_1, e_X11_wins_2, e_X11_wins_5, e_X11_wins_6, e_X11_wins_7, e_X11_wins_8, e_X11_wins_11, e_X11_wins_14, e_X11_wins_17, e_X11_wins_18, e_X11_wins_19, e_X11_wins_20, e_X11_wins_23, e_X11_wins_26, e_X11_wins_29, e_X11_wins_30, e_X11_wins_31, e_X11_wins_32, e_X11_wins_33, e_X11_wins_34, e_X11_wins_37, e_X11_wins_38, e_X11_wins_39, e_X11_wins_40, e_X11_wins_42, e_X11_wins_43, e_X11_wins_47, e_X11_wins_49, e_X11_wins_52, e_X11_wins_53, e_X11_wins_54, e_X11_wins_57, e_X11_wins_59, e_X11_wins_60, e_X11_wins_63, e_X11_wins_64, e_X11_wins_67, e_X11_wins_68, e_X11_wins_71, e_X11_wins_72, e_X11_wins_73, e_X11_wins_74, e_X11_wins_77, e_X11_wins_79, e_X11_wins_80, e_X11_wins_83, e_X11_wins_85, e_X11_wins_88, e_X11_wins_90, e_X11_wins_92, e_X11_wins_95, e_X11_wins_98, e_X11_wins_99, e_X11_wins_100, e_X11_wins_103, e_X11_wins_104, e_X11_wins_106, e_X11_wins_107, e_X11_wins_110, e_X11_wins_111, ob_91, rk_91_37, ar_111, kcl_i, kcl_r, kcl_l, kcl_0, kcl_n, true_and, and_true, c1, c3, if_false, cl_n (show x + 1 < 100000 by omega), hP_111 (show x + 1 < 61 by omega), hL' (x + 1) (by omega) (by omega), le0_nat l1, m_flag, tn_s]
        unfold gWin
        by_cases q : 0 < wK (pLay a b (i 111, i 112)).2 (x + 1) (min a (x + 1 - 1))
        · simp only [q, z10, not_true_eq_false, if_true, if_false]
        · simp only [q, not_false_eq_true, if_true, if_false, Int32.add_zero]
      · refine e_X11_wins_45.trans ?_
        simp only [e_X11_wins_0, e_X11_wins_1, e_X11_wins_2, e_X11_wins_5, e_X11_wins_6, e_X11_wins_7, e_X11_wins_8, e_X11_wins_11, e_X11_wins_14, e_X11_wins_17, e_X11_wins_18, e_X11_wins_19, e_X11_wins_20, e_X11_wins_23, e_X11_wins_26, e_X11_wins_29, e_X11_wins_30, e_X11_wins_31, e_X11_wins_32, e_X11_wins_33, e_X11_wins_34, e_X11_wins_37, e_X11_wins_38, e_X11_wins_39, e_X11_wins_40, e_X11_wins_42, e_X11_wins_43, e_X11_wins_47, e_X11_wins_49, e_X11_wins_52, e_X11_wins_53, e_X11_wins_54, e_X11_wins_57, e_X11_wins_59, e_X11_wins_60, e_X11_wins_63, e_X11_wins_64, e_X11_wins_67, e_X11_wins_68, e_X11_wins_71, e_X11_wins_72, e_X11_wins_73, e_X11_wins_74, e_X11_wins_77, e_X11_wins_79, e_X11_wins_80, e_X11_wins_83, e_X11_wins_85, e_X11_wins_88, e_X11_wins_90, e_X11_wins_92, e_X11_wins_95, e_X11_wins_98, e_X11_wins_99, e_X11_wins_100, e_X11_wins_103, e_X11_wins_104, e_X11_wins_106, e_X11_wins_107, e_X11_wins_110, e_X11_wins_111, ob_91, rk_91_37, ar_111, kcl_i, kcl_r, kcl_l, kcl_0, kcl_n, true_and, and_true, show ((60 : Int32) < Int32.ofNat (60 + 1)) = True from eq_true (by decide), if_true, vP_0, m_enters (show 0 < 256 by decide), ← hE]
        rfl
  · refine JJ_n h (-1) i (uPut i) ag_r (ag_uu ag_r) rfl rfl ?_ ?_
    · intro sc d y nx hd L st cu su K
      refine kCA_of (d := d + 499) (v := some (.int _)) (fun K => ?_)
      rw [km_123]
      show kWP sc (d + 499) 123 0 [.ref 0, .int q, .int v, .retAddr 0, .retAddr 0, .retAddr 0] [] _ K = _
      simp only [e_X10_wins_0, e_X10_wins_1, e_X10_wins_4, e_X10_wins_7, e_X10_wins_8, e_X10_wins_11, e_X10_wins_14, e_X10_wins_15, e_X10_wins_16, e_X10_wins_17, e_X10_wins_20, e_X10_wins_21, e_X10_wins_22, e_X10_wins_25, e_X10_wins_26, e_X10_wins_27, e_X10_wins_28, e_X10_wins_30, e_X10_wins_31, e_X10_wins_35, e_X10_wins_37, e_X10_wins_40, e_X10_wins_41, e_X10_wins_44, e_X10_wins_46, e_X10_wins_47, e_X10_wins_50, e_X10_wins_53, e_X10_wins_56, e_X10_wins_59, e_X10_wins_61, e_X10_wins_63, e_X10_wins_66, e_X10_wins_69, e_X10_wins_70, e_X10_wins_73, e_X10_wins_76, e_X10_wins_77, e_X10_wins_80, e_X10_wins_82, e_X10_wins_83, e_X10_wins_86, e_X10_wins_87, ob_0, rk_0_8, ob_81, rk_0_1, ob_3, kcl_i, kcl_r, kcl_l, kcl_0, kcl_n, true_and, and_true, c_isLength, kb_0]
      by_cases q3 : ¬ q < 1 ∧ ¬ 9 < q
      · have q4 : ¬ (¬ v < 1 ∧ ¬ 9 < v) := fun e => h0 ⟨q3, e⟩
        simp only [q3, q4, not_true_eq_false, not_false_eq_true, if_true, if_false, and_self]
      · simp only [q3, not_false_eq_true, if_true, if_false]
    · intro sc d y nx hd L st cu su K
      refine kCA_of (d := d + 499) (v := some (.int _)) (fun K => ?_)
      rw [km_235]
      show kWP sc (d + 499) 235 0 [.ref 91, .int q, .int v, .retAddr 0, .retAddr 0, .retAddr 0] [] _ K = _
      simp only [e_X11_wins_0, e_X11_wins_1, e_X11_wins_2, e_X11_wins_5, e_X11_wins_6, e_X11_wins_7, e_X11_wins_8, e_X11_wins_11, e_X11_wins_14, e_X11_wins_17, e_X11_wins_18, e_X11_wins_19, e_X11_wins_20, e_X11_wins_23, e_X11_wins_26, e_X11_wins_29, e_X11_wins_30, e_X11_wins_31, e_X11_wins_32, e_X11_wins_33, e_X11_wins_34, e_X11_wins_37, e_X11_wins_38, e_X11_wins_39, e_X11_wins_40, e_X11_wins_42, e_X11_wins_43, e_X11_wins_47, e_X11_wins_49, e_X11_wins_52, e_X11_wins_53, e_X11_wins_54, e_X11_wins_57, e_X11_wins_59, e_X11_wins_60, e_X11_wins_63, e_X11_wins_64, e_X11_wins_67, e_X11_wins_68, e_X11_wins_71, e_X11_wins_72, e_X11_wins_73, e_X11_wins_74, e_X11_wins_77, e_X11_wins_79, e_X11_wins_80, e_X11_wins_83, e_X11_wins_85, e_X11_wins_88, e_X11_wins_90, e_X11_wins_92, e_X11_wins_95, e_X11_wins_98, e_X11_wins_99, e_X11_wins_100, e_X11_wins_103, e_X11_wins_104, e_X11_wins_106, e_X11_wins_107, e_X11_wins_110, e_X11_wins_111, ob_91, rk_91_37, ar_111, kcl_i, kcl_r, kcl_l, kcl_0, kcl_n, true_and, and_true, uP_0, l1, l9, m_in, m_inI, kb_0]
      by_cases q3 : ¬ q < 1 ∧ ¬ 9 < q
      · have q4 : ¬ (¬ v < 1 ∧ ¬ 9 < v) := fun e => h0 ⟨q3, e⟩
        simp only [q3, q4, not_true_eq_false, not_false_eq_true, if_true, if_false, and_self]
      · simp only [q3, not_true_eq_false, not_false_eq_true, if_true, if_false]
/-! candles -/
def pG (v a b : Int32) : Int32 := v * (if 9 < a + b then 9 else a + b) - (if a < b then a / 2 else a)
theorem min9 {s : Int32} : (if s < 9 then s else 9) = if 9 < s then 9 else s := by
  by_cases q : s < 9
  · rw [if_pos q, if_neg (fun e => Int32.lt_asymm q e)]
  · rw [if_neg q]
    by_cases q2 : 9 < s
    · rw [if_pos q2]
    · rw [if_neg q2]; exact Int32.le_antisymm (Int32.not_lt.1 q) (Int32.not_lt.1 q2)
theorem c_gain {v p q : Int32} : kCA sc (d + 1) 146 [.int v, .int p, .int q] y nx hd L st ((120, cu, su), i, l, kR f t sp) K = kWP sc (d + 1) y nx L (.int (pG v p q) :: st) ((120, cu, su), i, l, kR f t sp) K := by
  refine kCA_of (d := d) (v := some (.int (pG v p q))) (S2 := ((120, cu, su), i, l, kR f t sp)) (fun K => ?_)
  rw [km_146]
  show kWP sc (d) 146 0 [.int v, .int p, .int q, .retAddr 0] [] ((120, cu, su), i, l, kR f t sp) K = K (some (some (.int (pG v p q)))) ((120, cu, su), i, l, kR f t sp)
  simp only [e_X10_candleGain_0, e_X10_candleGain_1, e_X10_candleGain_2, e_X10_candleGain_5, e_X10_candleGain_6, e_X10_candleGain_9, e_X10_candleGain_10, e_X10_candleGain_11, e_X10_candleGain_12, e_X10_candleGain_13, e_X10_candleGain_14, e_X10_candleGain_15, e_X10_candleGain_16, e_X10_candleGain_17, e_X10_candleGain_19, e_X10_candleGain_22, e_X10_candleGain_23, e_X10_candleGain_24, e_X10_candleGain_25, kcl_i, kcl_r, kcl_l, kcl_0, kcl_n, true_and, and_true, two_ne]
  unfold pG
  by_cases q1 : p < q
  · simp only [q1, if_true]
  · simp only [q1, if_false]
theorem m_gets {v p q : Int32} : kCA sc (d + 1) 246 [.int p, .int q, .int v] y nx hd L st ((120, cu, su), i, l, kR f t sp) K = kWP sc (d + 1) y nx L (.int (pG v p q) :: st) ((120, cu, su), i, l, kR f t sp) K := by
  refine kCA_of (d := d) (v := some (.int (pG v p q))) (S2 := ((120, cu, su), i, l, kR f t sp)) (fun K => ?_)
  rw [km_246]
  show kWP sc (d) 246 0 [.int p, .int q, .int v] [] ((120, cu, su), i, l, kR f t sp) K = K (some (some (.int (pG v p q)))) ((120, cu, su), i, l, kR f t sp)
  simp only [e_X11_gets_0, e_X11_gets_1, e_X11_gets_3, e_X11_gets_4, e_X11_gets_5, e_X11_gets_6, e_X11_gets_9, e_X11_gets_10, e_X11_gets_11, e_X11_gets_12, e_X11_gets_15, e_X11_gets_16, e_X11_gets_19, e_X11_gets_20, e_X11_gets_21, e_X11_gets_22, e_X11_gets_23, kcl_i, kcl_r, kcl_l, kcl_0, kcl_n, true_and, and_true, two_ne, min9]
  unfold pG
  by_cases q1 : p < q
  · simp only [q1, if_true]
  · simp only [q1, if_false]
def pBest (v p q : Int32) : Int32 := pFits (fun x => if pG v (Int32.ofNat x) q ≤ pG v p q then 1 else 0) 10
theorem c_isBest {v p q : Int32} : kCA sc (d + 2) 145 [.int v, .int p, .int q] y nx hd L st ((120, cu, su), i, l, kR f t sp) K = kWP sc (d + 2) y nx L (.int (pBest v p q) :: st) ((120, cu, su), i, l, kR f t sp) K := by
  refine kCA_of (d := d + 1) (v := some (.int (pBest v p q))) (S2 := ((120, cu, su), i, l, kR f t sp)) (fun K => ?_)
  rw [km_145]
  show kWP sc (d + 1) 145 0 [.int v, .int p, .int q, .retAddr 0] [] ((120, cu, su), i, l, kR f t sp) K = K (some (some (.int (pBest v p q)))) ((120, cu, su), i, l, kR f t sp)
  simp only [e_X10_isBestAgainst_0, e_X10_isBestAgainst_1, e_X10_isBestAgainst_3, e_X10_isBestAgainst_5, e_X10_isBestAgainst_8, e_X10_isBestAgainst_9, e_X10_isBestAgainst_10, e_X10_isBestAgainst_11, e_X10_isBestAgainst_14, e_X10_isBestAgainst_15, e_X10_isBestAgainst_16, e_X10_isBestAgainst_17, e_X10_isBestAgainst_20, e_X10_isBestAgainst_23, e_X10_isBestAgainst_24, e_X10_isBestAgainst_25, e_X10_isBestAgainst_28, e_X10_isBestAgainst_31, e_X10_isBestAgainst_32, kcl_i, kcl_r, kcl_l, kcl_0, kcl_n, true_and, and_true]
  refine (k_find (P := fun x => kWP sc (d + 1) 145 2 [.int v, .int p, .int q, .int (Int32.ofNat x)] [] ((120, cu, su), i, l, kR f t sp) K) (Q := fun _ => K (some (some (.int 0))) ((120, cu, su), i, l, kR f t sp)) (p := fun x => (if pG v (Int32.ofNat x) q ≤ pG v p q then (1 : Int32) else 0) = 0) (n := 10) ?_).trans ?_
  · intro x hx
    have c1 : ((9 : Int32) < Int32.ofNat x) = False := by rw [show (9 : Int32) = Int32.ofNat 9 from rfl, tn_lt (by omega) (by omega)]; exact eq_false (by omega)
    refine e_X10_isBestAgainst_2.trans ?_
    simp only [e_X10_isBestAgainst_0, e_X10_isBestAgainst_1, e_X10_isBestAgainst_3, e_X10_isBestAgainst_5, e_X10_isBestAgainst_8, e_X10_isBestAgainst_9, e_X10_isBestAgainst_10, e_X10_isBestAgainst_11, e_X10_isBestAgainst_14, e_X10_isBestAgainst_15, e_X10_isBestAgainst_16, e_X10_isBestAgainst_17, e_X10_isBestAgainst_20, e_X10_isBestAgainst_23, e_X10_isBestAgainst_24, e_X10_isBestAgainst_25, e_X10_isBestAgainst_28, e_X10_isBestAgainst_31, e_X10_isBestAgainst_32, kcl_i, kcl_r, kcl_l, kcl_0, kcl_n, true_and, and_true, c1, if_false, c_gain, kbool_0, tn_s]
    by_cases q1 : pG v (Int32.ofNat x) q ≤ pG v p q
    · simp only [q1, if_true, z10, if_false]
    · simp only [q1, if_true, if_false]
  · unfold pBest pFits
    cases kfi (fun x => (if pG v (Int32.ofNat x) q ≤ pG v p q then (1 : Int32) else 0) = 0) 10 0 with
    | some y => rfl
    | none =>
      refine e_X10_isBestAgainst_2.trans ?_
      simp only [e_X10_isBestAgainst_0, e_X10_isBestAgainst_1, e_X10_isBestAgainst_3, e_X10_isBestAgainst_5, e_X10_isBestAgainst_8, e_X10_isBestAgainst_9, e_X10_isBestAgainst_10, e_X10_isBestAgainst_11, e_X10_isBestAgainst_14, e_X10_isBestAgainst_15, e_X10_isBestAgainst_16, e_X10_isBestAgainst_17, e_X10_isBestAgainst_20, e_X10_isBestAgainst_23, e_X10_isBestAgainst_24, e_X10_isBestAgainst_25, e_X10_isBestAgainst_28, e_X10_isBestAgainst_31, e_X10_isBestAgainst_32, kcl_i, kcl_r, kcl_l, kcl_0, kcl_n, true_and, and_true, show ((9 : Int32) < Int32.ofNat 10) = True from eq_true (by decide), if_true, kbool_1]
theorem pBest_01 {v p q : Int32} : pBest v p q = 0 ∨ pBest v p q = 1 := by
  unfold pBest pFits; split
  · exact Or.inl rfl
  · exact Or.inr rfl
theorem m_isRest {v p q : Int32} : kCA sc (d + 2) 247 [.int p, .int q, .int v] y nx hd L st ((120, cu, su), i, l, kR f t sp) K = kWP sc (d + 2) y nx L (.int (pBest v p q) :: st) ((120, cu, su), i, l, kR f t sp) K := by
  refine kCA_of (d := d + 1) (v := some (.int (pBest v p q))) (S2 := ((120, cu, su), i, l, kR f t sp)) (fun K => ?_)
  rw [km_247]
  show kWP sc (d + 1) 247 0 [.int p, .int q, .int v, .retAddr 0, .retAddr 0] [] ((120, cu, su), i, l, kR f t sp) K = K (some (some (.int (pBest v p q)))) ((120, cu, su), i, l, kR f t sp)
  simp only [e_X11_isRest_0, e_X11_isRest_1, e_X11_isRest_2, e_X11_isRest_3, e_X11_isRest_7, e_X11_isRest_9, e_X11_isRest_12, e_X11_isRest_13, e_X11_isRest_16, e_X11_isRest_18, e_X11_isRest_19, e_X11_isRest_20, e_X11_isRest_23, e_X11_isRest_24, e_X11_isRest_25, e_X11_isRest_26, e_X11_isRest_29, e_X11_isRest_32, e_X11_isRest_33, e_X11_isRest_36, e_X11_isRest_37, e_X11_isRest_38, e_X11_isRest_41, e_X11_isRest_44, e_X11_isRest_45, kcl_i, kcl_r, kcl_l, kcl_0, kcl_n, true_and, and_true]
  refine (k_for (P := fun x (s : Int32) => kWP sc (d + 1) 247 5 [.int p, .int q, .int v, .int s, .int (Int32.ofNat x)] [] ((120, cu, su), i, l, kR f t sp) K) (n := 10) (g := fun x s => if s = 0 then 0 else if (if pG v (Int32.ofNat x) q ≤ pG v p q then (1 : Int32) else 0) = 0 then 0 else 1) ?_ 1).trans ?_
  · intro x s hx
    have c1 : ((9 : Int32) < Int32.ofNat x) = False := by rw [show (9 : Int32) = Int32.ofNat 9 from rfl, tn_lt (by omega) (by omega)]; exact eq_false (by omega)
    refine e_X11_isRest_5.trans ?_
    simp only [e_X11_isRest_0, e_X11_isRest_1, e_X11_isRest_2, e_X11_isRest_3, e_X11_isRest_7, e_X11_isRest_9, e_X11_isRest_12, e_X11_isRest_13, e_X11_isRest_16, e_X11_isRest_18, e_X11_isRest_19, e_X11_isRest_20, e_X11_isRest_23, e_X11_isRest_24, e_X11_isRest_25, e_X11_isRest_26, e_X11_isRest_29, e_X11_isRest_32, e_X11_isRest_33, e_X11_isRest_36, e_X11_isRest_37, e_X11_isRest_38, e_X11_isRest_41, e_X11_isRest_44, e_X11_isRest_45, kcl_i, kcl_r, kcl_l, kcl_0, kcl_n, true_and, and_true, c1, if_false, m_gets, tn_s]
    by_cases q0 : s = 0
    · simp only [q0, if_true]
    · by_cases q1 : pG v (Int32.ofNat x) q ≤ pG v p q
      · have q2 : ¬ pG v p q < pG v (Int32.ofNat x) q := Int32.not_lt.2 q1
        simp only [q0, q1, q2, if_true, z10, if_false]
      · have q2 : pG v p q < pG v (Int32.ofNat x) q := Int32.not_le.1 q1
        simp only [q0, q1, q2, if_true, if_false]
  · rw [pFits_fold (F := fun x => if pG v (Int32.ofNat x) q ≤ pG v p q then (1 : Int32) else 0)]
    refine e_X11_isRest_5.trans ?_
    simp only [e_X11_isRest_0, e_X11_isRest_1, e_X11_isRest_2, e_X11_isRest_3, e_X11_isRest_7, e_X11_isRest_9, e_X11_isRest_12, e_X11_isRest_13, e_X11_isRest_16, e_X11_isRest_18, e_X11_isRest_19, e_X11_isRest_20, e_X11_isRest_23, e_X11_isRest_24, e_X11_isRest_25, e_X11_isRest_26, e_X11_isRest_29, e_X11_isRest_32, e_X11_isRest_33, e_X11_isRest_36, e_X11_isRest_37, e_X11_isRest_38, e_X11_isRest_41, e_X11_isRest_44, e_X11_isRest_45, kcl_i, kcl_r, kcl_l, kcl_0, kcl_n, true_and, and_true, show ((9 : Int32) < Int32.ofNat 10) = True from eq_true (by decide), if_true, show pFits (fun x => if pG v (Int32.ofNat x) q ≤ pG v p q then (1 : Int32) else 0) 10 = pBest v p q from rfl, kbool_01 pBest_01]
def gRs (v : Int32) (x z : Nat) (w : Nat × List Int64) : Nat × List Int64 := if pBest v (Int32.ofNat x) (Int32.ofNat z) = 0 then w else if pBest v (Int32.ofNat z) (Int32.ofNat x) = 0 then w else (w.1 + 1, if w.1 = 0 then [(Int32.ofNat x).toInt64, (Int32.ofNat z).toInt64] else w.2)
def gRt (v : Int32) (x : Nat) (w : Nat × List Int64) : Nat × List Int64 := kfo (gRs v x) 10 w
def rsOk (k : Nat) (w : Nat × List Int64) : Prop := w.1 ≤ k ∧ (w.1 = 0 → w.2 = []) ∧ (¬ w.1 = 0 → w.2.length = 2)
theorem gRs_ok {w : Nat × List Int64} {z : Nat} (h : rsOk k w) : rsOk (k + 1) (gRs v x z w) := by
  obtain ⟨h1, h2, h3⟩ := h
  unfold gRs
  split
  · exact ⟨by omega, h2, h3⟩
  · split
    · exact ⟨by omega, h2, h3⟩
    · refine ⟨by show w.1 + 1 ≤ k + 1; omega, fun e => absurd e (by show ¬ w.1 + 1 = 0; omega), fun _ => ?_⟩
      show (if w.1 = 0 then [(Int32.ofNat x).toInt64, (Int32.ofNat z).toInt64] else w.2).length = 2
      by_cases q : w.1 = 0
      · rw [if_pos q]; rfl
      · rw [if_neg q]; exact h3 q
theorem kfo_s {α : Type} {g : Nat → α → α} {n : Nat} {a : α} : kfo g (n + 1) a = g n (kfo g n a) := rfl
theorem gRt_e {w : Nat × List Int64} : kfo (gRs v x) 10 w = gRt v x w := rfl
theorem nineF {x : Nat} (hx : x < 10) : ((9 : Int32) < Int32.ofNat x) = False := by rw [show (9 : Int32) = Int32.ofNat 9 from rfl, tn_lt (by omega) (by omega)]; exact eq_false (by omega)
theorem nineT : ((9 : Int32) < Int32.ofNat 10) = True := eq_true (by decide)
theorem J_rests (h : IV m i l f t sp) (v : Int32) : JJ 131 248 [.int v] i l f t sp := by
  by_cases h0 : ¬ v < 0 ∧ ¬ 9 < v
  · have h9 : v ≤ 9 := Int32.not_lt.1 h0.2
    generalize hA : kfo (gRt v) 10 (0, []) = A
    have stepC : ∀ (sc : Nat × (Nat → Int32)) (d cu su : Nat) (K : Option (Option Value) → kS → Prop) (x z : Nat) (w : Nat × List Int64), x < 10 → z < 10 → w.1 < 1000 → rsOk w.1 w → kWP sc (d + 499) 131 32 [.ref 0, .int v, .int (Int32.ofNat w.1), .int (Int32.ofNat x), .int (Int32.ofNat z)] [] ((120, cu, su), wPut i w.2.length, tC l 0 w.2, kR f t sp) K = kWP sc (d + 499) 131 32 [.ref 0, .int v, .int (Int32.ofNat (gRs v x z w).1), .int (Int32.ofNat x), .int (Int32.ofNat (z + 1))] [] ((120, cu, su), wPut i (gRs v x z w).2.length, tC l 0 (gRs v x z w).2, kR f t sp) K := by
      intro sc d cu su K x z w hx hz hw hok
      refine e_X10_rests_32.trans ?_
      simp only [e_X10_rests_0, e_X10_rests_1, e_X10_rests_4, e_X10_rests_5, e_X10_rests_7, e_X10_rests_10, e_X10_rests_11, e_X10_rests_12, e_X10_rests_13, e_X10_rests_14, e_X10_rests_15, e_X10_rests_18, e_X10_rests_21, e_X10_rests_22, e_X10_rests_24, e_X10_rests_26, e_X10_rests_29, e_X10_rests_30, e_X10_rests_34, e_X10_rests_36, e_X10_rests_39, e_X10_rests_40, e_X10_rests_41, e_X10_rests_43, e_X10_rests_46, e_X10_rests_49, e_X10_rests_50, e_X10_rests_52, e_X10_rests_53, e_X10_rests_56, e_X10_rests_59, e_X10_rests_60, e_X10_rests_63, e_X10_rests_64, e_X10_rests_67, e_X10_rests_68, e_X10_rests_69, e_X10_rests_72, e_X10_rests_73, e_X10_rests_76, e_X10_rests_78, e_X10_rests_79, e_X10_rests_82, e_X10_rests_85, e_X10_rests_88, e_X10_rests_91, e_X10_rests_94, e_X10_rests_97, e_X10_rests_98, ob_0, rk_0_1, ob_3, kcl_i, kcl_r, kcl_l, kcl_0, kcl_n, true_and, and_true, nineF hz, if_false, c_isBest, tn_s, tn_z (show w.1 < 2147483648 by omega)]
      unfold gRs
      by_cases q1 : pBest v (Int32.ofNat x) (Int32.ofNat z) = 0
      · simp only [q1, if_true]
      · by_cases q2 : pBest v (Int32.ofNat z) (Int32.ofNat x) = 0
        · simp only [q1, q2, if_true, if_false]
        · by_cases q3 : w.1 = 0
          · have e := hok.2.1 q3
            simp only [q1, q2, q3, if_true, if_false, e, List.length_nil, c_radd (show 0 < 128 by decide), c_radd (show 0 + 1 < 128 by decide), e_X10_rests_0, e_X10_rests_1, e_X10_rests_4, e_X10_rests_5, e_X10_rests_7, e_X10_rests_10, e_X10_rests_11, e_X10_rests_12, e_X10_rests_13, e_X10_rests_14, e_X10_rests_15, e_X10_rests_18, e_X10_rests_21, e_X10_rests_22, e_X10_rests_24, e_X10_rests_26, e_X10_rests_29, e_X10_rests_30, e_X10_rests_34, e_X10_rests_36, e_X10_rests_39, e_X10_rests_40, e_X10_rests_41, e_X10_rests_43, e_X10_rests_46, e_X10_rests_49, e_X10_rests_50, e_X10_rests_52, e_X10_rests_53, e_X10_rests_56, e_X10_rests_59, e_X10_rests_60, e_X10_rests_63, e_X10_rests_64, e_X10_rests_67, e_X10_rests_68, e_X10_rests_69, e_X10_rests_72, e_X10_rests_73, e_X10_rests_76, e_X10_rests_78, e_X10_rests_79, e_X10_rests_82, e_X10_rests_85, e_X10_rests_88, e_X10_rests_91, e_X10_rests_94, e_X10_rests_97, e_X10_rests_98, ob_0, rk_0_1, ob_3, kcl_i, kcl_r, kcl_l, kcl_0, kcl_n, true_and, and_true, tn_s]
            rfl
          · simp only [q1, q2, q3, if_false, tn_s]
    have stepM : ∀ (sc : Nat × (Nat → Int32)) (d cu su : Nat) (K : Option (Option Value) → kS → Prop) (i : Nat → Nat → Int32) (l : Nat → Nat → Int64) (x z : Nat) (w : Nat × List Int64), x < 10 → z < 10 → w.1 < 1000 → rsOk w.1 w → kWP sc (d + 499) 248 37 [.ref 91, .int v, .int (Int32.ofNat w.1), .int (Int32.ofNat x), .int (Int32.ofNat z)] [] ((120, cu, su), vPut i w.2.length, tR l 0 w.2, kR f t sp) K = kWP sc (d + 499) 248 37 [.ref 91, .int v, .int (Int32.ofNat (gRs v x z w).1), .int (Int32.ofNat x), .int (Int32.ofNat (z + 1))] [] ((120, cu, su), vPut i (gRs v x z w).2.length, tR l 0 (gRs v x z w).2, kR f t sp) K := by
      intro sc d cu su K i l x z w hx hz hw hok
      refine e_X11_rests_37.trans ?_
      simp only [e_X11_rests_0, e_X11_rests_1, e_X11_rests_2, e_X11_rests_5, e_X11_rests_6, e_X11_rests_7, e_X11_rests_8, e_X11_rests_11, e_X11_rests_14, e_X11_rests_17, e_X11_rests_18, e_X11_rests_19, e_X11_rests_20, e_X11_rests_21, e_X11_rests_22, e_X11_rests_23, e_X11_rests_26, e_X11_rests_27, e_X11_rests_29, e_X11_rests_31, e_X11_rests_34, e_X11_rests_35, e_X11_rests_39, e_X11_rests_41, e_X11_rests_44, e_X11_rests_45, e_X11_rests_47, e_X11_rests_48, e_X11_rests_51, e_X11_rests_54, e_X11_rests_56, e_X11_rests_57, e_X11_rests_58, e_X11_rests_61, e_X11_rests_64, e_X11_rests_65, e_X11_rests_68, e_X11_rests_69, e_X11_rests_70, e_X11_rests_71, e_X11_rests_74, e_X11_rests_75, e_X11_rests_77, e_X11_rests_78, e_X11_rests_81, e_X11_rests_84, e_X11_rests_87, e_X11_rests_90, e_X11_rests_93, e_X11_rests_96, e_X11_rests_97, ob_91, kcl_i, kcl_r, kcl_l, kcl_0, kcl_n, true_and, and_true, nineF hz, if_false, m_isRest, tn_s, tn_z (show w.1 < 2147483648 by omega)]
      unfold gRs
      by_cases q1 : pBest v (Int32.ofNat x) (Int32.ofNat z) = 0
      · simp only [q1, if_true]
      · by_cases q2 : pBest v (Int32.ofNat z) (Int32.ofNat x) = 0
        · simp only [q1, q2, if_true, if_false]
        · by_cases q3 : w.1 = 0
          · have e := hok.2.1 q3
            simp only [q1, q2, q3, if_true, if_false, e, List.length_nil, m_enters (show 0 < 256 by decide), m_enters (show 0 + 1 < 256 by decide), e_X11_rests_0, e_X11_rests_1, e_X11_rests_2, e_X11_rests_5, e_X11_rests_6, e_X11_rests_7, e_X11_rests_8, e_X11_rests_11, e_X11_rests_14, e_X11_rests_17, e_X11_rests_18, e_X11_rests_19, e_X11_rests_20, e_X11_rests_21, e_X11_rests_22, e_X11_rests_23, e_X11_rests_26, e_X11_rests_27, e_X11_rests_29, e_X11_rests_31, e_X11_rests_34, e_X11_rests_35, e_X11_rests_39, e_X11_rests_41, e_X11_rests_44, e_X11_rests_45, e_X11_rests_47, e_X11_rests_48, e_X11_rests_51, e_X11_rests_54, e_X11_rests_56, e_X11_rests_57, e_X11_rests_58, e_X11_rests_61, e_X11_rests_64, e_X11_rests_65, e_X11_rests_68, e_X11_rests_69, e_X11_rests_70, e_X11_rests_71, e_X11_rests_74, e_X11_rests_75, e_X11_rests_77, e_X11_rests_78, e_X11_rests_81, e_X11_rests_84, e_X11_rests_87, e_X11_rests_90, e_X11_rests_93, e_X11_rests_96, e_X11_rests_97, ob_91, kcl_i, kcl_r, kcl_l, kcl_0, kcl_n, true_and, and_true, tn_s]
            rfl
          · simp only [q1, q2, q3, if_false, tn_s]
    have ok1 : ∀ x w, rsOk (10 * x) w → rsOk (10 * (x + 1)) (gRt v x w) := by
      intro x w hw
      have := kfo_inv (g := gRs v x) (n := 10) (a := w) (I := fun z w => rsOk (10 * x + z) w) (fun z w _ hw => gRs_ok hw) hw
      rw [show 10 * (x + 1) = 10 * x + 10 by omega]; exact this
    have okA : rsOk 100 A := by
      rw [← hA]
      exact kfo_inv (g := gRt v) (n := 10) (a := (0, [])) (I := fun x w => rsOk (10 * x) w) (fun x w _ hw => ok1 x w hw) ⟨Nat.le_refl 0, fun _ => rfl, fun e => absurd rfl e⟩
    have hlen : A.2.length ≤ 128 := by
      by_cases q : A.1 = 0
      · rw [okA.2.1 q]; decide
      · rw [okA.2.2 q]; decide
    have wk : ∀ {k : Nat} {w : Nat × List Int64}, rsOk k w → rsOk w.1 w := fun h => ⟨Nat.le_refl _, h.2⟩
    refine JJ_q h (Int32.ofNat A.1) A.2.length i (uPut (wPut i A.2.length)) A.2 rfl hlen ag_r (ag_uu ag_r) rfl ?_ ?_
    · intro sc d y nx hd L st cu su K
      refine kCA_of (d := d + 499) (v := some (.int _)) (fun K => ?_)
      rw [km_131]
      show kWP sc (d + 499) 131 0 [.ref 0, .int v, .retAddr 0, .retAddr 0, .retAddr 0] [] _ K = _
      simp only [e_X10_rests_0, e_X10_rests_1, e_X10_rests_4, e_X10_rests_5, e_X10_rests_7, e_X10_rests_10, e_X10_rests_11, e_X10_rests_12, e_X10_rests_13, e_X10_rests_14, e_X10_rests_15, e_X10_rests_18, e_X10_rests_21, e_X10_rests_22, e_X10_rests_24, e_X10_rests_26, e_X10_rests_29, e_X10_rests_30, e_X10_rests_34, e_X10_rests_36, e_X10_rests_39, e_X10_rests_40, e_X10_rests_41, e_X10_rests_43, e_X10_rests_46, e_X10_rests_49, e_X10_rests_50, e_X10_rests_52, e_X10_rests_53, e_X10_rests_56, e_X10_rests_59, e_X10_rests_60, e_X10_rests_63, e_X10_rests_64, e_X10_rests_67, e_X10_rests_68, e_X10_rests_69, e_X10_rests_72, e_X10_rests_73, e_X10_rests_76, e_X10_rests_78, e_X10_rests_79, e_X10_rests_82, e_X10_rests_85, e_X10_rests_88, e_X10_rests_91, e_X10_rests_94, e_X10_rests_97, e_X10_rests_98, ob_0, rk_0_1, ob_3, kcl_i, kcl_r, kcl_l, kcl_0, kcl_n, true_and, and_true, h0.1, h9, if_true, if_false, c_start]
      have E := k_lq (n := 10) (Q := fun x (w : (Nat × List Int64) × Value) => kWP sc (d + 499) 131 23 [.ref 0, .int v, .int (Int32.ofNat w.1.1), .int (Int32.ofNat x), w.2] [] ((120, cu, su), wPut i w.1.2.length, tC l 0 w.1.2, kR f t sp) K) (I := fun x w => w.1 = kfo (gRt v) x (0, []) ∧ rsOk (10 * x) w.1) (b0 := ((0, []), .retAddr 0)) ?_ ⟨rfl, Nat.le_refl 0, fun _ => rfl, fun e => absurd rfl e⟩
      · obtain ⟨⟨w, v4⟩, ⟨hw, _⟩, e⟩ := E
        have hw' : w = A := hw.trans hA
        refine e.trans ?_
        refine e_X10_rests_23.trans ?_
        simp only [e_X10_rests_0, e_X10_rests_1, e_X10_rests_4, e_X10_rests_5, e_X10_rests_7, e_X10_rests_10, e_X10_rests_11, e_X10_rests_12, e_X10_rests_13, e_X10_rests_14, e_X10_rests_15, e_X10_rests_18, e_X10_rests_21, e_X10_rests_22, e_X10_rests_24, e_X10_rests_26, e_X10_rests_29, e_X10_rests_30, e_X10_rests_34, e_X10_rests_36, e_X10_rests_39, e_X10_rests_40, e_X10_rests_41, e_X10_rests_43, e_X10_rests_46, e_X10_rests_49, e_X10_rests_50, e_X10_rests_52, e_X10_rests_53, e_X10_rests_56, e_X10_rests_59, e_X10_rests_60, e_X10_rests_63, e_X10_rests_64, e_X10_rests_67, e_X10_rests_68, e_X10_rests_69, e_X10_rests_72, e_X10_rests_73, e_X10_rests_76, e_X10_rests_78, e_X10_rests_79, e_X10_rests_82, e_X10_rests_85, e_X10_rests_88, e_X10_rests_91, e_X10_rests_94, e_X10_rests_97, e_X10_rests_98, ob_0, rk_0_1, ob_3, kcl_i, kcl_r, kcl_l, kcl_0, kcl_n, true_and, and_true, nineT, if_true]
        rw [hw']
      · intro x ⟨w, v4⟩ hx hI
        obtain ⟨hI1, hI2⟩ := hI
        have hI1' : w = kfo (gRt v) x (0, []) := hI1
        have hI2' : rsOk (10 * x) w := hI2
        have hok := ok1 x w hI2'
        obtain ⟨w', hw'⟩ : ∃ w', gRt v x w = w' := ⟨_, rfl⟩
        rw [hw'] at hok
        refine ⟨(w', .int (Int32.ofNat 10)), ⟨?_, hok⟩, ?_⟩
        · rw [kfo_s, ← hI1', hw']
        · refine e_X10_rests_23.trans ?_
          simp only [e_X10_rests_0, e_X10_rests_1, e_X10_rests_4, e_X10_rests_5, e_X10_rests_7, e_X10_rests_10, e_X10_rests_11, e_X10_rests_12, e_X10_rests_13, e_X10_rests_14, e_X10_rests_15, e_X10_rests_18, e_X10_rests_21, e_X10_rests_22, e_X10_rests_24, e_X10_rests_26, e_X10_rests_29, e_X10_rests_30, e_X10_rests_34, e_X10_rests_36, e_X10_rests_39, e_X10_rests_40, e_X10_rests_41, e_X10_rests_43, e_X10_rests_46, e_X10_rests_49, e_X10_rests_50, e_X10_rests_52, e_X10_rests_53, e_X10_rests_56, e_X10_rests_59, e_X10_rests_60, e_X10_rests_63, e_X10_rests_64, e_X10_rests_67, e_X10_rests_68, e_X10_rests_69, e_X10_rests_72, e_X10_rests_73, e_X10_rests_76, e_X10_rests_78, e_X10_rests_79, e_X10_rests_82, e_X10_rests_85, e_X10_rests_88, e_X10_rests_91, e_X10_rests_94, e_X10_rests_97, e_X10_rests_98, ob_0, rk_0_1, ob_3, kcl_i, kcl_r, kcl_l, kcl_0, kcl_n, true_and, and_true, nineF hx, if_false]
          have F := (k_forI (P := fun z (w : Nat × List Int64) => kWP sc (d + 499) 131 32 [.ref 0, .int v, .int (Int32.ofNat w.1), .int (Int32.ofNat x), .int (Int32.ofNat z)] [] ((120, cu, su), wPut i w.2.length, tC l 0 w.2, kR f t sp) K) (n := 10) (g := gRs v x) (I := fun z w => rsOk (10 * x + z) w) (fun z w hz hw => ⟨stepC sc d cu su K x z w hx hz (by have := hw.1; omega) (wk hw), gRs_ok hw⟩) w hI2').1
          rw [gRt_e, hw'] at F
          refine F.trans ?_
          refine e_X10_rests_32.trans ?_
          simp only [e_X10_rests_0, e_X10_rests_1, e_X10_rests_4, e_X10_rests_5, e_X10_rests_7, e_X10_rests_10, e_X10_rests_11, e_X10_rests_12, e_X10_rests_13, e_X10_rests_14, e_X10_rests_15, e_X10_rests_18, e_X10_rests_21, e_X10_rests_22, e_X10_rests_24, e_X10_rests_26, e_X10_rests_29, e_X10_rests_30, e_X10_rests_34, e_X10_rests_36, e_X10_rests_39, e_X10_rests_40, e_X10_rests_41, e_X10_rests_43, e_X10_rests_46, e_X10_rests_49, e_X10_rests_50, e_X10_rests_52, e_X10_rests_53, e_X10_rests_56, e_X10_rests_59, e_X10_rests_60, e_X10_rests_63, e_X10_rests_64, e_X10_rests_67, e_X10_rests_68, e_X10_rests_69, e_X10_rests_72, e_X10_rests_73, e_X10_rests_76, e_X10_rests_78, e_X10_rests_79, e_X10_rests_82, e_X10_rests_85, e_X10_rests_88, e_X10_rests_91, e_X10_rests_94, e_X10_rests_97, e_X10_rests_98, ob_0, rk_0_1, ob_3, kcl_i, kcl_r, kcl_l, kcl_0, kcl_n, true_and, and_true, nineT, if_true, tn_s]
    · intro sc d y nx hd L st cu su K
      refine kCA_of (d := d + 499) (v := some (.int _)) (fun K => ?_)
      rw [km_248]
      show kWP sc (d + 499) 248 0 [.ref 91, .int v, .retAddr 0, .retAddr 0, .retAddr 0] [] _ K = _
      simp only [e_X11_rests_0, e_X11_rests_1, e_X11_rests_2, e_X11_rests_5, e_X11_rests_6, e_X11_rests_7, e_X11_rests_8, e_X11_rests_11, e_X11_rests_14, e_X11_rests_17, e_X11_rests_18, e_X11_rests_19, e_X11_rests_20, e_X11_rests_21, e_X11_rests_22, e_X11_rests_23, e_X11_rests_26, e_X11_rests_27, e_X11_rests_29, e_X11_rests_31, e_X11_rests_34, e_X11_rests_35, e_X11_rests_39, e_X11_rests_41, e_X11_rests_44, e_X11_rests_45, e_X11_rests_47, e_X11_rests_48, e_X11_rests_51, e_X11_rests_54, e_X11_rests_56, e_X11_rests_57, e_X11_rests_58, e_X11_rests_61, e_X11_rests_64, e_X11_rests_65, e_X11_rests_68, e_X11_rests_69, e_X11_rests_70, e_X11_rests_71, e_X11_rests_74, e_X11_rests_75, e_X11_rests_77, e_X11_rests_78, e_X11_rests_81, e_X11_rests_84, e_X11_rests_87, e_X11_rests_90, e_X11_rests_93, e_X11_rests_96, e_X11_rests_97, ob_91, kcl_i, kcl_r, kcl_l, kcl_0, kcl_n, true_and, and_true, uP_0, l0, l9, m_in, m_inI, kb_0, h0, not_true_eq_false, not_false_eq_true, and_self, if_false, vP_0]
      have E := k_lq (n := 10) (Q := fun x (w : (Nat × List Int64) × Value) => kWP sc (d + 499) 248 28 [.ref 91, .int v, .int (Int32.ofNat w.1.1), .int (Int32.ofNat x), w.2] [] ((120, cu, su), vPut (uPut (wPut i A.2.length)) w.1.2.length, tR (tC l 0 A.2) 0 w.1.2, kR f t sp) K) (I := fun x w => w.1 = kfo (gRt v) x (0, []) ∧ rsOk (10 * x) w.1) (b0 := ((0, []), .retAddr 0)) ?_ ⟨rfl, Nat.le_refl 0, fun _ => rfl, fun e => absurd rfl e⟩
      · obtain ⟨⟨w, v4⟩, ⟨hw, _⟩, e⟩ := E
        have hw' : w = A := hw.trans hA
        refine e.trans ?_
        refine e_X11_rests_28.trans ?_
        simp only [e_X11_rests_0, e_X11_rests_1, e_X11_rests_2, e_X11_rests_5, e_X11_rests_6, e_X11_rests_7, e_X11_rests_8, e_X11_rests_11, e_X11_rests_14, e_X11_rests_17, e_X11_rests_18, e_X11_rests_19, e_X11_rests_20, e_X11_rests_21, e_X11_rests_22, e_X11_rests_23, e_X11_rests_26, e_X11_rests_27, e_X11_rests_29, e_X11_rests_31, e_X11_rests_34, e_X11_rests_35, e_X11_rests_39, e_X11_rests_41, e_X11_rests_44, e_X11_rests_45, e_X11_rests_47, e_X11_rests_48, e_X11_rests_51, e_X11_rests_54, e_X11_rests_56, e_X11_rests_57, e_X11_rests_58, e_X11_rests_61, e_X11_rests_64, e_X11_rests_65, e_X11_rests_68, e_X11_rests_69, e_X11_rests_70, e_X11_rests_71, e_X11_rests_74, e_X11_rests_75, e_X11_rests_77, e_X11_rests_78, e_X11_rests_81, e_X11_rests_84, e_X11_rests_87, e_X11_rests_90, e_X11_rests_93, e_X11_rests_96, e_X11_rests_97, ob_91, kcl_i, kcl_r, kcl_l, kcl_0, kcl_n, true_and, and_true, nineT, if_true]
        rw [hw']
      · intro x ⟨w, v4⟩ hx hI
        obtain ⟨hI1, hI2⟩ := hI
        have hI1' : w = kfo (gRt v) x (0, []) := hI1
        have hI2' : rsOk (10 * x) w := hI2
        have hok := ok1 x w hI2'
        obtain ⟨w', hw'⟩ : ∃ w', gRt v x w = w' := ⟨_, rfl⟩
        rw [hw'] at hok
        refine ⟨(w', .int (Int32.ofNat 10)), ⟨?_, hok⟩, ?_⟩
        · rw [kfo_s, ← hI1', hw']
        · refine e_X11_rests_28.trans ?_
          simp only [e_X11_rests_0, e_X11_rests_1, e_X11_rests_2, e_X11_rests_5, e_X11_rests_6, e_X11_rests_7, e_X11_rests_8, e_X11_rests_11, e_X11_rests_14, e_X11_rests_17, e_X11_rests_18, e_X11_rests_19, e_X11_rests_20, e_X11_rests_21, e_X11_rests_22, e_X11_rests_23, e_X11_rests_26, e_X11_rests_27, e_X11_rests_29, e_X11_rests_31, e_X11_rests_34, e_X11_rests_35, e_X11_rests_39, e_X11_rests_41, e_X11_rests_44, e_X11_rests_45, e_X11_rests_47, e_X11_rests_48, e_X11_rests_51, e_X11_rests_54, e_X11_rests_56, e_X11_rests_57, e_X11_rests_58, e_X11_rests_61, e_X11_rests_64, e_X11_rests_65, e_X11_rests_68, e_X11_rests_69, e_X11_rests_70, e_X11_rests_71, e_X11_rests_74, e_X11_rests_75, e_X11_rests_77, e_X11_rests_78, e_X11_rests_81, e_X11_rests_84, e_X11_rests_87, e_X11_rests_90, e_X11_rests_93, e_X11_rests_96, e_X11_rests_97, ob_91, kcl_i, kcl_r, kcl_l, kcl_0, kcl_n, true_and, and_true, nineF hx, if_false]
          have F := (k_forI (P := fun z (w : Nat × List Int64) => kWP sc (d + 499) 248 37 [.ref 91, .int v, .int (Int32.ofNat w.1), .int (Int32.ofNat x), .int (Int32.ofNat z)] [] ((120, cu, su), vPut (uPut (wPut i A.2.length)) w.2.length, tR (tC l 0 A.2) 0 w.2, kR f t sp) K) (n := 10) (g := gRs v x) (I := fun z w => rsOk (10 * x + z) w) (fun z w hz hw => ⟨stepM sc d cu su K _ _ x z w hx hz (by have := hw.1; omega) (wk hw), gRs_ok hw⟩) w hI2').1
          rw [gRt_e, hw'] at F
          refine F.trans ?_
          refine e_X11_rests_37.trans ?_
          simp only [e_X11_rests_0, e_X11_rests_1, e_X11_rests_2, e_X11_rests_5, e_X11_rests_6, e_X11_rests_7, e_X11_rests_8, e_X11_rests_11, e_X11_rests_14, e_X11_rests_17, e_X11_rests_18, e_X11_rests_19, e_X11_rests_20, e_X11_rests_21, e_X11_rests_22, e_X11_rests_23, e_X11_rests_26, e_X11_rests_27, e_X11_rests_29, e_X11_rests_31, e_X11_rests_34, e_X11_rests_35, e_X11_rests_39, e_X11_rests_41, e_X11_rests_44, e_X11_rests_45, e_X11_rests_47, e_X11_rests_48, e_X11_rests_51, e_X11_rests_54, e_X11_rests_56, e_X11_rests_57, e_X11_rests_58, e_X11_rests_61, e_X11_rests_64, e_X11_rests_65, e_X11_rests_68, e_X11_rests_69, e_X11_rests_70, e_X11_rests_71, e_X11_rests_74, e_X11_rests_75, e_X11_rests_77, e_X11_rests_78, e_X11_rests_81, e_X11_rests_84, e_X11_rests_87, e_X11_rests_90, e_X11_rests_93, e_X11_rests_96, e_X11_rests_97, ob_91, kcl_i, kcl_r, kcl_l, kcl_0, kcl_n, true_and, and_true, nineT, if_true, tn_s]
  · refine JJ_n h (-1) i (uPut i) ag_r (ag_uu ag_r) rfl rfl ?_ ?_
    · intro sc d y nx hd L st cu su K
      refine kCA_of (d := d + 499) (v := some (.int _)) (fun K => ?_)
      rw [km_131]
      show kWP sc (d + 499) 131 0 [.ref 0, .int v, .retAddr 0, .retAddr 0, .retAddr 0] [] _ K = _
      simp only [e_X10_rests_0, e_X10_rests_1, e_X10_rests_4, e_X10_rests_5, e_X10_rests_7, e_X10_rests_10, e_X10_rests_11, e_X10_rests_12, e_X10_rests_13, e_X10_rests_14, e_X10_rests_15, e_X10_rests_18, e_X10_rests_21, e_X10_rests_22, e_X10_rests_24, e_X10_rests_26, e_X10_rests_29, e_X10_rests_30, e_X10_rests_34, e_X10_rests_36, e_X10_rests_39, e_X10_rests_40, e_X10_rests_41, e_X10_rests_43, e_X10_rests_46, e_X10_rests_49, e_X10_rests_50, e_X10_rests_52, e_X10_rests_53, e_X10_rests_56, e_X10_rests_59, e_X10_rests_60, e_X10_rests_63, e_X10_rests_64, e_X10_rests_67, e_X10_rests_68, e_X10_rests_69, e_X10_rests_72, e_X10_rests_73, e_X10_rests_76, e_X10_rests_78, e_X10_rests_79, e_X10_rests_82, e_X10_rests_85, e_X10_rests_88, e_X10_rests_91, e_X10_rests_94, e_X10_rests_97, e_X10_rests_98, ob_0, rk_0_1, ob_3, kcl_i, kcl_r, kcl_l, kcl_0, kcl_n, true_and, and_true]
      by_cases q1 : v < 0
      · simp only [q1, if_true]
      · have q2 : ¬ v ≤ 9 := fun e => h0 ⟨q1, Int32.not_lt.2 e⟩
        simp only [q1, q2, if_false]
    · intro sc d y nx hd L st cu su K
      refine kCA_of (d := d + 499) (v := some (.int _)) (fun K => ?_)
      rw [km_248]
      show kWP sc (d + 499) 248 0 [.ref 91, .int v, .retAddr 0, .retAddr 0, .retAddr 0] [] _ K = _
      simp only [e_X11_rests_0, e_X11_rests_1, e_X11_rests_2, e_X11_rests_5, e_X11_rests_6, e_X11_rests_7, e_X11_rests_8, e_X11_rests_11, e_X11_rests_14, e_X11_rests_17, e_X11_rests_18, e_X11_rests_19, e_X11_rests_20, e_X11_rests_21, e_X11_rests_22, e_X11_rests_23, e_X11_rests_26, e_X11_rests_27, e_X11_rests_29, e_X11_rests_31, e_X11_rests_34, e_X11_rests_35, e_X11_rests_39, e_X11_rests_41, e_X11_rests_44, e_X11_rests_45, e_X11_rests_47, e_X11_rests_48, e_X11_rests_51, e_X11_rests_54, e_X11_rests_56, e_X11_rests_57, e_X11_rests_58, e_X11_rests_61, e_X11_rests_64, e_X11_rests_65, e_X11_rests_68, e_X11_rests_69, e_X11_rests_70, e_X11_rests_71, e_X11_rests_74, e_X11_rests_75, e_X11_rests_77, e_X11_rests_78, e_X11_rests_81, e_X11_rests_84, e_X11_rests_87, e_X11_rests_90, e_X11_rests_93, e_X11_rests_96, e_X11_rests_97, ob_91, kcl_i, kcl_r, kcl_l, kcl_0, kcl_n, true_and, and_true, uP_0, l0, l9, m_in, m_inI, kb_0, h0, not_false_eq_true, if_true]
end TC
