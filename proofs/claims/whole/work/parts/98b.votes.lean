/-! questions about all councillors -/
section TC
variable {sc : Nat × (Nat → Int32)} {d y nx : Nat} {hd : List (Int × Nat)} {L st : List Value} {S : kS} {cu su : Nat} {i : Nat → Nat → Int32} {l : Nat → Nat → Int64} {f t c b m : Nat} {sp : Nat → Nat} {K : Option (Option Value) → kS → Prop}
variable {N M Z S1 Q : Nat → Int32} {i1 i2 i3 : Nat → Nat → Int32} {l2 : Nat → Nat → Int64} {n k x : Nat} {v r : Int32} {zs : List Int64}
theorem u93 : uPut i 93 = i 93 := uP_o (by decide)
theorem u94 : uPut i 94 = i 94 := uP_o (by decide)
theorem u95 : uPut i 95 = i 95 := uP_o (by decide)
theorem u96 : uPut i 96 = i 96 := uP_o (by decide)
theorem u3 : uPut i 91 3 = i 91 3 := uP_f (by decide)
theorem w93 : wPut i n 93 = i 93 := wP_o (by decide)
theorem w94 : wPut i n 94 = i 94 := wP_o (by decide)
theorem w95 : wPut i n 95 = i 95 := wP_o (by decide)
theorem w96 : wPut i n 96 = i 96 := wP_o (by decide)
theorem w91 : wPut i n 91 = i 91 := wP_o (by decide)
theorem v93 : vPut i n 93 = i 93 := vP_o (by decide)
theorem v94 : vPut i n 94 = i 94 := vP_o (by decide)
theorem v95 : vPut i n 95 = i 95 := vP_o (by decide)
theorem v96 : vPut i n 96 = i 96 := vP_o (by decide)
theorem ki16 : kin 16 25 = True := eq_true (by decide)
theorem ki17 : kin 17 25 = True := eq_true (by decide)
theorem ki18 : kin 18 25 = True := eq_true (by decide)
theorem ki19 : kin 19 25 = True := eq_true (by decide)
theorem ki20 : kin 20 25 = True := eq_true (by decide)
theorem ki21 : kin 21 25 = True := eq_true (by decide)
theorem ni16 : Int32.toNatClampNeg 16 = 16 := rfl
theorem ni17 : Int32.toNatClampNeg 17 = 17 := rfl
theorem ni18 : Int32.toNatClampNeg 18 = 18 := rfl
theorem ni19 : Int32.toNatClampNeg 19 = 19 := rfl
theorem ni20 : Int32.toNatClampNeg 20 = 20 := rfl
theorem ni21 : Int32.toNatClampNeg 21 = 21 := rfl
theorem one_if {e : Prop} [Decidable e] {a b : Int32} (v : Int32) : (v ||| if e then a else b) = if e then v ||| a else v ||| b := by by_cases h : e <;> simp [h]
theorem or_0 {v : Int32} : v ||| 0 = v := by simp
def gVote (had : Int32) (wa : Nat → Int32) (x : Nat) (w : Int32 × Int32) : Int32 × Int32 := if (had >>> (Int32.ofNat x &&& 31)) &&& 1 = 0 then (w.1 ||| (1 <<< (Int32.ofNat x &&& 31)), w.2 ||| wa x) else w
theorem J_vote (h : IV m i l f t sp) : JJ 112 218 [] i l f t sp := by
  obtain ⟨⟨h5, h91, h8, e9, hle, hp⟩, _⟩ := id h
  have hN := IV_now h
  have e16 := hN.2.2.2.2.2.1
  refine JJ_q h (kfo (gVote (i 96 16) (i 95)) m (0, 0)).1 2 i (uPut (wPut i 2)) [(pBC (kfo (gVote (i 96 16) (i 95)) m (0, 0)).1).toInt64, (kfo (gVote (i 96 16) (i 95)) m (0, 0)).2.toInt64] rfl (by decide) ag_r (ag_uu ag_r) rfl ?_ ?_
  · intro sc d y nx hd L st cu su K
    refine kCA_of (d := d + 499) (v := some (.int _)) (fun K => ?_)
    rw [km_112]
    show kWP sc (d + 499) 112 0 [.ref 0, .retAddr 0, .retAddr 0, .retAddr 0] [] _ K = _
    simp only [e_X10_vote_0, e_X10_vote_1, e_X10_vote_2, e_X10_vote_3, e_X10_vote_4, e_X10_vote_5, e_X10_vote_7, e_X10_vote_8, e_X10_vote_11, e_X10_vote_14, e_X10_vote_17, e_X10_vote_18, e_X10_vote_21, e_X10_vote_22, e_X10_vote_25, e_X10_vote_28, e_X10_vote_29, e_X10_vote_30, e_X10_vote_31, e_X10_vote_32, e_X10_vote_33, e_X10_vote_34, e_X10_vote_35, e_X10_vote_36, e_X10_vote_39, e_X10_vote_42, e_X10_vote_43, e_X10_vote_44, e_X10_vote_45, e_X10_vote_46, e_X10_vote_49, e_X10_vote_52, e_X10_vote_53, e_X10_vote_56, e_X10_vote_59, e_X10_vote_60, e_X10_vote_63, e_X10_vote_64, e_X10_vote_67, e_X10_vote_68, e_X10_vote_71, e_X10_vote_72, e_X10_vote_75, e_X10_vote_76, e_X10_vote_77, e_X10_vote_80, e_X10_vote_81, ob_0, rk_0_2, ob_5, rk_0_3, ob_10, ob_13, rk_5_2, ar_7, rk_0_1, ob_3, kcl_i, kcl_r, kcl_l, kcl_0, kcl_n, true_and, and_true]
    refine (k_for (P := fun x (w : Int32 × Int32) => kWP sc (d + 499) 112 6 [.ref 0, .int w.1, .int w.2, .int (Int32.ofNat x)] [] ((120, cu, su), i, l, kR f t sp) K) (n := m) (g := gVote (i 96 16) (i 95)) ?_ (0, 0)).trans ?_
    · intro x ⟨w1, w2⟩ hx
      refine e_X10_vote_6.trans ?_
      simp only [e_X10_vote_0, e_X10_vote_1, e_X10_vote_2, e_X10_vote_3, e_X10_vote_4, e_X10_vote_5, e_X10_vote_7, e_X10_vote_8, e_X10_vote_11, e_X10_vote_14, e_X10_vote_17, e_X10_vote_18, e_X10_vote_21, e_X10_vote_22, e_X10_vote_25, e_X10_vote_28, e_X10_vote_29, e_X10_vote_30, e_X10_vote_31, e_X10_vote_32, e_X10_vote_33, e_X10_vote_34, e_X10_vote_35, e_X10_vote_36, e_X10_vote_39, e_X10_vote_42, e_X10_vote_43, e_X10_vote_44, e_X10_vote_45, e_X10_vote_46, e_X10_vote_49, e_X10_vote_52, e_X10_vote_53, e_X10_vote_56, e_X10_vote_59, e_X10_vote_60, e_X10_vote_63, e_X10_vote_64, e_X10_vote_67, e_X10_vote_68, e_X10_vote_71, e_X10_vote_72, e_X10_vote_75, e_X10_vote_76, e_X10_vote_77, e_X10_vote_80, e_X10_vote_81, ob_0, rk_0_2, ob_5, rk_0_3, ob_10, ob_13, rk_5_2, ar_7, rk_0_1, ob_3, kcl_i, kcl_r, kcl_l, kcl_0, kcl_n, true_and, and_true, h5, jpF hx (by omega), if_false, c_hadHat (show kNc 10 = true by decide), e16, kin8 (show x < 8 by omega), cl_n (show x < 100000 by omega), (hp x hx).2.1, tn_s]
      unfold gVote
      by_cases q : (i 96 16 >>> (Int32.ofNat x &&& 31)) &&& 1 = 0
      · simp only [q, if_true]
      · simp only [q, if_false]
    · refine e_X10_vote_6.trans ?_
      simp only [e_X10_vote_0, e_X10_vote_1, e_X10_vote_2, e_X10_vote_3, e_X10_vote_4, e_X10_vote_5, e_X10_vote_7, e_X10_vote_8, e_X10_vote_11, e_X10_vote_14, e_X10_vote_17, e_X10_vote_18, e_X10_vote_21, e_X10_vote_22, e_X10_vote_25, e_X10_vote_28, e_X10_vote_29, e_X10_vote_30, e_X10_vote_31, e_X10_vote_32, e_X10_vote_33, e_X10_vote_34, e_X10_vote_35, e_X10_vote_36, e_X10_vote_39, e_X10_vote_42, e_X10_vote_43, e_X10_vote_44, e_X10_vote_45, e_X10_vote_46, e_X10_vote_49, e_X10_vote_52, e_X10_vote_53, e_X10_vote_56, e_X10_vote_59, e_X10_vote_60, e_X10_vote_63, e_X10_vote_64, e_X10_vote_67, e_X10_vote_68, e_X10_vote_71, e_X10_vote_72, e_X10_vote_75, e_X10_vote_76, e_X10_vote_77, e_X10_vote_80, e_X10_vote_81, ob_0, rk_0_2, ob_5, rk_0_3, ob_10, ob_13, rk_5_2, ar_7, rk_0_1, ob_3, kcl_i, kcl_r, kcl_l, kcl_0, kcl_n, true_and, and_true, h5, Int32.le_refl, if_true, c_start, c_bitCount, c_radd (show 0 < 128 by decide), c_radd (show 0 + 1 < 128 by decide)]
      rfl
  · intro sc d y nx hd L st cu su K
    refine kCA_of (d := d + 499) (v := some (.int _)) (fun K => ?_)
    rw [km_218]
    show kWP sc (d + 499) 218 0 [.ref 91, .retAddr 0, .retAddr 0, .retAddr 0] [] _ K = _
    simp only [e_X11_vote_0, e_X11_vote_1, e_X11_vote_2, e_X11_vote_5, e_X11_vote_6, e_X11_vote_7, e_X11_vote_8, e_X11_vote_9, e_X11_vote_10, e_X11_vote_12, e_X11_vote_13, e_X11_vote_16, e_X11_vote_19, e_X11_vote_20, e_X11_vote_21, e_X11_vote_24, e_X11_vote_26, e_X11_vote_27, e_X11_vote_28, e_X11_vote_31, e_X11_vote_34, e_X11_vote_35, e_X11_vote_38, e_X11_vote_39, e_X11_vote_40, e_X11_vote_41, e_X11_vote_42, e_X11_vote_43, e_X11_vote_44, e_X11_vote_45, e_X11_vote_48, e_X11_vote_50, e_X11_vote_51, e_X11_vote_52, e_X11_vote_55, e_X11_vote_58, e_X11_vote_59, e_X11_vote_62, e_X11_vote_63, e_X11_vote_66, e_X11_vote_67, e_X11_vote_68, e_X11_vote_69, e_X11_vote_70, e_X11_vote_73, e_X11_vote_76, e_X11_vote_77, e_X11_vote_78, e_X11_vote_81, e_X11_vote_82, e_X11_vote_83, e_X11_vote_86, e_X11_vote_87, e_X11_vote_90, e_X11_vote_91, e_X11_vote_92, e_X11_vote_93, e_X11_vote_96, e_X11_vote_97, ob_91, rk_91_8, ar_96, rk_91_7, ar_95, kcl_i, kcl_r, kcl_l, kcl_0, kcl_n, true_and, and_true, uP_0]
    refine (k_for (P := fun x (w : Int32 × Int32) => kWP sc (d + 499) 218 11 [.ref 91, .int w.1, .int w.2, .int (Int32.ofNat x)] [] ((120, cu, su), uPut (wPut i 2), tC l 0 [(pBC (kfo (gVote (i 96 16) (i 95)) m (0, 0)).1).toInt64, (kfo (gVote (i 96 16) (i 95)) m (0, 0)).2.toInt64], kR f t sp) K) (n := m) (g := gVote (i 96 16) (i 95)) ?_ (0, 0)).trans ?_
    · intro x ⟨w1, w2⟩ hx
      refine e_X11_vote_11.trans ?_
      simp only [e_X11_vote_0, e_X11_vote_1, e_X11_vote_2, e_X11_vote_5, e_X11_vote_6, e_X11_vote_7, e_X11_vote_8, e_X11_vote_9, e_X11_vote_10, e_X11_vote_12, e_X11_vote_13, e_X11_vote_16, e_X11_vote_19, e_X11_vote_20, e_X11_vote_21, e_X11_vote_24, e_X11_vote_26, e_X11_vote_27, e_X11_vote_28, e_X11_vote_31, e_X11_vote_34, e_X11_vote_35, e_X11_vote_38, e_X11_vote_39, e_X11_vote_40, e_X11_vote_41, e_X11_vote_42, e_X11_vote_43, e_X11_vote_44, e_X11_vote_45, e_X11_vote_48, e_X11_vote_50, e_X11_vote_51, e_X11_vote_52, e_X11_vote_55, e_X11_vote_58, e_X11_vote_59, e_X11_vote_62, e_X11_vote_63, e_X11_vote_66, e_X11_vote_67, e_X11_vote_68, e_X11_vote_69, e_X11_vote_70, e_X11_vote_73, e_X11_vote_76, e_X11_vote_77, e_X11_vote_78, e_X11_vote_81, e_X11_vote_82, e_X11_vote_83, e_X11_vote_86, e_X11_vote_87, e_X11_vote_90, e_X11_vote_91, e_X11_vote_92, e_X11_vote_93, e_X11_vote_96, e_X11_vote_97, ob_91, rk_91_8, ar_96, rk_91_7, ar_95, kcl_i, kcl_r, kcl_l, kcl_0, kcl_n, true_and, and_true, u3, u95, u96, w91, w95, w96, h91, jpF hx (by omega), if_false, m_has, kb_0, ki16, ni16, kin8 (show x < 8 by omega), cl_n (show x < 100000 by omega), tn_s]
      unfold gVote
      rcases and_one (i 96 16 >>> (Int32.ofNat x &&& 31)) with q | q
      · simp only [q, z01, not_false_eq_true, if_true]
      · simp only [q, z10, not_true_eq_false, if_false, or_0]
    · refine e_X11_vote_11.trans ?_
      simp only [e_X11_vote_0, e_X11_vote_1, e_X11_vote_2, e_X11_vote_5, e_X11_vote_6, e_X11_vote_7, e_X11_vote_8, e_X11_vote_9, e_X11_vote_10, e_X11_vote_12, e_X11_vote_13, e_X11_vote_16, e_X11_vote_19, e_X11_vote_20, e_X11_vote_21, e_X11_vote_24, e_X11_vote_26, e_X11_vote_27, e_X11_vote_28, e_X11_vote_31, e_X11_vote_34, e_X11_vote_35, e_X11_vote_38, e_X11_vote_39, e_X11_vote_40, e_X11_vote_41, e_X11_vote_42, e_X11_vote_43, e_X11_vote_44, e_X11_vote_45, e_X11_vote_48, e_X11_vote_50, e_X11_vote_51, e_X11_vote_52, e_X11_vote_55, e_X11_vote_58, e_X11_vote_59, e_X11_vote_62, e_X11_vote_63, e_X11_vote_66, e_X11_vote_67, e_X11_vote_68, e_X11_vote_69, e_X11_vote_70, e_X11_vote_73, e_X11_vote_76, e_X11_vote_77, e_X11_vote_78, e_X11_vote_81, e_X11_vote_82, e_X11_vote_83, e_X11_vote_86, e_X11_vote_87, e_X11_vote_90, e_X11_vote_91, e_X11_vote_92, e_X11_vote_93, e_X11_vote_96, e_X11_vote_97, ob_91, rk_91_8, ar_96, rk_91_7, ar_95, kcl_i, kcl_r, kcl_l, kcl_0, kcl_n, true_and, and_true, u3, w91, h91, Int32.le_refl, if_true, vP_0, c_bitCount, m_enters (show 0 < 256 by decide), m_enters (show 0 + 1 < 256 by decide)]
      rfl
def gMute (co wa : Nat → Int32) (x : Nat) (w : Int32 × Int32) : Int32 × Int32 := (w.1 ||| co x, w.2 ||| wa x)
theorem mute_sub {le br wa : Nat → Int32} : ∀ x, x < 32 → tb (kfo (gMute (fun a => pAble le (br a) (wa a)) wa) m (0, 0)).1 x = true → tb (kfo (gMute (fun a => pAble le (br a) (wa a)) wa) m (0, 0)).2 x = true := by
  intro x hx
  exact kfo_inv (I := fun _ (w : Int32 × Int32) => tb w.1 x = true → tb w.2 x = true) (fun a w _ hw => by
    show tb (w.1 ||| pAble le (br a) (wa a)) x = true → tb (w.2 ||| wa a) x = true
    rw [tb_or, tb_or, tb_able hx]
    intro q
    cases e1 : tb w.1 x
    · rw [e1] at q
      cases e2 : tb (wa a) x
      · rw [e2] at q; simp at q
      · simp
    · rw [hw e1]; rfl) (fun q => by rw [tb_0] at q; exact absurd q (by decide))
theorem J_mute (h : IV m i l f t sp) : JJ 113 219 [] i l f t sp := by
  obtain ⟨⟨h5, h91, h8, e9, hle, hp⟩, _⟩ := id h
  have hN := IV_now h
  refine JJ_q h ((255 &&& (i 96 17 ^^^ (-1))) &&& ((kfo (gMute (mCo i) (i 95)) m (0, 0)).1 ^^^ (-1))) 1 i (uPut (wPut i 1)) [((255 &&& (i 96 17 ^^^ (-1))) &&& ((kfo (gMute (mCo i) (i 95)) m (0, 0)).2 ^^^ (-1))).toInt64] rfl (by decide) ag_r (ag_uu ag_r) rfl ?_ ?_
  · intro sc d y nx hd L st cu su K
    refine kCA_of (d := d + 499) (v := some (.int _)) (fun K => ?_)
    rw [km_113]
    show kWP sc (d + 499) 113 0 [.ref 0, .retAddr 0, .retAddr 0, .retAddr 0] [] _ K = _
    simp only [e_X10_mute_0, e_X10_mute_1, e_X10_mute_2, e_X10_mute_3, e_X10_mute_4, e_X10_mute_5, e_X10_mute_7, e_X10_mute_8, e_X10_mute_11, e_X10_mute_14, e_X10_mute_17, e_X10_mute_18, e_X10_mute_19, e_X10_mute_22, e_X10_mute_25, e_X10_mute_26, e_X10_mute_27, e_X10_mute_28, e_X10_mute_29, e_X10_mute_30, e_X10_mute_31, e_X10_mute_34, e_X10_mute_37, e_X10_mute_38, e_X10_mute_39, e_X10_mute_40, e_X10_mute_41, e_X10_mute_44, e_X10_mute_47, e_X10_mute_50, e_X10_mute_51, e_X10_mute_54, e_X10_mute_57, e_X10_mute_58, e_X10_mute_59, e_X10_mute_60, e_X10_mute_61, e_X10_mute_62, e_X10_mute_65, e_X10_mute_68, e_X10_mute_69, e_X10_mute_72, e_X10_mute_73, e_X10_mute_74, e_X10_mute_75, e_X10_mute_76, e_X10_mute_77, e_X10_mute_78, e_X10_mute_81, e_X10_mute_82, e_X10_mute_83, e_X10_mute_84, e_X10_mute_85, e_X10_mute_86, ob_0, rk_0_2, ob_5, rk_5_3, ar_8, rk_5_2, ar_7, rk_0_3, ob_10, ob_13, rk_0_1, ob_3, kcl_i, kcl_r, kcl_l, kcl_0, kcl_n, true_and, and_true]
    refine (k_for (P := fun x (w : Int32 × Int32) => kWP sc (d + 499) 113 6 [.ref 0, .int w.1, .int w.2, .int (Int32.ofNat x)] [] ((120, cu, su), i, l, kR f t sp) K) (n := m) (g := gMute (mCo i) (i 95)) ?_ (0, 0)).trans ?_
    · intro x ⟨w1, w2⟩ hx
      refine e_X10_mute_6.trans ?_
      simp only [e_X10_mute_0, e_X10_mute_1, e_X10_mute_2, e_X10_mute_3, e_X10_mute_4, e_X10_mute_5, e_X10_mute_7, e_X10_mute_8, e_X10_mute_11, e_X10_mute_14, e_X10_mute_17, e_X10_mute_18, e_X10_mute_19, e_X10_mute_22, e_X10_mute_25, e_X10_mute_26, e_X10_mute_27, e_X10_mute_28, e_X10_mute_29, e_X10_mute_30, e_X10_mute_31, e_X10_mute_34, e_X10_mute_37, e_X10_mute_38, e_X10_mute_39, e_X10_mute_40, e_X10_mute_41, e_X10_mute_44, e_X10_mute_47, e_X10_mute_50, e_X10_mute_51, e_X10_mute_54, e_X10_mute_57, e_X10_mute_58, e_X10_mute_59, e_X10_mute_60, e_X10_mute_61, e_X10_mute_62, e_X10_mute_65, e_X10_mute_68, e_X10_mute_69, e_X10_mute_72, e_X10_mute_73, e_X10_mute_74, e_X10_mute_75, e_X10_mute_76, e_X10_mute_77, e_X10_mute_78, e_X10_mute_81, e_X10_mute_82, e_X10_mute_83, e_X10_mute_84, e_X10_mute_85, e_X10_mute_86, ob_0, rk_0_2, ob_5, rk_5_3, ar_8, rk_5_2, ar_7, rk_0_3, ob_10, ob_13, rk_0_1, ob_3, kcl_i, kcl_r, kcl_l, kcl_0, kcl_n, true_and, and_true, h5, jpF hx (by omega), if_false, kin8 (show x < 8 by omega), cl_n (show x < 100000 by omega), (hp x hx).2.1, (hp x hx).2.2, tn_s]
      rfl
    · refine e_X10_mute_6.trans ?_
      simp only [e_X10_mute_0, e_X10_mute_1, e_X10_mute_2, e_X10_mute_3, e_X10_mute_4, e_X10_mute_5, e_X10_mute_7, e_X10_mute_8, e_X10_mute_11, e_X10_mute_14, e_X10_mute_17, e_X10_mute_18, e_X10_mute_19, e_X10_mute_22, e_X10_mute_25, e_X10_mute_26, e_X10_mute_27, e_X10_mute_28, e_X10_mute_29, e_X10_mute_30, e_X10_mute_31, e_X10_mute_34, e_X10_mute_37, e_X10_mute_38, e_X10_mute_39, e_X10_mute_40, e_X10_mute_41, e_X10_mute_44, e_X10_mute_47, e_X10_mute_50, e_X10_mute_51, e_X10_mute_54, e_X10_mute_57, e_X10_mute_58, e_X10_mute_59, e_X10_mute_60, e_X10_mute_61, e_X10_mute_62, e_X10_mute_65, e_X10_mute_68, e_X10_mute_69, e_X10_mute_72, e_X10_mute_73, e_X10_mute_74, e_X10_mute_75, e_X10_mute_76, e_X10_mute_77, e_X10_mute_78, e_X10_mute_81, e_X10_mute_82, e_X10_mute_83, e_X10_mute_84, e_X10_mute_85, e_X10_mute_86, ob_0, rk_0_2, ob_5, rk_5_3, ar_8, rk_5_2, ar_7, rk_0_3, ob_10, ob_13, rk_0_1, ob_3, kcl_i, kcl_r, kcl_l, kcl_0, kcl_n, true_and, and_true, h5, hN.1, Int32.le_refl, if_true, c_start, c_radd (show 0 < 128 by decide)]
      rfl
  · intro sc d y nx hd L st cu su K
    refine kCA_of (d := d + 499) (v := some (.int _)) (fun K => ?_)
    rw [km_219]
    show kWP sc (d + 499) 219 0 [.ref 91, .retAddr 0, .retAddr 0, .retAddr 0] [] _ K = _
    simp only [e_X11_mute_0, e_X11_mute_1, e_X11_mute_2, e_X11_mute_5, e_X11_mute_6, e_X11_mute_7, e_X11_mute_8, e_X11_mute_9, e_X11_mute_10, e_X11_mute_12, e_X11_mute_13, e_X11_mute_16, e_X11_mute_19, e_X11_mute_20, e_X11_mute_21, e_X11_mute_22, e_X11_mute_25, e_X11_mute_26, e_X11_mute_27, e_X11_mute_28, e_X11_mute_29, e_X11_mute_32, e_X11_mute_33, e_X11_mute_34, e_X11_mute_35, e_X11_mute_36, e_X11_mute_39, e_X11_mute_42, e_X11_mute_45, e_X11_mute_46, e_X11_mute_49, e_X11_mute_51, e_X11_mute_52, e_X11_mute_53, e_X11_mute_54, e_X11_mute_55, e_X11_mute_56, e_X11_mute_57, e_X11_mute_58, e_X11_mute_59, e_X11_mute_60, e_X11_mute_61, e_X11_mute_62, e_X11_mute_65, e_X11_mute_66, e_X11_mute_67, e_X11_mute_68, e_X11_mute_69, e_X11_mute_70, e_X11_mute_71, e_X11_mute_72, e_X11_mute_75, e_X11_mute_76, ob_91, rk_91_7, ar_95, rk_91_8, ar_96, kcl_i, kcl_r, kcl_l, kcl_0, kcl_n, true_and, and_true, uP_0]
    have E : ((255 &&& (i 96 17 ^^^ (-1))) &&& ((kfo (gMute (mCo i) (i 95)) m (0, 0)).1 ^^^ (-1))) &&& ((kfo (gMute (mCo i) (i 95)) m (0, 0)).2 ^^^ (-1)) = (255 &&& (i 96 17 ^^^ (-1))) &&& ((kfo (gMute (mCo i) (i 95)) m (0, 0)).2 ^^^ (-1)) := by
      apply tb_ext
      intro x hx
      have hs := mute_sub (m := m) (le := i 93) (br := i 94) (wa := i 95) x hx
      simp only [tb_and, tb_not hx]
      cases e2 : tb (kfo (gMute (mCo i) (i 95)) m (0, 0)).2 x
      · cases e1 : tb (kfo (gMute (mCo i) (i 95)) m (0, 0)).1 x
        · simp
        · have := hs e1
          rw [show (kfo (gMute (fun a => pAble (i 93) (i 94 a) (i 95 a)) (i 95)) m (0, 0)) = kfo (gMute (mCo i) (i 95)) m (0, 0) from rfl, e2] at this
          exact absurd this (by decide)
      · simp
    refine (k_for (P := fun x (w : Int32 × Int32) => kWP sc (d + 499) 219 11 [.ref 91, .int w.1, .int w.2, .int (Int32.ofNat x)] [] ((120, cu, su), uPut (wPut i 1), tC l 0 [((255 &&& (i 96 17 ^^^ (-1))) &&& ((kfo (gMute (mCo i) (i 95)) m (0, 0)).2 ^^^ (-1))).toInt64], kR f t sp) K) (n := m) (g := gMute (mCo i) (i 95)) ?_ (0, 0)).trans ?_
    · intro x ⟨w1, w2⟩ hx
      refine e_X11_mute_11.trans ?_
      simp only [e_X11_mute_0, e_X11_mute_1, e_X11_mute_2, e_X11_mute_5, e_X11_mute_6, e_X11_mute_7, e_X11_mute_8, e_X11_mute_9, e_X11_mute_10, e_X11_mute_12, e_X11_mute_13, e_X11_mute_16, e_X11_mute_19, e_X11_mute_20, e_X11_mute_21, e_X11_mute_22, e_X11_mute_25, e_X11_mute_26, e_X11_mute_27, e_X11_mute_28, e_X11_mute_29, e_X11_mute_32, e_X11_mute_33, e_X11_mute_34, e_X11_mute_35, e_X11_mute_36, e_X11_mute_39, e_X11_mute_42, e_X11_mute_45, e_X11_mute_46, e_X11_mute_49, e_X11_mute_51, e_X11_mute_52, e_X11_mute_53, e_X11_mute_54, e_X11_mute_55, e_X11_mute_56, e_X11_mute_57, e_X11_mute_58, e_X11_mute_59, e_X11_mute_60, e_X11_mute_61, e_X11_mute_62, e_X11_mute_65, e_X11_mute_66, e_X11_mute_67, e_X11_mute_68, e_X11_mute_69, e_X11_mute_70, e_X11_mute_71, e_X11_mute_72, e_X11_mute_75, e_X11_mute_76, ob_91, rk_91_7, ar_95, rk_91_8, ar_96, kcl_i, kcl_r, kcl_l, kcl_0, kcl_n, true_and, and_true, u3, w91, h91, jpF hx (by omega), if_false, m_able (show x < 8 by omega), u93, u94, u95, w93, w94, w95, kin8 (show x < 8 by omega), cl_n (show x < 100000 by omega), tn_s]
      rfl
    · refine e_X11_mute_11.trans ?_
      simp only [e_X11_mute_0, e_X11_mute_1, e_X11_mute_2, e_X11_mute_5, e_X11_mute_6, e_X11_mute_7, e_X11_mute_8, e_X11_mute_9, e_X11_mute_10, e_X11_mute_12, e_X11_mute_13, e_X11_mute_16, e_X11_mute_19, e_X11_mute_20, e_X11_mute_21, e_X11_mute_22, e_X11_mute_25, e_X11_mute_26, e_X11_mute_27, e_X11_mute_28, e_X11_mute_29, e_X11_mute_32, e_X11_mute_33, e_X11_mute_34, e_X11_mute_35, e_X11_mute_36, e_X11_mute_39, e_X11_mute_42, e_X11_mute_45, e_X11_mute_46, e_X11_mute_49, e_X11_mute_51, e_X11_mute_52, e_X11_mute_53, e_X11_mute_54, e_X11_mute_55, e_X11_mute_56, e_X11_mute_57, e_X11_mute_58, e_X11_mute_59, e_X11_mute_60, e_X11_mute_61, e_X11_mute_62, e_X11_mute_65, e_X11_mute_66, e_X11_mute_67, e_X11_mute_68, e_X11_mute_69, e_X11_mute_70, e_X11_mute_71, e_X11_mute_72, e_X11_mute_75, e_X11_mute_76, ob_91, rk_91_7, ar_95, rk_91_8, ar_96, kcl_i, kcl_r, kcl_l, kcl_0, kcl_n, true_and, and_true, u3, u96, w96, w91, h91, ki17, ni17, Int32.le_refl, if_true, vP_0, m_enters (show 0 < 256 by decide), E]
      rfl
theorem pBC_nn {x : Int32} : ¬ pBC x ≤ -1 := by
  have h : b8 (pBC x) := by
    unfold pBC
    intro z h1 h2
    rw [tb_and]
    have : ∀ z, z < 32 → 8 ≤ z → tb 63 z = false := by decide +kernel
    rw [this z h2 h1, Bool.and_false]
  obtain ⟨n, hn, e⟩ := b8_nat h
  rw [e]
  intro q
  have := Int32.le_trans (Int32.zero_le_ofNat_of_lt (show n < 2147483648 by omega)) q
  exact absurd this (by decide)
theorem pBC_ge {x : Int32} : 0 ≤ pBC x := by
  have h := @pBC_nn x
  rw [Int32.le_iff_toInt_le] at h ⊢
  rw [show (-1 : Int32).toInt = -1 from by decide] at h
  rw [show (0 : Int32).toInt = 0 from by decide]; omega
end TC
