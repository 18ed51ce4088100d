/-! an evening: acts done on both sides -/
section TC
variable {sc : Nat × (Nat → Int32)} {d y nx : Nat} {hd : List (Int × Nat)} {L st : List Value} {S : kS} {cu su : Nat} {i : Nat → Nat → Int32} {l : Nat → Nat → Int64} {f t c b m : Nat} {sp : Nat → Nat} {K : Option (Option Value) → kS → Prop}
variable {N M Z S1 Q A B C S le co br acts code co2 br2 : Nat → Int32} {n n2 k x a o g c h p to z nn : Nat} {v r q : Int32} {T : Nat → Int32} {j J Y : Nat → Nat → Int32} {w : WN} {u : WM}
/-- the class's now, its rule's stack -/
def nS (i : Nat → Nat → Int32) (f : Nat) (w : WN) : Nat → Nat → Int32 := rPut (nPut i 10 w.1) f w.2
theorem nS_e : rPut (nPut i 10 w.1) f w.2 = nS i f w := rfl
theorem nS_lo (hf : kRc f = true) {c : Nat} (hc : c < 10) : nS i f w c = i c := by unfold nS; rw [rP_lo hf (by omega), nP_lo c10 hc]
theorem nS_10 (hf : kRc f = true) : nS i f w 10 0 = w.1 17 ∧ nS i f w 10 1 = w.1 18 ∧ nS i f w 10 4 = w.1 21 ∧ nS i f w 10 6 = w.1 22 := by
  unfold nS
  rw [rP_lo hf (show 10 < 85 by decide)]
  exact ⟨nP_0, nP_1, nP_4, nP_6⟩
/-- what an act's third sign is for the class -/
def whC (T : Nat → Int32) (n x : Nat) : Int32 := tA T n (x + 2) - (if kdO (T x) = 2 then 48 else 97)
def dgC (T : Nat → Int32) (x : Nat) : Nat := (T (x + 1) - 48).toNatClampNeg
abbrev aR (co : Nat → Int32) (m : Nat) (T : Nat → Int32) (n x : Nat) (w : WN) : Prop := ¬ T x = 110 ∧ ¬ pRefuse co (w.1 17) (w.1 18) (w.1 22) (Int32.ofNat m) (T (x + 1) - 48) (kdO (T x)) (whC T n x) = 0
def aC (le co br : Nat → Int32) (m : Nat) (acts : Nat → Int32) (n : Nat) (T : Nat → Int32) (nn x : Nat) (w : WN) : WN := if T x = 110 then ((qPlay le co br m acts n (dgC T x) w.1).1, sPlay le co br m acts n (dgC T x) w.1 w.2) else yTalkC le co m w (T (x + 1) - 48) (kdO (T x)) (whC T nn x)
theorem c_goOnN {a : Nat} {k q : Int32} (hf : kRc b = true) (ha : a < 8) : kCA sc (d + 3) 9 [.ref 10, .ref 5, .int (Int32.ofNat a), .int k, .int q] y nx hd L st ((120, cu, su), nS i b w, l, kR f t sp) K = kWP sc (d + 3) y nx L st ((120, cu, su), nS i b (qGo (i 9) w.1 a k q, w.2), l, kR f t sp) K := by
  unfold nS
  rw [rN c10 hf, c_goOn (i := rPut i b w.2) c10 ha, rP_lo hf (by decide), ← rN c10 hf]
theorem refuse_0h {said hat pm p k q : Int32} (h8 : m ≤ 8) (h : pRefuse co said hat pm (Int32.ofNat m) p k q = 0) : ∃ a, a < m ∧ p = Int32.ofNat a := by
  unfold pRefuse at h
  by_cases c1 : ¬ pHas (Int32.ofNat m) p = true ∨ k < 0 ∨ 4 < k
  · rw [if_pos c1] at h; exact absurd h (by decide)
  · exact kN_has h8 (Classical.byContradiction fun z => c1 (Or.inl z))
theorem c_act (hf : kRc f = true) (hm : i 5 0 = Int32.ofNat m) (h8 : m ≤ 8) (hn : i f 2 = Int32.ofNat n) (h40 : n ≤ 40) (ht : i 1 1 = Int32.ofNat nn) (h80 : nn ≤ 80) (hT : ∀ x, x < nn → i 2 x = T x) (hx : x + 1 < nn) (hd' : isDg (T (x + 1)) = true) :
    (aR (i 8) m T nn x w → kCA sc (d + 6) 142 [.ref 0, .int (Int32.ofNat x)] y nx hd L st ((120, cu, su), nS i f w, l, kR f t sp) K = kWP sc (d + 6) y nx L (.int 0 :: st) ((120, cu, su), nS i f w, l, kR f t sp) K) ∧
    (¬ aR (i 8) m T nn x w → kCA sc (d + 6) 142 [.ref 0, .int (Int32.ofNat x)] y nx hd L st ((120, cu, su), nS i f w, l, kR f t sp) K = kWP sc (d + 6) y nx L (.int 1 :: st) ((120, cu, su), nS i f (aC (i 9) (i 8) (i 6) m (i (f + 1)) n T nn x w), l, kR f t sp) K) := by
  have t1 : nS i f w 1 1 = Int32.ofNat nn := by rw [nS_lo hf (by decide)]; exact ht
  have t2 : ∀ x, x < nn → nS i f w 2 x = T x := by rw [nS_lo hf (by decide)]; exact hT
  have a1 : tA T nn x = T x := by unfold tA; rw [if_pos (by omega)]
  have a2 : tA T nn (x + 1) = T (x + 1) := by unfold tA; rw [if_pos hx]
  obtain ⟨dd, hdd, _, edd⟩ := dg_ex hd'
  have ecl : dgC T x = dd := by unfold dgC; rw [edd, tn_cl (by omega)]
  have x2 : Int32.ofNat x + 2 = Int32.ofNat (x + 2) := by rw [Int32.ofNat_add]; rfl
  have hm5 : nS i f w 5 0 = Int32.ofNat m := by rw [nS_lo hf (by decide)]; exact hm
  have e8 : nS i f w 8 = i 8 := nS_lo hf (by decide)
  have n10 := nS_10 (i := i) (w := w) hf
  have RF := fun (y nx : Nat) (hd : List (Int × Nat)) (L st : List Value) (K : Option (Option Value) → kS → Prop) (p k q : Int32) => c_refusal (sc := sc) (d := d + 1) (y := y) (nx := nx) (hd := hd) (L := L) (st := st) (cu := cu) (su := su) (i := nS i f w) (l := l) (f := f) (t := t) (sp := sp) (K := K) (m := m) (p := p) (k := k) (q := q) c10 hm5 h8
  rw [e8, n10.1, n10.2.1, n10.2.2.2, hm5] at RF
  by_cases c1 : T x = 110
  · constructor
    · intro h; exact absurd c1 h.1
    · intro _
      unfold aC
      rw [if_pos c1, ecl]
      have P := fun (y nx : Nat) (hd : List (Int × Nat)) (L st : List Value) (K : Option (Option Value) → kS → Prop) => c_play (sc := sc) (d := d) (y := y) (nx := nx) (hd := hd) (L := L) (st := st) (cu := cu) (su := su) (i := i) (l := l) (f := f) (t := t) (sp := sp) (K := K) (N := w.1) (s := w.2) (n := n) (k := dd) hf c10 hm h8 hn h40 (by omega)
      rw [nS_e] at P
      refine kCA_of (d := d + 5) (v := some (.int 1)) (fun K => ?_)
      rw [km_142]
      show kWP sc (d + 5) 142 0 [.ref 0, .int (Int32.ofNat x), .retAddr 0, .retAddr 0, .retAddr 0, .retAddr 0] [] _ K = _
      simp only [e_X10_act_0, e_X10_act_1, e_X10_act_4, e_X10_act_5, e_X10_act_8, e_X10_act_9, e_X10_act_10, e_X10_act_13, e_X10_act_14, e_X10_act_15, e_X10_act_16, e_X10_act_19, e_X10_act_21, e_X10_act_22, e_X10_act_23, e_X10_act_24, e_X10_act_26, e_X10_act_29, e_X10_act_30, e_X10_act_33, e_X10_act_34, e_X10_act_37, e_X10_act_38, e_X10_act_41, e_X10_act_42, e_X10_act_45, e_X10_act_46, e_X10_act_47, e_X10_act_48, e_X10_act_49, e_X10_act_52, e_X10_act_54, e_X10_act_55, e_X10_act_58, e_X10_act_59, e_X10_act_60, e_X10_act_61, e_X10_act_64, e_X10_act_66, e_X10_act_67, e_X10_act_70, e_X10_act_72, e_X10_act_75, e_X10_act_77, e_X10_act_78, e_X10_act_80, e_X10_act_81, e_X10_act_84, e_X10_act_85, e_X10_act_88, e_X10_act_89, e_X10_act_91, e_X10_act_93, e_X10_act_96, e_X10_act_99, e_X10_act_100, e_X10_act_101, e_X10_act_102, e_X10_act_105, e_X10_act_106, e_X10_act_109, e_X10_act_110, e_X10_act_112, e_X10_act_114, e_X10_act_117, e_X10_act_118, ob_0, rk_0_0, ob_1, rk_0_3, rk_0_2, rk_0_10, ob_10, ob_13, kcl_i, kcl_r, kcl_l, kcl_0, kcl_n, true_and, and_true, c_atN t1 h80 t2 (show x < 100000 by omega), tn_s, c_atN t1 h80 t2 (show x + 1 < 100000 by omega), a1, a2, edd, c1, not_true_eq_false, if_true, if_false, P, kbool_1, true_and]
      rfl
  · have ew : ∀ v : Int32, whC T nn x = v → (tA T nn (x + 2) - (if kdO (T x) = 2 then 48 else 97)) = v := fun v h => h
    have pre : ∀ (K : Option (Option Value) → kS → Prop), kWP sc (d + 5) 142 0 [.ref 0, .int (Int32.ofNat x), .retAddr 0, .retAddr 0, .retAddr 0, .retAddr 0] [] ((120, cu, su), nS i f w, l, kR f t sp) K = kWP sc (d + 5) 142 96 [.ref 0, .int (Int32.ofNat x), .int (T x), .int (T (x + 1) - 48), .int (kdO (T x)), .int (whC T nn x)] [.int (pRefuse (i 8) (w.1 17) (w.1 18) (w.1 22) (Int32.ofNat m) (T (x + 1) - 48) (kdO (T x)) (whC T nn x))] ((120, cu, su), nS i f w, l, kR f t sp) K := by
      intro K
      unfold whC
      by_cases c2 : kdO (T x) = 2
      · simp only [e_X10_act_0, e_X10_act_1, e_X10_act_4, e_X10_act_5, e_X10_act_8, e_X10_act_9, e_X10_act_10, e_X10_act_13, e_X10_act_14, e_X10_act_15, e_X10_act_16, e_X10_act_19, e_X10_act_21, e_X10_act_22, e_X10_act_23, e_X10_act_24, e_X10_act_26, e_X10_act_29, e_X10_act_30, e_X10_act_33, e_X10_act_34, e_X10_act_37, e_X10_act_38, e_X10_act_41, e_X10_act_42, e_X10_act_45, e_X10_act_46, e_X10_act_47, e_X10_act_48, e_X10_act_49, e_X10_act_52, e_X10_act_54, e_X10_act_55, e_X10_act_58, e_X10_act_59, e_X10_act_60, e_X10_act_61, e_X10_act_64, e_X10_act_66, e_X10_act_67, e_X10_act_70, e_X10_act_72, e_X10_act_75, e_X10_act_77, e_X10_act_78, e_X10_act_80, e_X10_act_81, e_X10_act_84, e_X10_act_85, e_X10_act_88, e_X10_act_89, e_X10_act_91, e_X10_act_93, e_X10_act_99, e_X10_act_100, e_X10_act_101, e_X10_act_102, e_X10_act_105, e_X10_act_106, e_X10_act_109, e_X10_act_110, e_X10_act_112, e_X10_act_114, e_X10_act_117, e_X10_act_118, ob_0, rk_0_0, ob_1, rk_0_3, rk_0_2, rk_0_10, ob_10, ob_13, kcl_i, kcl_r, kcl_l, kcl_0, kcl_n, true_and, and_true, c_atN t1 h80 t2 (show x < 100000 by omega), tn_s, x2, c_atN t1 h80 t2 (show x + 1 < 100000 by omega), c_atN t1 h80 t2 (show x + 2 < 100000 by omega), a1, a2, c1, not_false_eq_true, not_true_eq_false, if_true, if_false, y_kindOf, c2, RF]
      · simp only [e_X10_act_0, e_X10_act_1, e_X10_act_4, e_X10_act_5, e_X10_act_8, e_X10_act_9, e_X10_act_10, e_X10_act_13, e_X10_act_14, e_X10_act_15, e_X10_act_16, e_X10_act_19, e_X10_act_21, e_X10_act_22, e_X10_act_23, e_X10_act_24, e_X10_act_26, e_X10_act_29, e_X10_act_30, e_X10_act_33, e_X10_act_34, e_X10_act_37, e_X10_act_38, e_X10_act_41, e_X10_act_42, e_X10_act_45, e_X10_act_46, e_X10_act_47, e_X10_act_48, e_X10_act_49, e_X10_act_52, e_X10_act_54, e_X10_act_55, e_X10_act_58, e_X10_act_59, e_X10_act_60, e_X10_act_61, e_X10_act_64, e_X10_act_66, e_X10_act_67, e_X10_act_70, e_X10_act_72, e_X10_act_75, e_X10_act_77, e_X10_act_78, e_X10_act_80, e_X10_act_81, e_X10_act_84, e_X10_act_85, e_X10_act_88, e_X10_act_89, e_X10_act_91, e_X10_act_93, e_X10_act_99, e_X10_act_100, e_X10_act_101, e_X10_act_102, e_X10_act_105, e_X10_act_106, e_X10_act_109, e_X10_act_110, e_X10_act_112, e_X10_act_114, e_X10_act_117, e_X10_act_118, ob_0, rk_0_0, ob_1, rk_0_3, rk_0_2, rk_0_10, ob_10, ob_13, kcl_i, kcl_r, kcl_l, kcl_0, kcl_n, true_and, and_true, c_atN t1 h80 t2 (show x < 100000 by omega), tn_s, x2, c_atN t1 h80 t2 (show x + 1 < 100000 by omega), c_atN t1 h80 t2 (show x + 2 < 100000 by omega), a1, a2, c1, not_false_eq_true, if_true, if_false, y_kindOf, c2, RF]
    constructor
    · intro h
      have hr := h.2
      refine kCA_of (d := d + 5) (v := some (.int 0)) (fun K => ?_)
      rw [km_142]
      show kWP sc (d + 5) 142 0 [.ref 0, .int (Int32.ofNat x), .retAddr 0, .retAddr 0, .retAddr 0, .retAddr 0] [] _ K = _
      rw [pre]
      simp only [e_X10_act_0, e_X10_act_1, e_X10_act_4, e_X10_act_5, e_X10_act_8, e_X10_act_9, e_X10_act_10, e_X10_act_13, e_X10_act_14, e_X10_act_15, e_X10_act_16, e_X10_act_19, e_X10_act_21, e_X10_act_22, e_X10_act_23, e_X10_act_24, e_X10_act_26, e_X10_act_29, e_X10_act_30, e_X10_act_33, e_X10_act_34, e_X10_act_37, e_X10_act_38, e_X10_act_41, e_X10_act_42, e_X10_act_45, e_X10_act_46, e_X10_act_47, e_X10_act_48, e_X10_act_49, e_X10_act_52, e_X10_act_54, e_X10_act_55, e_X10_act_58, e_X10_act_59, e_X10_act_60, e_X10_act_61, e_X10_act_64, e_X10_act_66, e_X10_act_67, e_X10_act_70, e_X10_act_72, e_X10_act_75, e_X10_act_77, e_X10_act_78, e_X10_act_80, e_X10_act_81, e_X10_act_84, e_X10_act_85, e_X10_act_88, e_X10_act_89, e_X10_act_91, e_X10_act_93, e_X10_act_96, e_X10_act_99, e_X10_act_100, e_X10_act_101, e_X10_act_102, e_X10_act_105, e_X10_act_106, e_X10_act_109, e_X10_act_110, e_X10_act_112, e_X10_act_114, e_X10_act_117, e_X10_act_118, ob_0, rk_0_0, ob_1, rk_0_3, rk_0_2, rk_0_10, ob_10, ob_13, kcl_i, kcl_r, kcl_l, kcl_0, kcl_n, true_and, and_true, hr, if_false, kbool_0, true_and]
    · intro h
      have hr : pRefuse (i 8) (w.1 17) (w.1 18) (w.1 22) (Int32.ofNat m) (T (x + 1) - 48) (kdO (T x)) (whC T nn x) = 0 := Classical.byContradiction fun z => h ⟨c1, z⟩
      obtain ⟨a, ha, ea⟩ := refuse_0h h8 hr
      unfold aC yTalkC
      rw [if_neg c1, if_pos hr]
      refine kCA_of (d := d + 5) (v := some (.int 1)) (fun K => ?_)
      rw [km_142]
      show kWP sc (d + 5) 142 0 [.ref 0, .int (Int32.ofNat x), .retAddr 0, .retAddr 0, .retAddr 0, .retAddr 0] [] _ K = _
      rw [pre, hr, ea, tn_cl (by omega)]
      simp only [e_X10_act_0, e_X10_act_1, e_X10_act_4, e_X10_act_5, e_X10_act_8, e_X10_act_9, e_X10_act_10, e_X10_act_13, e_X10_act_14, e_X10_act_15, e_X10_act_16, e_X10_act_19, e_X10_act_21, e_X10_act_22, e_X10_act_23, e_X10_act_24, e_X10_act_26, e_X10_act_29, e_X10_act_30, e_X10_act_33, e_X10_act_34, e_X10_act_37, e_X10_act_38, e_X10_act_41, e_X10_act_42, e_X10_act_45, e_X10_act_46, e_X10_act_47, e_X10_act_48, e_X10_act_49, e_X10_act_52, e_X10_act_54, e_X10_act_55, e_X10_act_58, e_X10_act_59, e_X10_act_60, e_X10_act_61, e_X10_act_64, e_X10_act_66, e_X10_act_67, e_X10_act_70, e_X10_act_72, e_X10_act_75, e_X10_act_77, e_X10_act_78, e_X10_act_80, e_X10_act_81, e_X10_act_84, e_X10_act_85, e_X10_act_88, e_X10_act_89, e_X10_act_91, e_X10_act_93, e_X10_act_96, e_X10_act_99, e_X10_act_100, e_X10_act_101, e_X10_act_102, e_X10_act_105, e_X10_act_106, e_X10_act_109, e_X10_act_110, e_X10_act_112, e_X10_act_114, e_X10_act_117, e_X10_act_118, ob_0, rk_0_0, ob_1, rk_0_3, rk_0_2, rk_0_10, ob_10, ob_13, kcl_i, kcl_r, kcl_l, kcl_0, kcl_n, true_and, and_true, if_true, c_goOnN hf (show a < 8 by omega), kbool_1, true_and]
/-- the reference does an act -/
def aM (le co br : Nat → Int32) (m : Nat) (code : Nat → Int32) (n2 : Nat) (A B C : Nat → Int32) (k : Nat) (u : WM) : WM := if A k = 5 then rTs le co br m code n2 (B k).toNatClampNeg u else yTalkM le co m u (B k) (A k) (C k)
abbrev aQ (co : Nat → Int32) (m : Nat) (A B C : Nat → Int32) (k : Nat) (u : WM) : Prop := ¬ A k = 5 ∧ ¬ pRefuse co (u.1 17) (u.1 18) (pPm u.1) (Int32.ofNat m) (B k) (A k) (C k) = 0
theorem m_does (hm : J 91 3 = Int32.ofNat m) (h8 : m ≤ 8) (hn : J 91 19 = Int32.ofNat n2) (hc : codeOk (J 100) n2) (hA : J 105 = A) (hB : J 106 = B) (hC : J 107 = C) (hk : k < 60) (hN : NR m N u.1) (hd' : ∃ dd, dd ≤ 9 ∧ B k = Int32.ofNat dd)
    (hs : ∀ x, ∃ N2, NR m N2 (rTs (J 93) (mCo J) (J 94) m (J 100) n2 x u).1) (hg : ¬ aQ (mCo J) m A B C k u → ¬ A k = 5 → ¬ rTalk (J 93) u.1 (B k).toNatClampNeg (A k) (C k) 19 < 0) :
    (aQ (mCo J) m A B C k u → kCA sc (d + 8) 210 [.ref 91, .int (Int32.ofNat k)] y nx hd L st ((120, cu, su), mS J 96 u, l, kR f t sp) K = kWP sc (d + 8) y nx L (.int 0 :: st) ((120, cu, su), mS J 96 u, l, kR f t sp) K) ∧
    (¬ aQ (mCo J) m A B C k u → kCA sc (d + 8) 210 [.ref 91, .int (Int32.ofNat k)] y nx hd L st ((120, cu, su), mS J 96 u, l, kR f t sp) K = kWP sc (d + 8) y nx L (.int 1 :: st) ((120, cu, su), mS J 96 (aM (J 93) (mCo J) (J 94) m (J 100) n2 A B C k u), l, kR f t sp) K) := by
  have s1 : ∀ u : WM, mS J 96 u 105 = A := fun u => by rw [mS_o (by decide) (by decide) (by decide) (by decide)]; exact hA
  have s2 : ∀ u : WM, mS J 96 u 106 = B := fun u => by rw [mS_o (by decide) (by decide) (by decide) (by decide)]; exact hB
  have s3 : ∀ u : WM, mS J 96 u 107 = C := fun u => by rw [mS_o (by decide) (by decide) (by decide) (by decide)]; exact hC
  obtain ⟨dd, hdd, edd⟩ := hd'
  have hl := NR_22 h8 hN
  have TK := fun (y nx : Nat) (hd : List (Int × Nat)) (L st : List Value) (K : Option (Option Value) → kS → Prop) => m_talks (sc := sc) (d := d + 2) (y := y) (nx := nx) (hd := hd) (L := L) (st := st) (cu := cu) (su := su) (i := J) (l := l) (f := f) (t := t) (sp := sp) (K := K) (M := u.1) (Z := u.2.1) (S1 := u.2.2.1) (Q := u.2.2.2) (p := B k) (k := A k) (q := C k) b96 hm h8 hl
  have TK' : ∀ (y nx : Nat) (hd : List (Int × Nat)) (L st : List Value) (K : Option (Option Value) → kS → Prop), kCA sc (d + 2 + 5) 201 [.ref 91, .ref 96, .int (B k), .int (A k), .int (C k)] y nx hd L st ((120, cu, su), mS J 96 u, l, kR f t sp) K = kWP sc (d + 2 + 5) y nx L (.int (tAns (mCo J) (J 93) u.1 m (B k) (A k) (C k)) :: st) ((120, cu, su), mS J 96 (yTalkM (J 93) (mCo J) m u (B k) (A k) (C k)), l, kR f t sp) K := TK
  by_cases c1 : A k = 5
  · constructor
    · intro h; exact absurd c1 h.1
    · intro _
      unfold aM
      rw [if_pos c1, edd, tn_cl (by omega)]
      refine kCA_of (d := d + 7) (v := some (.int 1)) (fun K => ?_)
      rw [km_210]
      show kWP sc (d + 7) 210 0 [.ref 91, .int (Int32.ofNat k), .retAddr 0] [] _ K = _
      simp only [e_X11_does_0, e_X11_does_1, e_X11_does_4, e_X11_does_5, e_X11_does_6, e_X11_does_7, e_X11_does_10, e_X11_does_11, e_X11_does_13, e_X11_does_14, e_X11_does_17, e_X11_does_18, e_X11_does_19, e_X11_does_22, e_X11_does_23, e_X11_does_24, e_X11_does_27, e_X11_does_30, e_X11_does_33, e_X11_does_36, e_X11_does_37, e_X11_does_38, e_X11_does_39, e_X11_does_40, e_X11_does_43, e_X11_does_44, e_X11_does_47, e_X11_does_48, e_X11_does_49, e_X11_does_50, e_X11_does_53, e_X11_does_54, e_X11_does_55, e_X11_does_56, e_X11_does_59, e_X11_does_60, e_X11_does_61, e_X11_does_64, e_X11_does_67, e_X11_does_68, e_X11_does_71, e_X11_does_72, ob_91, rk_91_29, ar_105, rk_91_30, ar_106, rk_91_8, ar_96, rk_91_31, ar_107, kcl_i, kcl_r, kcl_l, kcl_0, kcl_n, true_and, and_true, s1, kin60 hk, cl_n (show k < 100000 by omega), c1, not_true_eq_false, if_false, true_and]
      refine (k_for (P := fun x (b : Nat) => kWP sc (d + 7) 210 12 [.ref 91, .int (Int32.ofNat k), .int (Int32.ofNat x)] [] ((120, cu, su), mS J 96 (rTs (J 93) (mCo J) (J 94) m (J 100) n2 x u), l, kR f t sp) K) (n := dd) (g := fun _ b => b) ?_ 0).trans ?_
      · intro x b hx
        obtain ⟨N2, hN2⟩ := hs x
        refine e_X11_does_12.trans ?_
        simp only [e_X11_does_0, e_X11_does_1, e_X11_does_4, e_X11_does_5, e_X11_does_6, e_X11_does_7, e_X11_does_10, e_X11_does_11, e_X11_does_13, e_X11_does_14, e_X11_does_17, e_X11_does_18, e_X11_does_19, e_X11_does_22, e_X11_does_23, e_X11_does_24, e_X11_does_27, e_X11_does_30, e_X11_does_33, e_X11_does_36, e_X11_does_37, e_X11_does_38, e_X11_does_39, e_X11_does_40, e_X11_does_43, e_X11_does_44, e_X11_does_47, e_X11_does_48, e_X11_does_49, e_X11_does_50, e_X11_does_53, e_X11_does_54, e_X11_does_55, e_X11_does_56, e_X11_does_59, e_X11_does_60, e_X11_does_61, e_X11_does_64, e_X11_does_67, e_X11_does_68, e_X11_does_71, e_X11_does_72, ob_91, rk_91_29, ar_105, rk_91_30, ar_106, rk_91_8, ar_96, rk_91_31, ar_107, kcl_i, kcl_r, kcl_l, kcl_0, kcl_n, true_and, and_true, s2, kin60 hk, cl_n (show k < 100000 by omega), edd, jpF hx (by omega), if_false, m_turn b96 hm h8 hn hc hN2, rTs_s, tn_s, true_and]
      · refine e_X11_does_12.trans ?_
        simp only [e_X11_does_0, e_X11_does_1, e_X11_does_4, e_X11_does_5, e_X11_does_6, e_X11_does_7, e_X11_does_10, e_X11_does_11, e_X11_does_13, e_X11_does_14, e_X11_does_17, e_X11_does_18, e_X11_does_19, e_X11_does_22, e_X11_does_23, e_X11_does_24, e_X11_does_27, e_X11_does_30, e_X11_does_33, e_X11_does_36, e_X11_does_37, e_X11_does_38, e_X11_does_39, e_X11_does_40, e_X11_does_43, e_X11_does_44, e_X11_does_47, e_X11_does_48, e_X11_does_49, e_X11_does_50, e_X11_does_53, e_X11_does_54, e_X11_does_55, e_X11_does_56, e_X11_does_59, e_X11_does_60, e_X11_does_61, e_X11_does_64, e_X11_does_67, e_X11_does_68, e_X11_does_71, e_X11_does_72, ob_91, rk_91_29, ar_105, rk_91_30, ar_106, rk_91_8, ar_96, rk_91_31, ar_107, kcl_i, kcl_r, kcl_l, kcl_0, kcl_n, true_and, and_true, s2, kin60 hk, cl_n (show k < 100000 by omega), edd, Int32.le_refl, if_true, kbool_1, true_and]
  · have pre : ∀ (K : Option (Option Value) → kS → Prop), kWP sc (d + 7) 210 0 [.ref 91, .int (Int32.ofNat k), .retAddr 0] [] ((120, cu, su), mS J 96 u, l, kR f t sp) K = kWP sc (d + 2 + 5) 210 64 [.ref 91, .int (Int32.ofNat k), .retAddr 0] [.int (tAns (mCo J) (J 93) u.1 m (B k) (A k) (C k))] ((120, cu, su), mS J 96 (yTalkM (J 93) (mCo J) m u (B k) (A k) (C k)), l, kR f t sp) K := by
      intro K
      rw [show d + 7 = d + 2 + 5 from rfl]
      simp only [e_X11_does_0, e_X11_does_1, e_X11_does_4, e_X11_does_5, e_X11_does_6, e_X11_does_7, e_X11_does_10, e_X11_does_11, e_X11_does_13, e_X11_does_14, e_X11_does_17, e_X11_does_18, e_X11_does_19, e_X11_does_22, e_X11_does_23, e_X11_does_24, e_X11_does_27, e_X11_does_30, e_X11_does_33, e_X11_does_36, e_X11_does_37, e_X11_does_38, e_X11_does_39, e_X11_does_40, e_X11_does_43, e_X11_does_44, e_X11_does_47, e_X11_does_48, e_X11_does_49, e_X11_does_50, e_X11_does_53, e_X11_does_54, e_X11_does_55, e_X11_does_56, e_X11_does_59, e_X11_does_60, e_X11_does_61, e_X11_does_67, e_X11_does_68, e_X11_does_71, e_X11_does_72, ob_91, rk_91_29, ar_105, rk_91_30, ar_106, rk_91_8, ar_96, rk_91_31, ar_107, kcl_i, kcl_r, kcl_l, kcl_0, kcl_n, true_and, and_true, s1, s2, s3, kin60 hk, cl_n (show k < 100000 by omega), c1, not_false_eq_true, if_true, if_false, TK', true_and]
    constructor
    · intro h
      have hr := h.2
      have et : tAns (mCo J) (J 93) u.1 m (B k) (A k) (C k) = pRefuse (mCo J) (u.1 17) (u.1 18) (pPm u.1) (Int32.ofNat m) (B k) (A k) (C k) := by unfold tAns; rw [if_neg hr]
      have ey : yTalkM (J 93) (mCo J) m u (B k) (A k) (C k) = u := by unfold yTalkM tRow tZ; rw [if_neg hr, if_neg hr]
      have hneg := refuse_neg hr
      refine kCA_of (d := d + 7) (v := some (.int 0)) (fun K => ?_)
      rw [km_210]
      show kWP sc (d + 7) 210 0 [.ref 91, .int (Int32.ofNat k), .retAddr 0] [] _ K = _
      rw [pre, et, ey]
      simp only [e_X11_does_0, e_X11_does_1, e_X11_does_4, e_X11_does_5, e_X11_does_6, e_X11_does_7, e_X11_does_10, e_X11_does_11, e_X11_does_13, e_X11_does_14, e_X11_does_17, e_X11_does_18, e_X11_does_19, e_X11_does_22, e_X11_does_23, e_X11_does_24, e_X11_does_27, e_X11_does_30, e_X11_does_33, e_X11_does_36, e_X11_does_37, e_X11_does_38, e_X11_does_39, e_X11_does_40, e_X11_does_43, e_X11_does_44, e_X11_does_47, e_X11_does_48, e_X11_does_49, e_X11_does_50, e_X11_does_53, e_X11_does_54, e_X11_does_55, e_X11_does_56, e_X11_does_59, e_X11_does_60, e_X11_does_61, e_X11_does_64, e_X11_does_67, e_X11_does_68, e_X11_does_71, e_X11_does_72, ob_91, rk_91_29, ar_105, rk_91_30, ar_106, rk_91_8, ar_96, rk_91_31, ar_107, kcl_i, kcl_r, kcl_l, kcl_0, kcl_n, true_and, and_true, hneg, if_true, kbool_0, true_and]
    · intro h
      have hr : pRefuse (mCo J) (u.1 17) (u.1 18) (pPm u.1) (Int32.ofNat m) (B k) (A k) (C k) = 0 := Classical.byContradiction fun z => h ⟨c1, z⟩
      have et : tAns (mCo J) (J 93) u.1 m (B k) (A k) (C k) = rTalk (J 93) u.1 (B k).toNatClampNeg (A k) (C k) 19 := by unfold tAns; rw [if_pos hr]
      have hnn := hg h c1
      unfold aM
      rw [if_neg c1]
      refine kCA_of (d := d + 7) (v := some (.int 1)) (fun K => ?_)
      rw [km_210]
      show kWP sc (d + 7) 210 0 [.ref 91, .int (Int32.ofNat k), .retAddr 0] [] _ K = _
      rw [pre, et]
      simp only [e_X11_does_0, e_X11_does_1, e_X11_does_4, e_X11_does_5, e_X11_does_6, e_X11_does_7, e_X11_does_10, e_X11_does_11, e_X11_does_13, e_X11_does_14, e_X11_does_17, e_X11_does_18, e_X11_does_19, e_X11_does_22, e_X11_does_23, e_X11_does_24, e_X11_does_27, e_X11_does_30, e_X11_does_33, e_X11_does_36, e_X11_does_37, e_X11_does_38, e_X11_does_39, e_X11_does_40, e_X11_does_43, e_X11_does_44, e_X11_does_47, e_X11_does_48, e_X11_does_49, e_X11_does_50, e_X11_does_53, e_X11_does_54, e_X11_does_55, e_X11_does_56, e_X11_does_59, e_X11_does_60, e_X11_does_61, e_X11_does_64, e_X11_does_67, e_X11_does_68, e_X11_does_71, e_X11_does_72, ob_91, rk_91_29, ar_105, rk_91_30, ar_106, rk_91_8, ar_96, rk_91_31, ar_107, kcl_i, kcl_r, kcl_l, kcl_0, kcl_n, true_and, and_true, hnn, if_false, kbool_1, true_and]
end TC
