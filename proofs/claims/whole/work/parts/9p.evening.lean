/-! an evening's text: the class's check of its signs -/
section TC
variable {sc : Nat × (Nat → Int32)} {d y nx : Nat} {hd : List (Int × Nat)} {L st : List Value} {S : kS} {cu su : Nat} {i : Nat → Nat → Int32} {l : Nat → Nat → Int64} {f t c b m : Nat} {sp : Nat → Nat} {K : Option (Option Value) → kS → Prop}
variable {N M Z S1 Q A S : Nat → Int32} {n n2 k x a o g c h p to z : Nat} {v r q u : Int32} {T : Nat → Int32}
def wid (v : Int32) : Nat := if v = 110 ∨ v = 122 then 2 else 3
def kdO (v : Int32) : Int32 := if v = 98 then 3 else if v = 99 then 4 else if v = 113 then 2 else if v = 119 then 0 else if v = 122 then 1 else -1
theorem wid_23 : wid v = 2 ∨ wid v = 3 := by unfold wid; split <;> simp
theorem y_actSigns {v : Int32} : kCA sc (d + 1) 139 [.int v] y nx hd L st ((120, cu, su), i, l, kR f t sp) K = kWP sc (d + 1) y nx L (.int (Int32.ofNat (wid v)) :: st) ((120, cu, su), i, l, kR f t sp) K := by
  refine kCA_of (d := d) (v := some (.int (Int32.ofNat (wid v)))) (S2 := ((120, cu, su), i, l, kR f t sp)) (fun K => ?_)
  rw [km_139]
  show kWP sc (d) 139 0 [.int v] [] ((120, cu, su), i, l, kR f t sp) K = K (some (some (.int (Int32.ofNat (wid v))))) ((120, cu, su), i, l, kR f t sp)
  simp only [e_X10_actSigns_0, e_X10_actSigns_1, e_X10_actSigns_3, e_X10_actSigns_6, e_X10_actSigns_7, e_X10_actSigns_9, e_X10_actSigns_12, e_X10_actSigns_13, e_X10_actSigns_16, e_X10_actSigns_17, kcl_i, kcl_r, kcl_l, kcl_0, kcl_n, true_and, and_true]
  unfold wid
  by_cases q1 : v = 110
  · simp only [q1, if_true, true_or]; rfl
  · by_cases q2 : v = 122
    · simp only [q1, q2, if_true, if_false, or_true, not_true_eq_false]; rfl
    · simp only [q1, q2, if_false, or_self, not_false_eq_true, if_true]; rfl
theorem y_kindOf {v : Int32} : kCA sc (d + 1) 141 [.int v] y nx hd L st ((120, cu, su), i, l, kR f t sp) K = kWP sc (d + 1) y nx L (.int (kdO v) :: st) ((120, cu, su), i, l, kR f t sp) K := by
  refine kCA_of (d := d) (v := some (.int (kdO v))) (S2 := ((120, cu, su), i, l, kR f t sp)) (fun K => ?_)
  rw [km_141]
  show kWP sc (d) 141 0 [.int v] [] ((120, cu, su), i, l, kR f t sp) K = K (some (some (.int (kdO v)))) ((120, cu, su), i, l, kR f t sp)
  simp only [e_X10_kindOf_0, e_X10_kindOf_1, e_X10_kindOf_52, e_X10_kindOf_53, e_X10_kindOf_54, e_X10_kindOf_55, e_X10_kindOf_56, e_X10_kindOf_57, e_X10_kindOf_58, e_X10_kindOf_59, e_X10_kindOf_60, e_X10_kindOf_61, e_X10_kindOf_62, e_X10_kindOf_63, kcl_i, kcl_r, kcl_l, kcl_0, kcl_n, true_and, and_true]
  unfold kdO
  by_cases q1 : v = 98
  · subst q1; rfl
  by_cases q2 : v = 99
  · subst q2; rfl
  by_cases q3 : v = 113
  · subst q3; rfl
  by_cases q4 : v = 119
  · subst q4; rfl
  by_cases q5 : v = 122
  · subst q5; rfl
  simp only [q1, q2, q3, q4, q5, if_false]
/-- whether a sign can stand at a place of an act -/
def stA (v : Int32) (pl : Nat) (s : Int32) : Prop := if pl = 0 then (¬ kdO s = -1 ∨ s = 110) else if pl = 2 ∧ ¬ v = 113 then (¬ s < 97 ∧ ¬ 104 < s) else isDg s = true
theorem c_stands {pl : Nat} {v w : Int32} (hp : pl < 100000) : (stA v pl w → kCA sc (d + 2) 140 [.int v, .int (Int32.ofNat pl), .int w] y nx hd L st ((120, cu, su), i, l, kR f t sp) K = kWP sc (d + 2) y nx L (.int 1 :: st) ((120, cu, su), i, l, kR f t sp) K) ∧ (¬ stA v pl w → kCA sc (d + 2) 140 [.int v, .int (Int32.ofNat pl), .int w] y nx hd L st ((120, cu, su), i, l, kR f t sp) K = kWP sc (d + 2) y nx L (.int 0 :: st) ((120, cu, su), i, l, kR f t sp) K) := by
  have e0 : (Int32.ofNat pl = 0) = (pl = 0) := tn_z (by omega)
  have e2 : (Int32.ofNat pl = 2) = (pl = 2) := by rw [show (2 : Int32) = Int32.ofNat 2 from rfl, tn_eq (by omega) (by decide)]
  have z1 : kb False = 0 := rfl
  have key : ∀ r : Int32, ((stA v pl w ∧ r = 1) ∨ (¬ stA v pl w ∧ r = 0)) → kCA sc (d + 2) 140 [.int v, .int (Int32.ofNat pl), .int w] y nx hd L st ((120, cu, su), i, l, kR f t sp) K = kWP sc (d + 2) y nx L (.int r :: st) ((120, cu, su), i, l, kR f t sp) K := by
    intro r hr
    refine kCA_of (d := d + 1) (v := some (.int r)) (fun K => ?_)
    rw [km_140]
    show kWP sc (d + 1) 140 0 [.int v, .int (Int32.ofNat pl), .int w, .retAddr 0] [] _ K = _
    unfold stA at hr
    by_cases c1 : pl = 0
    · simp only [c1, if_true] at hr
      simp only [e_X10_standsInAct_0, e_X10_standsInAct_1, e_X10_standsInAct_4, e_X10_standsInAct_5, e_X10_standsInAct_8, e_X10_standsInAct_9, e_X10_standsInAct_12, e_X10_standsInAct_13, e_X10_standsInAct_15, e_X10_standsInAct_18, e_X10_standsInAct_19, e_X10_standsInAct_22, e_X10_standsInAct_23, e_X10_standsInAct_24, e_X10_standsInAct_25, e_X10_standsInAct_26, e_X10_standsInAct_29, e_X10_standsInAct_30, e_X10_standsInAct_32, e_X10_standsInAct_35, e_X10_standsInAct_36, e_X10_standsInAct_39, e_X10_standsInAct_40, e_X10_standsInAct_41, e_X10_standsInAct_42, e_X10_standsInAct_45, e_X10_standsInAct_46, e_X10_standsInAct_48, e_X10_standsInAct_51, e_X10_standsInAct_52, e_X10_standsInAct_54, e_X10_standsInAct_57, e_X10_standsInAct_58, e_X10_standsInAct_61, e_X10_standsInAct_62, e_X10_standsInAct_65, e_X10_standsInAct_66, e_X10_standsInAct_69, kcl_i, kcl_r, kcl_l, kcl_0, kcl_n, true_and, and_true, e0, c1, not_true_eq_false, if_false, y_kindOf, if_true]
      simp only [show (Int32.ofNat 0 = 0) = True from eq_true rfl, if_true, not_true_eq_false, if_false]
      by_cases c2 : kdO w = -1
      · by_cases c3 : w = 110
        · have : r = 1 := by rcases hr with z | z; exact z.2; exact absurd (Or.inr c3) z.1
          subst this
          simp only [c2, c3, not_true_eq_false, if_false, if_true, kbool_1, true_and, ite_self]
        · have : r = 0 := by
            rcases hr with z | z
            · rcases z.1 with y | y
              · exact absurd c2 y
              · exact absurd y c3
            · exact z.2
          subst this
          simp only [c2, c3, not_true_eq_false, not_false_eq_true, if_false, if_true, kbool_0, true_and]
      · have : r = 1 := by rcases hr with z | z; exact z.2; exact absurd (Or.inl c2) z.1
        subst this
        simp only [c2, not_false_eq_true, if_false, if_true, kbool_1, true_and]
    · simp only [eq_false c1, if_false] at hr
      by_cases c2 : pl = 2 ∧ ¬ v = 113
      · simp only [eq_true c2, if_true] at hr
        have c21 : (pl = 2) = True := eq_true c2.1
        have c22 : (v = 113) = False := eq_false c2.2
        by_cases c3 : w < 97
        · have : r = 0 := by rcases hr with z | z; exact absurd c3 z.1.1; exact z.2
          subst this
          simp only [e_X10_standsInAct_0, e_X10_standsInAct_1, e_X10_standsInAct_4, e_X10_standsInAct_5, e_X10_standsInAct_8, e_X10_standsInAct_9, e_X10_standsInAct_12, e_X10_standsInAct_13, e_X10_standsInAct_15, e_X10_standsInAct_18, e_X10_standsInAct_19, e_X10_standsInAct_22, e_X10_standsInAct_23, e_X10_standsInAct_24, e_X10_standsInAct_25, e_X10_standsInAct_26, e_X10_standsInAct_29, e_X10_standsInAct_30, e_X10_standsInAct_32, e_X10_standsInAct_35, e_X10_standsInAct_36, e_X10_standsInAct_39, e_X10_standsInAct_40, e_X10_standsInAct_41, e_X10_standsInAct_42, e_X10_standsInAct_45, e_X10_standsInAct_46, e_X10_standsInAct_48, e_X10_standsInAct_51, e_X10_standsInAct_52, e_X10_standsInAct_54, e_X10_standsInAct_57, e_X10_standsInAct_58, e_X10_standsInAct_61, e_X10_standsInAct_62, e_X10_standsInAct_65, e_X10_standsInAct_66, e_X10_standsInAct_69, kcl_i, kcl_r, kcl_l, kcl_0, kcl_n, true_and, and_true, e0, e2, eq_false c1, c21, c22, not_true_eq_false, not_false_eq_true, if_false, if_true, z10, c3, kbool_0, true_and]
        · by_cases c4 : 104 < w
          · have : r = 0 := by rcases hr with z | z; exact absurd c4 z.1.2; exact z.2
            subst this
            simp only [e_X10_standsInAct_0, e_X10_standsInAct_1, e_X10_standsInAct_4, e_X10_standsInAct_5, e_X10_standsInAct_8, e_X10_standsInAct_9, e_X10_standsInAct_12, e_X10_standsInAct_13, e_X10_standsInAct_15, e_X10_standsInAct_18, e_X10_standsInAct_19, e_X10_standsInAct_22, e_X10_standsInAct_23, e_X10_standsInAct_24, e_X10_standsInAct_25, e_X10_standsInAct_26, e_X10_standsInAct_29, e_X10_standsInAct_30, e_X10_standsInAct_32, e_X10_standsInAct_35, e_X10_standsInAct_36, e_X10_standsInAct_39, e_X10_standsInAct_40, e_X10_standsInAct_41, e_X10_standsInAct_42, e_X10_standsInAct_45, e_X10_standsInAct_46, e_X10_standsInAct_48, e_X10_standsInAct_51, e_X10_standsInAct_52, e_X10_standsInAct_54, e_X10_standsInAct_57, e_X10_standsInAct_58, e_X10_standsInAct_61, e_X10_standsInAct_62, e_X10_standsInAct_65, e_X10_standsInAct_66, e_X10_standsInAct_69, kcl_i, kcl_r, kcl_l, kcl_0, kcl_n, true_and, and_true, e0, e2, eq_false c1, c21, c22, not_true_eq_false, not_false_eq_true, if_false, if_true, z10, c3, c4, kbool_0, true_and]
          · have : r = 1 := by rcases hr with z | z; exact z.2; exact absurd ⟨c3, c4⟩ z.1
            subst this
            simp only [e_X10_standsInAct_0, e_X10_standsInAct_1, e_X10_standsInAct_4, e_X10_standsInAct_5, e_X10_standsInAct_8, e_X10_standsInAct_9, e_X10_standsInAct_12, e_X10_standsInAct_13, e_X10_standsInAct_15, e_X10_standsInAct_18, e_X10_standsInAct_19, e_X10_standsInAct_22, e_X10_standsInAct_23, e_X10_standsInAct_24, e_X10_standsInAct_25, e_X10_standsInAct_26, e_X10_standsInAct_29, e_X10_standsInAct_30, e_X10_standsInAct_32, e_X10_standsInAct_35, e_X10_standsInAct_36, e_X10_standsInAct_39, e_X10_standsInAct_40, e_X10_standsInAct_41, e_X10_standsInAct_42, e_X10_standsInAct_45, e_X10_standsInAct_46, e_X10_standsInAct_48, e_X10_standsInAct_51, e_X10_standsInAct_52, e_X10_standsInAct_54, e_X10_standsInAct_57, e_X10_standsInAct_58, e_X10_standsInAct_61, e_X10_standsInAct_62, e_X10_standsInAct_65, e_X10_standsInAct_66, e_X10_standsInAct_69, kcl_i, kcl_r, kcl_l, kcl_0, kcl_n, true_and, and_true, e0, e2, eq_false c1, c21, c22, not_true_eq_false, not_false_eq_true, if_false, if_true, z10, c3, c4, kbool_1, true_and]
      · simp only [eq_false c2, if_false] at hr
        have hk : kb (¬ w < 48 ∧ ¬ 57 < w) = r := by
          rcases hr with z | z
          · rw [z.2]; exact kb_t (isDg_iff.1 z.1)
          · rw [z.2]; exact kb_f (fun q => z.1 (isDg_iff.2 q))
        by_cases c3 : pl = 2
        · have c4 : v = 113 := Classical.byContradiction fun q => c2 ⟨c3, q⟩
          simp only [e_X10_standsInAct_0, e_X10_standsInAct_1, e_X10_standsInAct_4, e_X10_standsInAct_5, e_X10_standsInAct_8, e_X10_standsInAct_9, e_X10_standsInAct_12, e_X10_standsInAct_13, e_X10_standsInAct_15, e_X10_standsInAct_18, e_X10_standsInAct_19, e_X10_standsInAct_22, e_X10_standsInAct_23, e_X10_standsInAct_24, e_X10_standsInAct_25, e_X10_standsInAct_26, e_X10_standsInAct_29, e_X10_standsInAct_30, e_X10_standsInAct_32, e_X10_standsInAct_35, e_X10_standsInAct_36, e_X10_standsInAct_39, e_X10_standsInAct_40, e_X10_standsInAct_41, e_X10_standsInAct_42, e_X10_standsInAct_45, e_X10_standsInAct_46, e_X10_standsInAct_48, e_X10_standsInAct_51, e_X10_standsInAct_52, e_X10_standsInAct_54, e_X10_standsInAct_57, e_X10_standsInAct_58, e_X10_standsInAct_61, e_X10_standsInAct_62, e_X10_standsInAct_65, e_X10_standsInAct_66, e_X10_standsInAct_69, kcl_i, kcl_r, kcl_l, kcl_0, kcl_n, true_and, and_true, e0, e2, eq_false c1, eq_true c3, eq_true c4, not_true_eq_false, not_false_eq_true, if_false, if_true, c_isDigit, kb_ok, hk, true_and]
          rw [← hk, kb_ok]; simp only [true_and]
        · simp only [e_X10_standsInAct_0, e_X10_standsInAct_1, e_X10_standsInAct_4, e_X10_standsInAct_5, e_X10_standsInAct_8, e_X10_standsInAct_9, e_X10_standsInAct_12, e_X10_standsInAct_13, e_X10_standsInAct_15, e_X10_standsInAct_18, e_X10_standsInAct_19, e_X10_standsInAct_22, e_X10_standsInAct_23, e_X10_standsInAct_24, e_X10_standsInAct_25, e_X10_standsInAct_26, e_X10_standsInAct_29, e_X10_standsInAct_30, e_X10_standsInAct_32, e_X10_standsInAct_35, e_X10_standsInAct_36, e_X10_standsInAct_39, e_X10_standsInAct_40, e_X10_standsInAct_41, e_X10_standsInAct_42, e_X10_standsInAct_45, e_X10_standsInAct_46, e_X10_standsInAct_48, e_X10_standsInAct_51, e_X10_standsInAct_52, e_X10_standsInAct_54, e_X10_standsInAct_57, e_X10_standsInAct_58, e_X10_standsInAct_61, e_X10_standsInAct_62, e_X10_standsInAct_65, e_X10_standsInAct_66, e_X10_standsInAct_69, kcl_i, kcl_r, kcl_l, kcl_0, kcl_n, true_and, and_true, e0, e2, eq_false c1, eq_false c3, not_true_eq_false, not_false_eq_true, if_false, if_true, c_isDigit, kb_ok, hk, true_and]
          rw [← hk, kb_ok]; simp only [true_and]
  exact ⟨fun h => key 1 (Or.inl ⟨h, rfl⟩), fun h => key 0 (Or.inr ⟨h, rfl⟩)⟩
/-- where the act begins -/
def eSt (T : Nat → Int32) (x : Nat) : Nat := kfo (fun x s => if x = s + wid (T s) then x else s) x 0
theorem eSt_s : eSt T (x + 1) = if x = eSt T x + wid (T (eSt T x)) then x else eSt T x := rfl
theorem eSt_le : ∀ x, eSt T x ≤ x ∧ eSt T (x + 1) ≤ x := by
  intro x
  induction x with
  | zero => exact ⟨Nat.le_refl _, by rw [eSt_s]; split <;> exact Nat.le_refl _⟩
  | succ x ih =>
    refine ⟨by have := ih.2; omega, ?_⟩
    rw [eSt_s (x := x + 1)]
    have := ih.2
    split <;> omega
def eBad (T : Nat → Int32) (x : Nat) : Prop := ¬ stA (T (eSt T (x + 1))) (x - eSt T (x + 1)) (T x)
def eCut (T : Nat → Int32) (to : Nat) : Prop := 0 < to ∧ to - eSt T to < wid (T (eSt T to))
/-- a call of badEveningSign -/
def BE (i : Nat → Nat → Int32) (r : Int32) : Prop :=
  ∀ (sc : Nat × (Nat → Int32)) (d y nx : Nat) (hd : List (Int × Nat)) (L st : List Value) (cu su : Nat) (l : Nat → Nat → Int64) (f t : Nat) (sp : Nat → Nat) (K : Option (Option Value) → kS → Prop), kCA sc (d + 4) 138 [.ref 0] y nx hd L st ((120, cu, su), i, l, kR f t sp) K = kWP sc (d + 4) y nx L (.int r :: st) ((120, cu, su), i, l, kR f t sp) K
theorem l_bad (hn : i 1 1 = Int32.ofNat n) (h80 : n ≤ 80) (hT : ∀ x, x < n → i 2 x = T x) (hto : to ≤ n ∧ to ≤ 60) : ∀ k, k ≤ to → (∀ z, z < k → ¬ eBad T z) → ∀ (sc : Nat × (Nat → Int32)) (d cu su : Nat) (l : Nat → Nat → Int64) (f t : Nat) (sp : Nat → Nat) (K : Option (Option Value) → kS → Prop), kWP sc (d + 3) 138 17 [.ref 0, .int (Int32.ofNat to), .int (Int32.ofNat 0), .int (Int32.ofNat 0)] [] ((120, cu, su), i, l, kR f t sp) K = kWP sc (d + 3) 138 17 [.ref 0, .int (Int32.ofNat to), .int (Int32.ofNat (eSt T k)), .int (Int32.ofNat k)] [] ((120, cu, su), i, l, kR f t sp) K := by
  intro k
  induction k with
  | zero => intro _ _ sc d cu su l f t sp K; rfl
  | succ k ih =>
    intro hk hb sc d cu su l f t sp K
    refine (ih (by omega) (fun z hz => hb z (by omega)) sc d cu su l f t sp K).trans ?_
    have hle := @eSt_le T k
    have hnb : stA (T (eSt T (k + 1))) (k - eSt T (k + 1)) (T k) := Classical.byContradiction fun q => hb k (by omega) q
    have a1 : tA T n (eSt T k) = T (eSt T k) := by unfold tA; rw [if_pos (by omega)]
    have a2 : tA T n (eSt T (k + 1)) = T (eSt T (k + 1)) := by unfold tA; rw [if_pos (by omega)]
    have a3 : tA T n k = T k := by unfold tA; rw [if_pos (by omega)]
    have w3 := @wid_23 (T (eSt T k))
    have eadd : Int32.ofNat (eSt T k) + Int32.ofNat (wid (T (eSt T k))) = Int32.ofNat (eSt T k + wid (T (eSt T k))) := (Int32.ofNat_add _ _).symm
    have eeq : (Int32.ofNat k = Int32.ofNat (eSt T k + wid (T (eSt T k)))) = (k = eSt T k + wid (T (eSt T k))) := tn_eq (by omega) (by omega)
    have hsub : Int32.ofNat k - Int32.ofNat (eSt T (k + 1)) = Int32.ofNat (k - eSt T (k + 1)) := sub_nat hle.2
    refine e_X10_badEveningSign_17.trans ?_
    by_cases c : k = eSt T k + wid (T (eSt T k))
    · have es : eSt T (k + 1) = k := by rw [eSt_s, if_pos c]
      rw [es] at hsub hnb a2 ⊢
      simp only [e_X10_badEveningSign_0, e_X10_badEveningSign_1, e_X10_badEveningSign_4, e_X10_badEveningSign_7, e_X10_badEveningSign_9, e_X10_badEveningSign_12, e_X10_badEveningSign_13, e_X10_badEveningSign_14, e_X10_badEveningSign_15, e_X10_badEveningSign_16, e_X10_badEveningSign_18, e_X10_badEveningSign_19, e_X10_badEveningSign_22, e_X10_badEveningSign_23, e_X10_badEveningSign_24, e_X10_badEveningSign_25, e_X10_badEveningSign_28, e_X10_badEveningSign_29, e_X10_badEveningSign_32, e_X10_badEveningSign_35, e_X10_badEveningSign_36, e_X10_badEveningSign_39, e_X10_badEveningSign_40, e_X10_badEveningSign_41, e_X10_badEveningSign_42, e_X10_badEveningSign_45, e_X10_badEveningSign_46, e_X10_badEveningSign_49, e_X10_badEveningSign_50, e_X10_badEveningSign_51, e_X10_badEveningSign_52, e_X10_badEveningSign_53, e_X10_badEveningSign_56, e_X10_badEveningSign_57, e_X10_badEveningSign_60, e_X10_badEveningSign_63, e_X10_badEveningSign_66, e_X10_badEveningSign_67, e_X10_badEveningSign_68, e_X10_badEveningSign_71, e_X10_badEveningSign_74, e_X10_badEveningSign_75, e_X10_badEveningSign_78, e_X10_badEveningSign_79, e_X10_badEveningSign_80, e_X10_badEveningSign_81, e_X10_badEveningSign_82, e_X10_badEveningSign_85, e_X10_badEveningSign_86, e_X10_badEveningSign_89, e_X10_badEveningSign_92, e_X10_badEveningSign_95, e_X10_badEveningSign_96, e_X10_badEveningSign_99, e_X10_badEveningSign_100, e_X10_badEveningSign_101, e_X10_badEveningSign_102, e_X10_badEveningSign_105, e_X10_badEveningSign_106, e_X10_badEveningSign_109, e_X10_badEveningSign_112, e_X10_badEveningSign_114, e_X10_badEveningSign_117, e_X10_badEveningSign_118, e_X10_badEveningSign_121, e_X10_badEveningSign_122, ob_0, rk_0_0, ob_1, kcl_i, kcl_r, kcl_l, kcl_0, kcl_n, true_and, and_true, jpF (show k < to by omega) (by omega), if_false, c_atN hn h80 hT (show eSt T k < 100000 by omega), a1, y_actSigns, eadd, eeq, eq_true c, not_true_eq_false, if_true, c_atN hn h80 hT (show k < 100000 by omega), a3, hsub, (c_stands (show k - k < 100000 by omega)).1 hnb, z10, tn_s]
    · have es : eSt T (k + 1) = eSt T k := by rw [eSt_s, if_neg c]
      rw [es] at hsub hnb a2 ⊢
      simp only [e_X10_badEveningSign_0, e_X10_badEveningSign_1, e_X10_badEveningSign_4, e_X10_badEveningSign_7, e_X10_badEveningSign_9, e_X10_badEveningSign_12, e_X10_badEveningSign_13, e_X10_badEveningSign_14, e_X10_badEveningSign_15, e_X10_badEveningSign_16, e_X10_badEveningSign_18, e_X10_badEveningSign_19, e_X10_badEveningSign_22, e_X10_badEveningSign_23, e_X10_badEveningSign_24, e_X10_badEveningSign_25, e_X10_badEveningSign_28, e_X10_badEveningSign_29, e_X10_badEveningSign_32, e_X10_badEveningSign_35, e_X10_badEveningSign_36, e_X10_badEveningSign_39, e_X10_badEveningSign_40, e_X10_badEveningSign_41, e_X10_badEveningSign_42, e_X10_badEveningSign_45, e_X10_badEveningSign_46, e_X10_badEveningSign_49, e_X10_badEveningSign_50, e_X10_badEveningSign_51, e_X10_badEveningSign_52, e_X10_badEveningSign_53, e_X10_badEveningSign_56, e_X10_badEveningSign_57, e_X10_badEveningSign_60, e_X10_badEveningSign_63, e_X10_badEveningSign_66, e_X10_badEveningSign_67, e_X10_badEveningSign_68, e_X10_badEveningSign_71, e_X10_badEveningSign_74, e_X10_badEveningSign_75, e_X10_badEveningSign_78, e_X10_badEveningSign_79, e_X10_badEveningSign_80, e_X10_badEveningSign_81, e_X10_badEveningSign_82, e_X10_badEveningSign_85, e_X10_badEveningSign_86, e_X10_badEveningSign_89, e_X10_badEveningSign_92, e_X10_badEveningSign_95, e_X10_badEveningSign_96, e_X10_badEveningSign_99, e_X10_badEveningSign_100, e_X10_badEveningSign_101, e_X10_badEveningSign_102, e_X10_badEveningSign_105, e_X10_badEveningSign_106, e_X10_badEveningSign_109, e_X10_badEveningSign_112, e_X10_badEveningSign_114, e_X10_badEveningSign_117, e_X10_badEveningSign_118, e_X10_badEveningSign_121, e_X10_badEveningSign_122, ob_0, rk_0_0, ob_1, kcl_i, kcl_r, kcl_l, kcl_0, kcl_n, true_and, and_true, jpF (show k < to by omega) (by omega), if_false, c_atN hn h80 hT (show eSt T k < 100000 by omega), a1, y_actSigns, eadd, eeq, eq_false c, not_false_eq_true, if_true, c_atN hn h80 hT (show k < 100000 by omega), a3, hsub, (c_stands (show k - eSt T k < 100000 by omega)).1 hnb, z10, tn_s]
theorem c_bad (hn : i 1 1 = Int32.ofNat n) (h80 : n ≤ 80) (hT : ∀ x, x < n → i 2 x = T x) (hto : to = min n 60) :
    (∀ z, z < to → (∀ y, y < z → ¬ eBad T y) → eBad T z → BE i (Int32.ofNat z)) ∧
    ((∀ y, y < to → ¬ eBad T y) → (eCut T to ∨ 60 < n) → BE i (Int32.ofNat to)) ∧
    ((∀ y, y < to → ¬ eBad T y) → ¬ (eCut T to ∨ 60 < n) → BE i (-1)) := by
  have hto' : to ≤ n ∧ to ≤ 60 := by omega
  have emin : (if (60 : Int32) < Int32.ofNat n then (60 : Int32) else Int32.ofNat n) = Int32.ofNat to := by
    rw [show (60 : Int32) = Int32.ofNat 60 from rfl]
    by_cases c : 60 < n
    · rw [if_pos (by rw [tn_lt (by decide) (by omega)]; exact c), hto, Nat.min_eq_right (by omega)]
    · rw [if_neg (by rw [tn_lt (by decide) (by omega)]; exact c), hto, Nat.min_eq_left (by omega)]
  have e60 : (Int32.ofNat n ≤ 60) = (n ≤ 60) := by rw [show (60 : Int32) = Int32.ofNat 60 from rfl, tn_le (by omega) (by decide)]
  have start : ∀ (k : Nat), k ≤ to → (∀ z, z < k → ¬ eBad T z) → ∀ (sc : Nat × (Nat → Int32)) (d cu su : Nat) (l : Nat → Nat → Int64) (f t : Nat) (sp : Nat → Nat) (K : Option (Option Value) → kS → Prop), kWP sc (d + 3) 138 0 [.ref 0, .retAddr 0, .retAddr 0, .retAddr 0] [] ((120, cu, su), i, l, kR f t sp) K = kWP sc (d + 3) 138 17 [.ref 0, .int (Int32.ofNat to), .int (Int32.ofNat (eSt T k)), .int (Int32.ofNat k)] [] ((120, cu, su), i, l, kR f t sp) K := by
    intro k hk hb sc d cu su l f t sp K
    rw [← l_bad hn h80 hT hto' k hk hb]
    simp only [e_X10_badEveningSign_0, e_X10_badEveningSign_1, e_X10_badEveningSign_4, e_X10_badEveningSign_7, e_X10_badEveningSign_9, e_X10_badEveningSign_12, e_X10_badEveningSign_13, e_X10_badEveningSign_14, e_X10_badEveningSign_15, e_X10_badEveningSign_16, e_X10_badEveningSign_18, e_X10_badEveningSign_19, e_X10_badEveningSign_22, e_X10_badEveningSign_23, e_X10_badEveningSign_24, e_X10_badEveningSign_25, e_X10_badEveningSign_28, e_X10_badEveningSign_29, e_X10_badEveningSign_32, e_X10_badEveningSign_35, e_X10_badEveningSign_36, e_X10_badEveningSign_39, e_X10_badEveningSign_40, e_X10_badEveningSign_41, e_X10_badEveningSign_42, e_X10_badEveningSign_45, e_X10_badEveningSign_46, e_X10_badEveningSign_49, e_X10_badEveningSign_50, e_X10_badEveningSign_51, e_X10_badEveningSign_52, e_X10_badEveningSign_53, e_X10_badEveningSign_56, e_X10_badEveningSign_57, e_X10_badEveningSign_60, e_X10_badEveningSign_63, e_X10_badEveningSign_66, e_X10_badEveningSign_67, e_X10_badEveningSign_68, e_X10_badEveningSign_71, e_X10_badEveningSign_74, e_X10_badEveningSign_75, e_X10_badEveningSign_78, e_X10_badEveningSign_79, e_X10_badEveningSign_80, e_X10_badEveningSign_81, e_X10_badEveningSign_82, e_X10_badEveningSign_85, e_X10_badEveningSign_86, e_X10_badEveningSign_89, e_X10_badEveningSign_92, e_X10_badEveningSign_95, e_X10_badEveningSign_96, e_X10_badEveningSign_99, e_X10_badEveningSign_100, e_X10_badEveningSign_101, e_X10_badEveningSign_102, e_X10_badEveningSign_105, e_X10_badEveningSign_106, e_X10_badEveningSign_109, e_X10_badEveningSign_112, e_X10_badEveningSign_114, e_X10_badEveningSign_117, e_X10_badEveningSign_118, e_X10_badEveningSign_121, e_X10_badEveningSign_122, ob_0, rk_0_0, ob_1, kcl_i, kcl_r, kcl_l, kcl_0, kcl_n, true_and, and_true, hn, emin]
    rfl
  have fin : (∀ y, y < to → ¬ eBad T y) → ∀ r : Int32, (((eCut T to ∨ 60 < n) ∧ r = Int32.ofNat to) ∨ (¬ (eCut T to ∨ 60 < n) ∧ r = -1)) → BE i r := by
    intro hb r hr sc d y nx hd L st cu su l f t sp K
    refine kCA_of (d := d + 3) (v := some (.int r)) (fun K => ?_)
    rw [km_138]
    show kWP sc (d + 3) 138 0 [.ref 0, .retAddr 0, .retAddr 0, .retAddr 0] [] _ K = _
    rw [start to (Nat.le_refl _) hb]
    have hle := @eSt_le T to
    have w3 := @wid_23 (T (eSt T to))
    refine e_X10_badEveningSign_17.trans ?_
    by_cases c0 : 0 < to
    · have hlt : eSt T to < to := by
        cases to with
        | zero => omega
        | succ z => have := (@eSt_le T z).2; omega
      have a1 : tA T n (eSt T to) = T (eSt T to) := by unfold tA; rw [if_pos (by omega)]
      have hsub : Int32.ofNat to - Int32.ofNat (eSt T to) = Int32.ofNat (to - eSt T to) := sub_nat hle.1
      have ec : (Int32.ofNat (wid (T (eSt T to))) ≤ Int32.ofNat (to - eSt T to)) = (wid (T (eSt T to)) ≤ to - eSt T to) := tn_le (by omega) (by omega)
      by_cases c1 : wid (T (eSt T to)) ≤ to - eSt T to
      · have nc : ¬ eCut T to := fun q => by have := q.2; omega
        by_cases c2 : n ≤ 60
        · have er : r = -1 := by
            rcases hr with ⟨q | q, _⟩ | q
            · exact absurd q nc
            · omega
            · exact q.2
          subst er
          simp only [e_X10_badEveningSign_0, e_X10_badEveningSign_1, e_X10_badEveningSign_4, e_X10_badEveningSign_7, e_X10_badEveningSign_9, e_X10_badEveningSign_12, e_X10_badEveningSign_13, e_X10_badEveningSign_14, e_X10_badEveningSign_15, e_X10_badEveningSign_16, e_X10_badEveningSign_18, e_X10_badEveningSign_19, e_X10_badEveningSign_22, e_X10_badEveningSign_23, e_X10_badEveningSign_24, e_X10_badEveningSign_25, e_X10_badEveningSign_28, e_X10_badEveningSign_29, e_X10_badEveningSign_32, e_X10_badEveningSign_35, e_X10_badEveningSign_36, e_X10_badEveningSign_39, e_X10_badEveningSign_40, e_X10_badEveningSign_41, e_X10_badEveningSign_42, e_X10_badEveningSign_45, e_X10_badEveningSign_46, e_X10_badEveningSign_49, e_X10_badEveningSign_50, e_X10_badEveningSign_51, e_X10_badEveningSign_52, e_X10_badEveningSign_53, e_X10_badEveningSign_56, e_X10_badEveningSign_57, e_X10_badEveningSign_60, e_X10_badEveningSign_63, e_X10_badEveningSign_66, e_X10_badEveningSign_67, e_X10_badEveningSign_68, e_X10_badEveningSign_71, e_X10_badEveningSign_74, e_X10_badEveningSign_75, e_X10_badEveningSign_78, e_X10_badEveningSign_79, e_X10_badEveningSign_80, e_X10_badEveningSign_81, e_X10_badEveningSign_82, e_X10_badEveningSign_85, e_X10_badEveningSign_86, e_X10_badEveningSign_89, e_X10_badEveningSign_92, e_X10_badEveningSign_95, e_X10_badEveningSign_96, e_X10_badEveningSign_99, e_X10_badEveningSign_100, e_X10_badEveningSign_101, e_X10_badEveningSign_102, e_X10_badEveningSign_105, e_X10_badEveningSign_106, e_X10_badEveningSign_109, e_X10_badEveningSign_112, e_X10_badEveningSign_114, e_X10_badEveningSign_117, e_X10_badEveningSign_118, e_X10_badEveningSign_121, e_X10_badEveningSign_122, ob_0, rk_0_0, ob_1, kcl_i, kcl_r, kcl_l, kcl_0, kcl_n, true_and, and_true, Int32.le_refl, le0_nat (show to < 100000 by omega), c0, not_true_eq_false, if_true, if_false, hsub, c_atN hn h80 hT (show eSt T to < 100000 by omega), a1, y_actSigns, ec, c1, hn, e60, c2]
        · have er : r = Int32.ofNat to := by
            rcases hr with q | q
            · exact q.2
            · exact absurd (Or.inr (by omega)) q.1
          subst er
          simp only [e_X10_badEveningSign_0, e_X10_badEveningSign_1, e_X10_badEveningSign_4, e_X10_badEveningSign_7, e_X10_badEveningSign_9, e_X10_badEveningSign_12, e_X10_badEveningSign_13, e_X10_badEveningSign_14, e_X10_badEveningSign_15, e_X10_badEveningSign_16, e_X10_badEveningSign_18, e_X10_badEveningSign_19, e_X10_badEveningSign_22, e_X10_badEveningSign_23, e_X10_badEveningSign_24, e_X10_badEveningSign_25, e_X10_badEveningSign_28, e_X10_badEveningSign_29, e_X10_badEveningSign_32, e_X10_badEveningSign_35, e_X10_badEveningSign_36, e_X10_badEveningSign_39, e_X10_badEveningSign_40, e_X10_badEveningSign_41, e_X10_badEveningSign_42, e_X10_badEveningSign_45, e_X10_badEveningSign_46, e_X10_badEveningSign_49, e_X10_badEveningSign_50, e_X10_badEveningSign_51, e_X10_badEveningSign_52, e_X10_badEveningSign_53, e_X10_badEveningSign_56, e_X10_badEveningSign_57, e_X10_badEveningSign_60, e_X10_badEveningSign_63, e_X10_badEveningSign_66, e_X10_badEveningSign_67, e_X10_badEveningSign_68, e_X10_badEveningSign_71, e_X10_badEveningSign_74, e_X10_badEveningSign_75, e_X10_badEveningSign_78, e_X10_badEveningSign_79, e_X10_badEveningSign_80, e_X10_badEveningSign_81, e_X10_badEveningSign_82, e_X10_badEveningSign_85, e_X10_badEveningSign_86, e_X10_badEveningSign_89, e_X10_badEveningSign_92, e_X10_badEveningSign_95, e_X10_badEveningSign_96, e_X10_badEveningSign_99, e_X10_badEveningSign_100, e_X10_badEveningSign_101, e_X10_badEveningSign_102, e_X10_badEveningSign_105, e_X10_badEveningSign_106, e_X10_badEveningSign_109, e_X10_badEveningSign_112, e_X10_badEveningSign_114, e_X10_badEveningSign_117, e_X10_badEveningSign_118, e_X10_badEveningSign_121, e_X10_badEveningSign_122, ob_0, rk_0_0, ob_1, kcl_i, kcl_r, kcl_l, kcl_0, kcl_n, true_and, and_true, Int32.le_refl, le0_nat (show to < 100000 by omega), c0, not_true_eq_false, if_true, if_false, hsub, c_atN hn h80 hT (show eSt T to < 100000 by omega), a1, y_actSigns, ec, c1, hn, e60, c2]
      · have yc : eCut T to := ⟨c0, by omega⟩
        have er : r = Int32.ofNat to := by
          rcases hr with q | q
          · exact q.2
          · exact absurd (Or.inl yc) q.1
        subst er
        simp only [e_X10_badEveningSign_0, e_X10_badEveningSign_1, e_X10_badEveningSign_4, e_X10_badEveningSign_7, e_X10_badEveningSign_9, e_X10_badEveningSign_12, e_X10_badEveningSign_13, e_X10_badEveningSign_14, e_X10_badEveningSign_15, e_X10_badEveningSign_16, e_X10_badEveningSign_18, e_X10_badEveningSign_19, e_X10_badEveningSign_22, e_X10_badEveningSign_23, e_X10_badEveningSign_24, e_X10_badEveningSign_25, e_X10_badEveningSign_28, e_X10_badEveningSign_29, e_X10_badEveningSign_32, e_X10_badEveningSign_35, e_X10_badEveningSign_36, e_X10_badEveningSign_39, e_X10_badEveningSign_40, e_X10_badEveningSign_41, e_X10_badEveningSign_42, e_X10_badEveningSign_45, e_X10_badEveningSign_46, e_X10_badEveningSign_49, e_X10_badEveningSign_50, e_X10_badEveningSign_51, e_X10_badEveningSign_52, e_X10_badEveningSign_53, e_X10_badEveningSign_56, e_X10_badEveningSign_57, e_X10_badEveningSign_60, e_X10_badEveningSign_63, e_X10_badEveningSign_66, e_X10_badEveningSign_67, e_X10_badEveningSign_68, e_X10_badEveningSign_71, e_X10_badEveningSign_74, e_X10_badEveningSign_75, e_X10_badEveningSign_78, e_X10_badEveningSign_79, e_X10_badEveningSign_80, e_X10_badEveningSign_81, e_X10_badEveningSign_82, e_X10_badEveningSign_85, e_X10_badEveningSign_86, e_X10_badEveningSign_89, e_X10_badEveningSign_92, e_X10_badEveningSign_95, e_X10_badEveningSign_96, e_X10_badEveningSign_99, e_X10_badEveningSign_100, e_X10_badEveningSign_101, e_X10_badEveningSign_102, e_X10_badEveningSign_105, e_X10_badEveningSign_106, e_X10_badEveningSign_109, e_X10_badEveningSign_112, e_X10_badEveningSign_114, e_X10_badEveningSign_117, e_X10_badEveningSign_118, e_X10_badEveningSign_121, e_X10_badEveningSign_122, ob_0, rk_0_0, ob_1, kcl_i, kcl_r, kcl_l, kcl_0, kcl_n, true_and, and_true, Int32.le_refl, le0_nat (show to < 100000 by omega), c0, not_true_eq_false, if_true, if_false, hsub, c_atN hn h80 hT (show eSt T to < 100000 by omega), a1, y_actSigns, ec, c1, z10]
    · have nc : ¬ eCut T to := fun q => c0 q.1
      have c2 : n ≤ 60 := by omega
      have er : r = -1 := by
        rcases hr with ⟨q | q, _⟩ | q
        · exact absurd q nc
        · omega
        · exact q.2
      subst er
      simp only [e_X10_badEveningSign_0, e_X10_badEveningSign_1, e_X10_badEveningSign_4, e_X10_badEveningSign_7, e_X10_badEveningSign_9, e_X10_badEveningSign_12, e_X10_badEveningSign_13, e_X10_badEveningSign_14, e_X10_badEveningSign_15, e_X10_badEveningSign_16, e_X10_badEveningSign_18, e_X10_badEveningSign_19, e_X10_badEveningSign_22, e_X10_badEveningSign_23, e_X10_badEveningSign_24, e_X10_badEveningSign_25, e_X10_badEveningSign_28, e_X10_badEveningSign_29, e_X10_badEveningSign_32, e_X10_badEveningSign_35, e_X10_badEveningSign_36, e_X10_badEveningSign_39, e_X10_badEveningSign_40, e_X10_badEveningSign_41, e_X10_badEveningSign_42, e_X10_badEveningSign_45, e_X10_badEveningSign_46, e_X10_badEveningSign_49, e_X10_badEveningSign_50, e_X10_badEveningSign_51, e_X10_badEveningSign_52, e_X10_badEveningSign_53, e_X10_badEveningSign_56, e_X10_badEveningSign_57, e_X10_badEveningSign_60, e_X10_badEveningSign_63, e_X10_badEveningSign_66, e_X10_badEveningSign_67, e_X10_badEveningSign_68, e_X10_badEveningSign_71, e_X10_badEveningSign_74, e_X10_badEveningSign_75, e_X10_badEveningSign_78, e_X10_badEveningSign_79, e_X10_badEveningSign_80, e_X10_badEveningSign_81, e_X10_badEveningSign_82, e_X10_badEveningSign_85, e_X10_badEveningSign_86, e_X10_badEveningSign_89, e_X10_badEveningSign_92, e_X10_badEveningSign_95, e_X10_badEveningSign_96, e_X10_badEveningSign_99, e_X10_badEveningSign_100, e_X10_badEveningSign_101, e_X10_badEveningSign_102, e_X10_badEveningSign_105, e_X10_badEveningSign_106, e_X10_badEveningSign_109, e_X10_badEveningSign_112, e_X10_badEveningSign_114, e_X10_badEveningSign_117, e_X10_badEveningSign_118, e_X10_badEveningSign_121, e_X10_badEveningSign_122, ob_0, rk_0_0, ob_1, kcl_i, kcl_r, kcl_l, kcl_0, kcl_n, true_and, and_true, Int32.le_refl, le0_nat (show to < 100000 by omega), c0, not_false_eq_true, if_true, hn, e60, c2]
  refine ⟨fun z hz hb hbad => ?_, fun hb hE => fin hb _ (Or.inl ⟨hE, rfl⟩), fun hb hE => fin hb _ (Or.inr ⟨hE, rfl⟩)⟩
  · intro sc d y nx hd L st cu su l f t sp K
    refine kCA_of (d := d + 3) (v := some (.int (Int32.ofNat z))) (fun K => ?_)
    rw [km_138]
    show kWP sc (d + 3) 138 0 [.ref 0, .retAddr 0, .retAddr 0, .retAddr 0] [] _ K = _
    rw [start z (by omega) hb]
    have hle := @eSt_le T z
    have hnb : ¬ stA (T (eSt T (z + 1))) (z - eSt T (z + 1)) (T z) := hbad
    have a1 : tA T n (eSt T z) = T (eSt T z) := by unfold tA; rw [if_pos (by omega)]
    have a3 : tA T n z = T z := by unfold tA; rw [if_pos (by omega)]
    have w3 := @wid_23 (T (eSt T z))
    have eadd : Int32.ofNat (eSt T z) + Int32.ofNat (wid (T (eSt T z))) = Int32.ofNat (eSt T z + wid (T (eSt T z))) := (Int32.ofNat_add _ _).symm
    have eeq : (Int32.ofNat z = Int32.ofNat (eSt T z + wid (T (eSt T z)))) = (z = eSt T z + wid (T (eSt T z))) := tn_eq (by omega) (by omega)
    have hsub : Int32.ofNat z - Int32.ofNat (eSt T (z + 1)) = Int32.ofNat (z - eSt T (z + 1)) := sub_nat hle.2
    refine e_X10_badEveningSign_17.trans ?_
    by_cases c : z = eSt T z + wid (T (eSt T z))
    · have es : eSt T (z + 1) = z := by rw [eSt_s, if_pos c]
      rw [es] at hsub hnb
      simp only [e_X10_badEveningSign_0, e_X10_badEveningSign_1, e_X10_badEveningSign_4, e_X10_badEveningSign_7, e_X10_badEveningSign_9, e_X10_badEveningSign_12, e_X10_badEveningSign_13, e_X10_badEveningSign_14, e_X10_badEveningSign_15, e_X10_badEveningSign_16, e_X10_badEveningSign_18, e_X10_badEveningSign_19, e_X10_badEveningSign_22, e_X10_badEveningSign_23, e_X10_badEveningSign_24, e_X10_badEveningSign_25, e_X10_badEveningSign_28, e_X10_badEveningSign_29, e_X10_badEveningSign_32, e_X10_badEveningSign_35, e_X10_badEveningSign_36, e_X10_badEveningSign_39, e_X10_badEveningSign_40, e_X10_badEveningSign_41, e_X10_badEveningSign_42, e_X10_badEveningSign_45, e_X10_badEveningSign_46, e_X10_badEveningSign_49, e_X10_badEveningSign_50, e_X10_badEveningSign_51, e_X10_badEveningSign_52, e_X10_badEveningSign_53, e_X10_badEveningSign_56, e_X10_badEveningSign_57, e_X10_badEveningSign_60, e_X10_badEveningSign_63, e_X10_badEveningSign_66, e_X10_badEveningSign_67, e_X10_badEveningSign_68, e_X10_badEveningSign_71, e_X10_badEveningSign_74, e_X10_badEveningSign_75, e_X10_badEveningSign_78, e_X10_badEveningSign_79, e_X10_badEveningSign_80, e_X10_badEveningSign_81, e_X10_badEveningSign_82, e_X10_badEveningSign_85, e_X10_badEveningSign_86, e_X10_badEveningSign_89, e_X10_badEveningSign_92, e_X10_badEveningSign_95, e_X10_badEveningSign_96, e_X10_badEveningSign_99, e_X10_badEveningSign_100, e_X10_badEveningSign_101, e_X10_badEveningSign_102, e_X10_badEveningSign_105, e_X10_badEveningSign_106, e_X10_badEveningSign_109, e_X10_badEveningSign_112, e_X10_badEveningSign_114, e_X10_badEveningSign_117, e_X10_badEveningSign_118, e_X10_badEveningSign_121, e_X10_badEveningSign_122, ob_0, rk_0_0, ob_1, kcl_i, kcl_r, kcl_l, kcl_0, kcl_n, true_and, and_true, jpF (show z < to by omega) (by omega), if_false, c_atN hn h80 hT (show eSt T z < 100000 by omega), a1, y_actSigns, eadd, eeq, eq_true c, not_true_eq_false, c_atN hn h80 hT (show z < 100000 by omega), a3, hsub, (c_stands (show z - z < 100000 by omega)).2 hnb, if_true]
    · have es : eSt T (z + 1) = eSt T z := by rw [eSt_s, if_neg c]
      rw [es] at hsub hnb
      simp only [e_X10_badEveningSign_0, e_X10_badEveningSign_1, e_X10_badEveningSign_4, e_X10_badEveningSign_7, e_X10_badEveningSign_9, e_X10_badEveningSign_12, e_X10_badEveningSign_13, e_X10_badEveningSign_14, e_X10_badEveningSign_15, e_X10_badEveningSign_16, e_X10_badEveningSign_18, e_X10_badEveningSign_19, e_X10_badEveningSign_22, e_X10_badEveningSign_23, e_X10_badEveningSign_24, e_X10_badEveningSign_25, e_X10_badEveningSign_28, e_X10_badEveningSign_29, e_X10_badEveningSign_32, e_X10_badEveningSign_35, e_X10_badEveningSign_36, e_X10_badEveningSign_39, e_X10_badEveningSign_40, e_X10_badEveningSign_41, e_X10_badEveningSign_42, e_X10_badEveningSign_45, e_X10_badEveningSign_46, e_X10_badEveningSign_49, e_X10_badEveningSign_50, e_X10_badEveningSign_51, e_X10_badEveningSign_52, e_X10_badEveningSign_53, e_X10_badEveningSign_56, e_X10_badEveningSign_57, e_X10_badEveningSign_60, e_X10_badEveningSign_63, e_X10_badEveningSign_66, e_X10_badEveningSign_67, e_X10_badEveningSign_68, e_X10_badEveningSign_71, e_X10_badEveningSign_74, e_X10_badEveningSign_75, e_X10_badEveningSign_78, e_X10_badEveningSign_79, e_X10_badEveningSign_80, e_X10_badEveningSign_81, e_X10_badEveningSign_82, e_X10_badEveningSign_85, e_X10_badEveningSign_86, e_X10_badEveningSign_89, e_X10_badEveningSign_92, e_X10_badEveningSign_95, e_X10_badEveningSign_96, e_X10_badEveningSign_99, e_X10_badEveningSign_100, e_X10_badEveningSign_101, e_X10_badEveningSign_102, e_X10_badEveningSign_105, e_X10_badEveningSign_106, e_X10_badEveningSign_109, e_X10_badEveningSign_112, e_X10_badEveningSign_114, e_X10_badEveningSign_117, e_X10_badEveningSign_118, e_X10_badEveningSign_121, e_X10_badEveningSign_122, ob_0, rk_0_0, ob_1, kcl_i, kcl_r, kcl_l, kcl_0, kcl_n, true_and, and_true, jpF (show z < to by omega) (by omega), if_false, c_atN hn h80 hT (show eSt T z < 100000 by omega), a1, y_actSigns, eadd, eeq, eq_false c, not_false_eq_true, if_true, c_atN hn h80 hT (show z < 100000 by omega), a3, hsub, (c_stands (show z - eSt T z < 100000 by omega)).2 hnb]
end TC
