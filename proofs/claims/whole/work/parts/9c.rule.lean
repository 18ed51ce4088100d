/-! a rule's text read by the class: a sign -/
section TC
variable {sc : Nat × (Nat → Int32)} {d y nx : Nat} {hd : List (Int × Nat)} {L st : List Value} {S : kS} {cu su : Nat} {i : Nat → Nat → Int32} {l : Nat → Nat → Int64} {f t c b m : Nat} {sp : Nat → Nat} {K : Option (Option Value) → kS → Prop}
variable {N M Z S1 Q A S A2 S2 : Nat → Int32} {n n2 k x a o g c h p to : Nat} {v r q u : Int32} {T : Nat → Int32}
def fb (u : Bool) : Int32 := if u = true then 1 else 0
def QC (z b : Nat) (v : Int32) (i : Nat → Nat → Int32) (n : Nat) (A : Nat → Int32) (p : Nat) (S : Nat → Int32) (g h : Nat) (u r : Int32) (n' : Nat) (A' : Nat → Int32) (p' : Nat) (S' : Nat → Int32) (g' h' : Nat) (u' : Int32) : Prop :=
  ∀ (sc : Nat × (Nat → Int32)) (d y nx : Nat) (hd : List (Int × Nat)) (L st : List Value) (cu su : Nat) (l : Nat → Nat → Int64) (f t : Nat) (sp : Nat → Nat) (K : Option (Option Value) → kS → Prop), kCA sc (d + 5) z [.ref b, .int v] y nx hd L st ((120, cu, su), qP i b n A p S g h u, l, kR f t sp) K = kWP sc (d + 5) y nx L (.int r :: st) ((120, cu, su), qP i b n' A' p' S' g' h' u', l, kR f t sp) K
def QR (z b : Nat) (v : Int32) (i : Nat → Nat → Int32) (n : Nat) (A : Nat → Int32) (p : Nat) (S : Nat → Int32) (g h : Nat) (u : Int32) (o : Option LT) : Prop :=
  (∀ s, o = some s → ∃ n' A' p' S', n' + p' ≤ n + p + 1 ∧ SL n' A' = s.1 ∧ SL p' S' = s.2.1 ∧ s.2.2.1 ≤ 4 ∧ s.2.2.2.1 ≤ 3 ∧ QC z b v i n A p S g h u 1 n' A' p' S' s.2.2.1 s.2.2.2.1 (fb s.2.2.2.2)) ∧
  (o = none → ∃ n' A' p' S' g' h' u', QC z b v i n A p S g h u 0 n' A' p' S' g' h' u')
theorem dg_iff {v : Int32} : (isDg v = true) = (¬ v < 48 ∧ ¬ 57 < v) := propext isDg_iff
theorem QR_s {s : LT} {z b n p g h : Nat} {v u : Int32} {A S : Nat → Int32} (n' : Nat) (A' : Nat → Int32) (p' : Nat) (S' : Nat → Int32) (h0 : n' + p' ≤ n + p + 1) (h1 : SL n' A' = s.1) (h2 : SL p' S' = s.2.1) (h3 : s.2.2.1 ≤ 4) (h4 : s.2.2.2.1 ≤ 3) (hq : QC z b v i n A p S g h u 1 n' A' p' S' s.2.2.1 s.2.2.2.1 (fb s.2.2.2.2)) : QR z b v i n A p S g h u (some s) :=
  ⟨fun s2 e => by cases e; exact ⟨n', A', p', S', h0, h1, h2, h3, h4, hq⟩, fun e => by cases e⟩
theorem QR_n {z b n p g h : Nat} {v u : Int32} {A S : Nat → Int32} (n' : Nat) (A' : Nat → Int32) (p' : Nat) (S' : Nat → Int32) (g' h' : Nat) (u' : Int32) (hq : QC z b v i n A p S g h u 0 n' A' p' S' g' h' u') : QR z b v i n A p S g h u none :=
  ⟨fun s2 e => (by cases e), fun _ => ⟨n', A', p', S', g', h', u', hq⟩⟩
theorem q_part (hf : kRc b = true) (hnp : n + p < 40) (hg : g ≤ 4) (hh : h ≤ 3) : QR 46 b v i n A p S g h 1 (stepP (SL n A) (SL p S) g h v) := by
  unfold stepP
  by_cases c1 : v = 45
  · rw [if_pos c1]
    refine QR_s n A (p + 1) (kuf S p 3000) (by omega) rfl SL_p hg hh ?_
    intro sc d y nx hd L st cu su l f t sp K
    refine kCA_of (d := d + 4) (v := some (.int 1)) (fun K => ?_)
    rw [km_46]
    show kWP sc (d + 4) 46 0 [.ref b, .int v] [] _ K = _
    simp only [e_X5_takesPart_0, e_X5_takesPart_1, e_X5_takesPart_3, e_X5_takesPart_6, e_X5_takesPart_7, e_X5_takesPart_10, e_X5_takesPart_13, e_X5_takesPart_14, e_X5_takesPart_15, e_X5_takesPart_16, e_X5_takesPart_18, e_X5_takesPart_21, e_X5_takesPart_22, e_X5_takesPart_23, e_X5_takesPart_26, e_X5_takesPart_27, e_X5_takesPart_28, e_X5_takesPart_31, e_X5_takesPart_32, e_X5_takesPart_34, e_X5_takesPart_37, e_X5_takesPart_38, e_X5_takesPart_41, e_X5_takesPart_42, e_X5_takesPart_45, e_X5_takesPart_46, e_X5_takesPart_49, e_X5_takesPart_50, e_X5_takesPart_51, e_X5_takesPart_52, e_X5_takesPart_53, e_X5_takesPart_56, e_X5_takesPart_57, e_X5_takesPart_60, e_X5_takesPart_63, e_X5_takesPart_64, e_X5_takesPart_65, e_X5_takesPart_68, e_X5_takesPart_69, e_X5_takesPart_70, e_X5_takesPart_72, e_X5_takesPart_73, e_X5_takesPart_76, e_X5_takesPart_77, e_X5_takesPart_78, e_X5_takesPart_79, e_X5_takesPart_80, e_X5_takesPart_83, e_X5_takesPart_84, e_X5_takesPart_87, e_X5_takesPart_88, e_X5_takesPart_89, e_X5_takesPart_92, e_X5_takesPart_93, e_X5_takesPart_96, ob_r hf, kcl_i, kcl_r, kcl_l, kcl_0, kcl_n, true_and, and_true, c1, if_true, not_true_eq_false, if_false, q_push hf (show p < 40 by omega), kbool_1, true_and, true_or, or_true]
    rfl
  rw [if_neg c1]
  by_cases c2 : v = 40
  · rw [if_pos c2]
    by_cases c3 : g < 4
    · rw [if_pos c3]
      refine QR_s n A (p + 1) (kuf S p 40) (by omega) rfl SL_p (show g + 1 ≤ 4 by omega) hh ?_
      intro sc d y nx hd L st cu su l f t sp K
      refine kCA_of (d := d + 4) (v := some (.int 1)) (fun K => ?_)
      rw [km_46]
      show kWP sc (d + 4) 46 0 [.ref b, .int v] [] _ K = _
      have e4 : ((4 : Int32) < Int32.ofNat (g + 1)) = False := by rw [show (4 : Int32) = Int32.ofNat 4 from rfl, tn_lt (by decide) (by omega)]; exact eq_false (by omega)
      subst c2
      simp only [e_X5_takesPart_0, e_X5_takesPart_1, e_X5_takesPart_3, e_X5_takesPart_6, e_X5_takesPart_7, e_X5_takesPart_10, e_X5_takesPart_13, e_X5_takesPart_14, e_X5_takesPart_15, e_X5_takesPart_16, e_X5_takesPart_18, e_X5_takesPart_21, e_X5_takesPart_22, e_X5_takesPart_23, e_X5_takesPart_26, e_X5_takesPart_27, e_X5_takesPart_28, e_X5_takesPart_31, e_X5_takesPart_32, e_X5_takesPart_34, e_X5_takesPart_37, e_X5_takesPart_38, e_X5_takesPart_41, e_X5_takesPart_42, e_X5_takesPart_45, e_X5_takesPart_46, e_X5_takesPart_49, e_X5_takesPart_50, e_X5_takesPart_51, e_X5_takesPart_52, e_X5_takesPart_53, e_X5_takesPart_56, e_X5_takesPart_57, e_X5_takesPart_60, e_X5_takesPart_63, e_X5_takesPart_64, e_X5_takesPart_65, e_X5_takesPart_68, e_X5_takesPart_69, e_X5_takesPart_70, e_X5_takesPart_72, e_X5_takesPart_73, e_X5_takesPart_76, e_X5_takesPart_77, e_X5_takesPart_78, e_X5_takesPart_79, e_X5_takesPart_80, e_X5_takesPart_83, e_X5_takesPart_84, e_X5_takesPart_87, e_X5_takesPart_88, e_X5_takesPart_89, e_X5_takesPart_92, e_X5_takesPart_93, e_X5_takesPart_96, ob_r hf, kcl_i, kcl_r, kcl_l, kcl_0, kcl_n, true_and, and_true, show ((40 : Int32) = 45) = False from eq_false (by decide), if_true, not_true_eq_false, not_false_eq_true, if_false, qP_5, tn_s, qW_5, q_push hf (show p < 40 by omega), e4, kbool_1, true_and, true_or, or_true]
      rfl
    · rw [if_neg c3]
      refine QR_n n A (p + 1) (kuf S p 40) (g + 1) h 1 ?_
      intro sc d y nx hd L st cu su l f t sp K
      refine kCA_of (d := d + 4) (v := some (.int 0)) (fun K => ?_)
      rw [km_46]
      show kWP sc (d + 4) 46 0 [.ref b, .int v] [] _ K = _
      have e4 : ((4 : Int32) < Int32.ofNat (g + 1)) = True := by rw [show (4 : Int32) = Int32.ofNat 4 from rfl, tn_lt (by decide) (by omega)]; exact eq_true (by omega)
      subst c2
      simp only [e_X5_takesPart_0, e_X5_takesPart_1, e_X5_takesPart_3, e_X5_takesPart_6, e_X5_takesPart_7, e_X5_takesPart_10, e_X5_takesPart_13, e_X5_takesPart_14, e_X5_takesPart_15, e_X5_takesPart_16, e_X5_takesPart_18, e_X5_takesPart_21, e_X5_takesPart_22, e_X5_takesPart_23, e_X5_takesPart_26, e_X5_takesPart_27, e_X5_takesPart_28, e_X5_takesPart_31, e_X5_takesPart_32, e_X5_takesPart_34, e_X5_takesPart_37, e_X5_takesPart_38, e_X5_takesPart_41, e_X5_takesPart_42, e_X5_takesPart_45, e_X5_takesPart_46, e_X5_takesPart_49, e_X5_takesPart_50, e_X5_takesPart_51, e_X5_takesPart_52, e_X5_takesPart_53, e_X5_takesPart_56, e_X5_takesPart_57, e_X5_takesPart_60, e_X5_takesPart_63, e_X5_takesPart_64, e_X5_takesPart_65, e_X5_takesPart_68, e_X5_takesPart_69, e_X5_takesPart_70, e_X5_takesPart_72, e_X5_takesPart_73, e_X5_takesPart_76, e_X5_takesPart_77, e_X5_takesPart_78, e_X5_takesPart_79, e_X5_takesPart_80, e_X5_takesPart_83, e_X5_takesPart_84, e_X5_takesPart_87, e_X5_takesPart_88, e_X5_takesPart_89, e_X5_takesPart_92, e_X5_takesPart_93, e_X5_takesPart_96, ob_r hf, kcl_i, kcl_r, kcl_l, kcl_0, kcl_n, true_and, and_true, show ((40 : Int32) = 45) = False from eq_false (by decide), if_true, not_true_eq_false, not_false_eq_true, if_false, qP_5, tn_s, qW_5, q_push hf (show p < 40 by omega), e4, kbool_0, true_and, true_or, or_true]
  rw [if_neg c2]
  by_cases c3 : isDg v = true
  · rw [if_pos c3]
    have c3' := c3
    rw [dg_iff] at c3'
    refine QR_s (n + 1) (kuf A n (v - 48)) p S (by omega) SL_p rfl hg (show (1 : Nat) ≤ 3 by decide) ?_
    intro sc d y nx hd L st cu su l f t sp K
    refine kCA_of (d := d + 4) (v := some (.int 1)) (fun K => ?_)
    rw [km_46]
    show kWP sc (d + 4) 46 0 [.ref b, .int v] [] _ K = _
    simp only [e_X5_takesPart_0, e_X5_takesPart_1, e_X5_takesPart_3, e_X5_takesPart_6, e_X5_takesPart_7, e_X5_takesPart_10, e_X5_takesPart_13, e_X5_takesPart_14, e_X5_takesPart_15, e_X5_takesPart_16, e_X5_takesPart_18, e_X5_takesPart_21, e_X5_takesPart_22, e_X5_takesPart_23, e_X5_takesPart_26, e_X5_takesPart_27, e_X5_takesPart_28, e_X5_takesPart_31, e_X5_takesPart_32, e_X5_takesPart_34, e_X5_takesPart_37, e_X5_takesPart_38, e_X5_takesPart_41, e_X5_takesPart_42, e_X5_takesPart_45, e_X5_takesPart_46, e_X5_takesPart_49, e_X5_takesPart_50, e_X5_takesPart_51, e_X5_takesPart_52, e_X5_takesPart_53, e_X5_takesPart_56, e_X5_takesPart_57, e_X5_takesPart_60, e_X5_takesPart_63, e_X5_takesPart_64, e_X5_takesPart_65, e_X5_takesPart_68, e_X5_takesPart_69, e_X5_takesPart_70, e_X5_takesPart_72, e_X5_takesPart_73, e_X5_takesPart_76, e_X5_takesPart_77, e_X5_takesPart_78, e_X5_takesPart_79, e_X5_takesPart_80, e_X5_takesPart_83, e_X5_takesPart_84, e_X5_takesPart_87, e_X5_takesPart_88, e_X5_takesPart_89, e_X5_takesPart_92, e_X5_takesPart_93, e_X5_takesPart_96, ob_r hf, kcl_i, kcl_r, kcl_l, kcl_0, kcl_n, true_and, and_true, c1, c2, if_true, not_false_eq_true, if_false, qW_7, c_isDigit, kb_0, c3', not_true_eq_false, and_self, show (1 : Int32) = Int32.ofNat 1 from rfl, qW_6, q_put hf (show n < 40 by omega), true_and, true_or, or_true]
    simp only [show Int32.ofNat 1 = (1 : Int32) from rfl, kbool_1, true_and, true_or, or_true]
    rfl
  rw [if_neg c3]
  have c3' := c3
  rw [dg_iff] at c3'
  have hrun : QC 46 b v i n A p S g h 1 (kb (isLe v = true)) (n + 1) (kuf A n (1000 + v)) p S g 0 0 := by
    intro sc d y nx hd L st cu su l f t sp K
    refine kCA_of (d := d + 4) (v := some (.int _)) (fun K => ?_)
    rw [km_46]
    show kWP sc (d + 4) 46 0 [.ref b, .int v] [] _ K = _
    simp only [e_X5_takesPart_0, e_X5_takesPart_1, e_X5_takesPart_3, e_X5_takesPart_6, e_X5_takesPart_7, e_X5_takesPart_10, e_X5_takesPart_13, e_X5_takesPart_14, e_X5_takesPart_15, e_X5_takesPart_16, e_X5_takesPart_18, e_X5_takesPart_21, e_X5_takesPart_22, e_X5_takesPart_23, e_X5_takesPart_26, e_X5_takesPart_27, e_X5_takesPart_28, e_X5_takesPart_31, e_X5_takesPart_32, e_X5_takesPart_34, e_X5_takesPart_37, e_X5_takesPart_38, e_X5_takesPart_41, e_X5_takesPart_42, e_X5_takesPart_45, e_X5_takesPart_46, e_X5_takesPart_49, e_X5_takesPart_50, e_X5_takesPart_51, e_X5_takesPart_52, e_X5_takesPart_53, e_X5_takesPart_56, e_X5_takesPart_57, e_X5_takesPart_60, e_X5_takesPart_63, e_X5_takesPart_64, e_X5_takesPart_65, e_X5_takesPart_68, e_X5_takesPart_69, e_X5_takesPart_70, e_X5_takesPart_72, e_X5_takesPart_73, e_X5_takesPart_76, e_X5_takesPart_77, e_X5_takesPart_78, e_X5_takesPart_79, e_X5_takesPart_80, e_X5_takesPart_83, e_X5_takesPart_84, e_X5_takesPart_87, e_X5_takesPart_88, e_X5_takesPart_89, e_X5_takesPart_92, e_X5_takesPart_93, e_X5_takesPart_96, ob_r hf, kcl_i, kcl_r, kcl_l, kcl_0, kcl_n, true_and, and_true, c1, c2, if_true, not_false_eq_true, if_false, qW_7, c_isDigit, kb_0, c3', show kupi (qP i b n A p S g h 0) b 6 0 = qP i b n A p S g 0 0 from qW_6 (k := 0), q_put hf (show n < 40 by omega), q_isLetter, kb_ok, true_and, true_or, or_true]
  by_cases c4 : isLe v = true
  · rw [if_pos c4]
    rw [kb_t c4] at hrun
    exact QR_s (n + 1) (kuf A n (1000 + v)) p S (by omega) SL_p rfl hg (show (0 : Nat) ≤ 3 by decide) hrun
  · rw [if_neg c4]
    rw [kb_f c4] at hrun
    exact QR_n _ _ _ _ _ _ _ hrun
theorem q_lengthen (hf : kRc b = true) (hn : n ≤ 40) (hh : h ≤ 3) : (1 ≤ h ∧ h ≤ 2 ∧ 1 ≤ n → kCA sc (d + 1) 48 [.ref b, .int v] y nx hd L st ((120, cu, su), qP i b n A p S g h u, l, kR f t sp) K = kWP sc (d + 1) y nx L (.int 1 :: st) ((120, cu, su), qP i b n (kuf A (n - 1) (A (n - 1) * 10 + v)) p S g (h + 1) u, l, kR f t sp) K) ∧ (¬ (1 ≤ h ∧ h ≤ 2 ∧ 1 ≤ n) → kCA sc (d + 1) 48 [.ref b, .int v] y nx hd L st ((120, cu, su), qP i b n A p S g h u, l, kR f t sp) K = kWP sc (d + 1) y nx L (.int 0 :: st) ((120, cu, su), qP i b n A p S g h u, l, kR f t sp) K) := by
  have e1 : (Int32.ofNat h < 1) = (h < 1) := by rw [show (1 : Int32) = Int32.ofNat 1 from rfl, tn_lt (by omega) (by decide)]
  have e2 : ((2 : Int32) < Int32.ofNat h) = (2 < h) := by rw [show (2 : Int32) = Int32.ofNat 2 from rfl, tn_lt (by decide) (by omega)]
  have e3 : ((1 : Int32) ≤ Int32.ofNat n) = (1 ≤ n) := by rw [show (1 : Int32) = Int32.ofNat 1 from rfl, tn_le (by decide) (by omega)]
  constructor
  · intro q
    refine kCA_of (d := d) (v := some (.int 1)) (fun K => ?_)
    rw [km_48]
    show kWP sc d 48 0 [.ref b, .int v] [] _ K = _
    simp only [e_X5_lengthensNumber_0, e_X5_lengthensNumber_1, e_X5_lengthensNumber_4, e_X5_lengthensNumber_5, e_X5_lengthensNumber_8, e_X5_lengthensNumber_9, e_X5_lengthensNumber_12, e_X5_lengthensNumber_13, e_X5_lengthensNumber_16, e_X5_lengthensNumber_17, e_X5_lengthensNumber_20, e_X5_lengthensNumber_21, e_X5_lengthensNumber_24, e_X5_lengthensNumber_25, e_X5_lengthensNumber_26, e_X5_lengthensNumber_27, e_X5_lengthensNumber_28, e_X5_lengthensNumber_31, e_X5_lengthensNumber_32, e_X5_lengthensNumber_33, e_X5_lengthensNumber_36, e_X5_lengthensNumber_37, e_X5_lengthensNumber_40, e_X5_lengthensNumber_41, e_X5_lengthensNumber_44, e_X5_lengthensNumber_45, e_X5_lengthensNumber_46, e_X5_lengthensNumber_47, e_X5_lengthensNumber_50, e_X5_lengthensNumber_51, e_X5_lengthensNumber_54, e_X5_lengthensNumber_55, e_X5_lengthensNumber_56, e_X5_lengthensNumber_57, e_X5_lengthensNumber_59, e_X5_lengthensNumber_60, e_X5_lengthensNumber_61, e_X5_lengthensNumber_62, e_X5_lengthensNumber_63, e_X5_lengthensNumber_64, ob_r hf, rk_r1 hf, ar_r1 hf, kcl_i, kcl_r, kcl_l, kcl_0, kcl_n, true_and, and_true, qP_6, qP_2, e1, e2, e3, show (h < 1) = False from eq_false (by omega), show (2 < h) = False from eq_false (by omega), show (1 ≤ n) = True from eq_true (by omega), if_true, if_false, tn_s, qW_6, tn_sub (show 0 < n by omega), kin40 (show n - 1 < 40 by omega), cl_n (show n - 1 < 100000 by omega), qP_a (show n - 1 < 40 by omega), qW_a (show n - 1 < 40 by omega), kbool_1, true_and, true_or, or_true]
  · intro q
    refine kCA_of (d := d) (v := some (.int 0)) (fun K => ?_)
    rw [km_48]
    show kWP sc d 48 0 [.ref b, .int v] [] _ K = _
    simp only [e_X5_lengthensNumber_0, e_X5_lengthensNumber_1, e_X5_lengthensNumber_4, e_X5_lengthensNumber_5, e_X5_lengthensNumber_8, e_X5_lengthensNumber_9, e_X5_lengthensNumber_12, e_X5_lengthensNumber_13, e_X5_lengthensNumber_16, e_X5_lengthensNumber_17, e_X5_lengthensNumber_20, e_X5_lengthensNumber_21, e_X5_lengthensNumber_24, e_X5_lengthensNumber_25, e_X5_lengthensNumber_26, e_X5_lengthensNumber_27, e_X5_lengthensNumber_28, e_X5_lengthensNumber_31, e_X5_lengthensNumber_32, e_X5_lengthensNumber_33, e_X5_lengthensNumber_36, e_X5_lengthensNumber_37, e_X5_lengthensNumber_40, e_X5_lengthensNumber_41, e_X5_lengthensNumber_44, e_X5_lengthensNumber_45, e_X5_lengthensNumber_46, e_X5_lengthensNumber_47, e_X5_lengthensNumber_50, e_X5_lengthensNumber_51, e_X5_lengthensNumber_54, e_X5_lengthensNumber_55, e_X5_lengthensNumber_56, e_X5_lengthensNumber_57, e_X5_lengthensNumber_59, e_X5_lengthensNumber_60, e_X5_lengthensNumber_61, e_X5_lengthensNumber_62, e_X5_lengthensNumber_63, e_X5_lengthensNumber_64, ob_r hf, rk_r1 hf, ar_r1 hf, kcl_i, kcl_r, kcl_l, kcl_0, kcl_n, true_and, and_true, qP_6, qP_2, e1, e2, e3, kbool_0, true_and, true_or, or_true]
    by_cases q1 : h < 1
    · simp only [q1, if_true]
    · by_cases q2 : 2 < h
      · simp only [q1, q2, if_true, if_false]
      · have q3 : ¬ 1 ≤ n := fun z => q ⟨by omega, by omega, z⟩
        simp only [q1, q2, q3, if_false]
theorem q_pop' (hf : kRc b = true) (hp : p ≤ 40) : ∃ r, ∀ (sc : Nat × (Nat → Int32)) (d y nx : Nat) (hd : List (Int × Nat)) (L st : List Value) (cu su : Nat) (l : Nat → Nat → Int64) (f t : Nat) (sp : Nat → Nat) (K : Option (Option Value) → kS → Prop), kCA sc (d + 1) 54 [.ref b] y nx hd L st ((120, cu, su), qP i b n A p S g h u, l, kR f t sp) K = kWP sc (d + 1) y nx L (.int r :: st) ((120, cu, su), qP i b n A (p - 1) S g h u, l, kR f t sp) K := by
  cases p with
  | zero =>
    refine ⟨0, fun sc d y nx hd L st cu su l f t sp K => ?_⟩
    refine kCA_of (d := d) (v := some (.int 0)) (fun K => ?_)
    rw [km_54]
    show kWP sc d 54 0 [.ref b] [] _ K = _
    simp only [e_X5_pop_0, e_X5_pop_1, e_X5_pop_4, e_X5_pop_7, e_X5_pop_8, e_X5_pop_9, e_X5_pop_10, e_X5_pop_11, e_X5_pop_14, e_X5_pop_15, e_X5_pop_16, e_X5_pop_19, e_X5_pop_20, e_X5_pop_23, e_X5_pop_24, e_X5_pop_27, e_X5_pop_28, ob_r hf, rk_r3 hf, ar_r2 hf, kcl_i, kcl_r, kcl_l, kcl_0, kcl_n, true_and, and_true, qP_4, show (Int32.ofNat 0 = 0) = True from eq_true rfl, if_true]
  | succ p => exact ⟨S p, fun sc d y nx hd L st cu su l f t sp K => q_pop hf (by omega)⟩
theorem SL_tail : (SL p S).tail = SL (p - 1) S := by cases p <;> rfl
theorem q_join (hf : kRc b = true) (hnp : n + p < 40) (hg : g ≤ 4) (hh : h ≤ 3) : QR 47 b v i n A p S g h 0 (stepJ (SL n A) (SL p S) g h v) := by
  unfold stepJ
  by_cases c1 : isDg v = true
  · rw [if_pos c1]
    have c1' := c1
    rw [dg_iff] at c1'
    have hno : ¬ (1 ≤ h ∧ h ≤ 2 ∧ 1 ≤ n) → QR 47 b v i n A p S g h 0 none := by
      intro q
      refine QR_n n A p S g h 0 ?_
      intro sc d y nx hd L st cu su l f t sp K
      refine kCA_of (d := d + 4) (v := some (.int 0)) (fun K => ?_)
      rw [km_47]
      show kWP sc (d + 4) 47 0 [.ref b, .int v, .retAddr 0] [] _ K = _
      simp only [e_X5_takesJoin_0, e_X5_takesJoin_1, e_X5_takesJoin_4, e_X5_takesJoin_7, e_X5_takesJoin_8, e_X5_takesJoin_9, e_X5_takesJoin_11, e_X5_takesJoin_12, e_X5_takesJoin_15, e_X5_takesJoin_16, e_X5_takesJoin_17, e_X5_takesJoin_18, e_X5_takesJoin_21, e_X5_takesJoin_22, e_X5_takesJoin_24, e_X5_takesJoin_27, e_X5_takesJoin_28, e_X5_takesJoin_31, e_X5_takesJoin_32, e_X5_takesJoin_35, e_X5_takesJoin_36, e_X5_takesJoin_37, e_X5_takesJoin_40, e_X5_takesJoin_41, e_X5_takesJoin_42, e_X5_takesJoin_45, e_X5_takesJoin_46, e_X5_takesJoin_47, e_X5_takesJoin_48, e_X5_takesJoin_49, e_X5_takesJoin_50, e_X5_takesJoin_53, e_X5_takesJoin_54, e_X5_takesJoin_57, e_X5_takesJoin_58, e_X5_takesJoin_61, e_X5_takesJoin_62, e_X5_takesJoin_63, e_X5_takesJoin_66, e_X5_takesJoin_67, e_X5_takesJoin_70, e_X5_takesJoin_73, e_X5_takesJoin_74, e_X5_takesJoin_77, e_X5_takesJoin_78, e_X5_takesJoin_79, e_X5_takesJoin_80, e_X5_takesJoin_83, e_X5_takesJoin_84, e_X5_takesJoin_85, e_X5_takesJoin_88, e_X5_takesJoin_89, e_X5_takesJoin_90, e_X5_takesJoin_93, e_X5_takesJoin_94, ob_r hf, kcl_i, kcl_r, kcl_l, kcl_0, kcl_n, true_and, and_true, c_isDigit, kb_0, c1', not_true_eq_false, not_false_eq_true, and_self, if_true, if_false, (q_lengthen hf (show n ≤ 40 by omega) hh).2 q, kbool_0, true_and, true_or, or_true]
    by_cases c2 : 1 ≤ h ∧ h ≤ 2
    · rw [if_pos c2]
      cases n with
      | zero => exact hno (fun z => by omega)
      | succ n =>
        show QR _ b v i (n + 1) A p S g h 0 (some ((A n * 10 + (v - 48)) :: SL n A, SL p S, g, h + 1, false))
        refine QR_s (n + 1) (kuf A n (A n * 10 + (v - 48))) p S (by omega) SL_p rfl hg (show h + 1 ≤ 3 by omega) ?_
        intro sc d y nx hd L st cu su l f t sp K
        refine kCA_of (d := d + 4) (v := some (.int 1)) (fun K => ?_)
        rw [km_47]
        show kWP sc (d + 4) 47 0 [.ref b, .int v, .retAddr 0] [] _ K = _
        simp only [e_X5_takesJoin_0, e_X5_takesJoin_1, e_X5_takesJoin_4, e_X5_takesJoin_7, e_X5_takesJoin_8, e_X5_takesJoin_9, e_X5_takesJoin_11, e_X5_takesJoin_12, e_X5_takesJoin_15, e_X5_takesJoin_16, e_X5_takesJoin_17, e_X5_takesJoin_18, e_X5_takesJoin_21, e_X5_takesJoin_22, e_X5_takesJoin_24, e_X5_takesJoin_27, e_X5_takesJoin_28, e_X5_takesJoin_31, e_X5_takesJoin_32, e_X5_takesJoin_35, e_X5_takesJoin_36, e_X5_takesJoin_37, e_X5_takesJoin_40, e_X5_takesJoin_41, e_X5_takesJoin_42, e_X5_takesJoin_45, e_X5_takesJoin_46, e_X5_takesJoin_47, e_X5_takesJoin_48, e_X5_takesJoin_49, e_X5_takesJoin_50, e_X5_takesJoin_53, e_X5_takesJoin_54, e_X5_takesJoin_57, e_X5_takesJoin_58, e_X5_takesJoin_61, e_X5_takesJoin_62, e_X5_takesJoin_63, e_X5_takesJoin_66, e_X5_takesJoin_67, e_X5_takesJoin_70, e_X5_takesJoin_73, e_X5_takesJoin_74, e_X5_takesJoin_77, e_X5_takesJoin_78, e_X5_takesJoin_79, e_X5_takesJoin_80, e_X5_takesJoin_83, e_X5_takesJoin_84, e_X5_takesJoin_85, e_X5_takesJoin_88, e_X5_takesJoin_89, e_X5_takesJoin_90, e_X5_takesJoin_93, e_X5_takesJoin_94, ob_r hf, kcl_i, kcl_r, kcl_l, kcl_0, kcl_n, true_and, and_true, c_isDigit, kb_0, c1', not_true_eq_false, not_false_eq_true, and_self, if_true, if_false, (q_lengthen hf (show n + 1 ≤ 40 by omega) hh).1 ⟨c2.1, c2.2, by omega⟩, kbool_1, true_and, true_or, or_true]
        rfl
    · rw [if_neg c2]
      exact hno (fun z => c2 ⟨z.1, z.2.1⟩)
  rw [if_neg c1]
  have c1' := c1
  rw [dg_iff] at c1'
  have z6 : kupi (qP i b n A p S g h 0) b 6 0 = qP i b n A p S g 0 0 := qW_6 (k := 0)
  by_cases c2 : v = 41
  · rw [if_pos c2]
    have e0 : (Int32.ofNat g = 0) = (g = 0) := tn_z (by omega)
    by_cases c3 : g = 0
    · rw [if_pos c3]
      refine QR_n n A p S g 0 0 ?_
      intro sc d y nx hd L st cu su l f t sp K
      refine kCA_of (d := d + 4) (v := some (.int 0)) (fun K => ?_)
      rw [km_47]
      show kWP sc (d + 4) 47 0 [.ref b, .int v, .retAddr 0] [] _ K = _
      have CB := fun (y nx : Nat) (L st : List Value) (hd : List (Int × Nat)) (K : Option (Option Value) → kS → Prop) => kCA_of (sc := sc) (d := d + 3) (z := 49) (as := [.ref b]) (y := y) (nx := nx) (hd := hd) (L := L) (st := st) (S := ((120, cu, su), qP i b n A p S g 0 0, l, kR f t sp)) (S2 := ((120, cu, su), qP i b n A p S g 0 0, l, kR f t sp)) (v := some (.int 0)) (K := K) (fun K => by
        rw [km_49]
        show kWP sc (d + 3) 49 0 [.ref b] [] _ K = _
        simp only [e_X5_closesBracket_0, e_X5_closesBracket_1, e_X5_closesBracket_4, e_X5_closesBracket_7, e_X5_closesBracket_8, e_X5_closesBracket_9, e_X5_closesBracket_10, e_X5_closesBracket_11, e_X5_closesBracket_14, e_X5_closesBracket_15, e_X5_closesBracket_16, e_X5_closesBracket_19, e_X5_closesBracket_20, e_X5_closesBracket_21, e_X5_closesBracket_24, e_X5_closesBracket_25, e_X5_closesBracket_28, e_X5_closesBracket_29, e_X5_closesBracket_30, ob_r hf, kcl_i, kcl_r, kcl_l, kcl_0, kcl_n, true_and, and_true, qP_5, eq_true c3, e0, if_true, kbool_0, true_and, true_or, or_true])
      simp only [e_X5_takesJoin_0, e_X5_takesJoin_1, e_X5_takesJoin_4, e_X5_takesJoin_7, e_X5_takesJoin_8, e_X5_takesJoin_9, e_X5_takesJoin_11, e_X5_takesJoin_12, e_X5_takesJoin_15, e_X5_takesJoin_16, e_X5_takesJoin_17, e_X5_takesJoin_18, e_X5_takesJoin_21, e_X5_takesJoin_22, e_X5_takesJoin_24, e_X5_takesJoin_27, e_X5_takesJoin_28, e_X5_takesJoin_31, e_X5_takesJoin_32, e_X5_takesJoin_35, e_X5_takesJoin_36, e_X5_takesJoin_37, e_X5_takesJoin_40, e_X5_takesJoin_41, e_X5_takesJoin_42, e_X5_takesJoin_45, e_X5_takesJoin_46, e_X5_takesJoin_47, e_X5_takesJoin_48, e_X5_takesJoin_49, e_X5_takesJoin_50, e_X5_takesJoin_53, e_X5_takesJoin_54, e_X5_takesJoin_57, e_X5_takesJoin_58, e_X5_takesJoin_61, e_X5_takesJoin_62, e_X5_takesJoin_63, e_X5_takesJoin_66, e_X5_takesJoin_67, e_X5_takesJoin_70, e_X5_takesJoin_73, e_X5_takesJoin_74, e_X5_takesJoin_77, e_X5_takesJoin_78, e_X5_takesJoin_79, e_X5_takesJoin_80, e_X5_takesJoin_83, e_X5_takesJoin_84, e_X5_takesJoin_85, e_X5_takesJoin_88, e_X5_takesJoin_89, e_X5_takesJoin_90, e_X5_takesJoin_93, e_X5_takesJoin_94, ob_r hf, kcl_i, kcl_r, kcl_l, kcl_0, kcl_n, true_and, and_true, c_isDigit, kb_0, c1', not_false_eq_true, if_true, z6, c2, not_true_eq_false, if_false]
      rw [show d + 4 = d + 3 + 1 from rfl, CB]
      show kWP sc (d + 3 + 1) _ _ _ [.int 0] _ K = _
      simp only [e_X5_takesJoin_0, e_X5_takesJoin_1, e_X5_takesJoin_4, e_X5_takesJoin_7, e_X5_takesJoin_8, e_X5_takesJoin_9, e_X5_takesJoin_11, e_X5_takesJoin_12, e_X5_takesJoin_15, e_X5_takesJoin_16, e_X5_takesJoin_17, e_X5_takesJoin_18, e_X5_takesJoin_21, e_X5_takesJoin_22, e_X5_takesJoin_24, e_X5_takesJoin_27, e_X5_takesJoin_28, e_X5_takesJoin_31, e_X5_takesJoin_32, e_X5_takesJoin_35, e_X5_takesJoin_36, e_X5_takesJoin_37, e_X5_takesJoin_40, e_X5_takesJoin_41, e_X5_takesJoin_42, e_X5_takesJoin_45, e_X5_takesJoin_46, e_X5_takesJoin_47, e_X5_takesJoin_48, e_X5_takesJoin_49, e_X5_takesJoin_50, e_X5_takesJoin_53, e_X5_takesJoin_54, e_X5_takesJoin_57, e_X5_takesJoin_58, e_X5_takesJoin_61, e_X5_takesJoin_62, e_X5_takesJoin_63, e_X5_takesJoin_66, e_X5_takesJoin_67, e_X5_takesJoin_70, e_X5_takesJoin_73, e_X5_takesJoin_74, e_X5_takesJoin_77, e_X5_takesJoin_78, e_X5_takesJoin_79, e_X5_takesJoin_80, e_X5_takesJoin_83, e_X5_takesJoin_84, e_X5_takesJoin_85, e_X5_takesJoin_88, e_X5_takesJoin_89, e_X5_takesJoin_90, e_X5_takesJoin_93, e_X5_takesJoin_94, ob_r hf, kcl_i, kcl_r, kcl_l, kcl_0, kcl_n, true_and, and_true, kbool_0, true_and, true_or, or_true]
    · rw [if_neg c3]
      have hr := relF_L (k := 1) (p := p) (S := S) (n := n) (A := A)
      have hle := @relF_le S 1 p n A
      rw [hr]
      refine QR_s _ _ _ S (by omega) rfl SL_tail.symm (show g - 1 ≤ 4 by omega) (show (0 : Nat) ≤ 3 by decide) ?_
      obtain ⟨rr, hpop⟩ := q_pop' (i := i) (n := (relF 1 S p n A).2.1) (A := (relF 1 S p n A).2.2) (p := (relF 1 S p n A).1) (S := S) (g := g - 1) (h := 0) (u := 0) hf (by omega)
      intro sc d y nx hd L st cu su l f t sp K
      refine kCA_of (d := d + 4) (v := some (.int 1)) (fun K => ?_)
      rw [km_47]
      show kWP sc (d + 4) 47 0 [.ref b, .int v, .retAddr 0] [] _ K = _
      have CB := fun (y nx : Nat) (L st : List Value) (hd : List (Int × Nat)) (K : Option (Option Value) → kS → Prop) => kCA_of (sc := sc) (d := d + 3) (z := 49) (as := [.ref b]) (y := y) (nx := nx) (hd := hd) (L := L) (st := st) (S := ((120, cu, su), qP i b n A p S g 0 0, l, kR f t sp)) (S2 := ((120, cu, su), qP i b (relF 1 S p n A).2.1 (relF 1 S p n A).2.2 ((relF 1 S p n A).1 - 1) S (g - 1) 0 0, l, kR f t sp)) (v := some (.int 1)) (K := K) (fun K => by
        rw [km_49]
        show kWP sc (d + 3) 49 0 [.ref b] [] _ K = _
        have rl := fun (y nx : Nat) (L st : List Value) (hd : List (Int × Nat)) (K : Option (Option Value) → kS → Prop) => q_release (sc := sc) (d := d + 1) (y := y) (nx := nx) (hd := hd) (L := L) (st := st) (cu := cu) (su := su) (i := i) (l := l) (f := f) (t := t) (sp := sp) (K := K) (b := b) (n := n) (A := A) (p := p) (S := S) (g := g - 1) (h := 0) (u := 0) (k := 1) hf (show 1 ≤ 1 ∧ 1 ≤ 4 by decide) (show p + n ≤ 40 by omega)
        simp only [show Int32.ofNat 1 = (1 : Int32) from rfl] at rl
        simp only [e_X5_closesBracket_0, e_X5_closesBracket_1, e_X5_closesBracket_4, e_X5_closesBracket_7, e_X5_closesBracket_8, e_X5_closesBracket_9, e_X5_closesBracket_10, e_X5_closesBracket_11, e_X5_closesBracket_14, e_X5_closesBracket_15, e_X5_closesBracket_16, e_X5_closesBracket_19, e_X5_closesBracket_20, e_X5_closesBracket_21, e_X5_closesBracket_24, e_X5_closesBracket_25, e_X5_closesBracket_28, e_X5_closesBracket_29, e_X5_closesBracket_30, ob_r hf, kcl_i, kcl_r, kcl_l, kcl_0, kcl_n, true_and, and_true, qP_5, e0, c3, if_false, tn_sub (show 0 < g by omega), qW_5, rl, hpop, kbool_1, true_and, true_or, or_true])
      simp only [e_X5_takesJoin_0, e_X5_takesJoin_1, e_X5_takesJoin_4, e_X5_takesJoin_7, e_X5_takesJoin_8, e_X5_takesJoin_9, e_X5_takesJoin_11, e_X5_takesJoin_12, e_X5_takesJoin_15, e_X5_takesJoin_16, e_X5_takesJoin_17, e_X5_takesJoin_18, e_X5_takesJoin_21, e_X5_takesJoin_22, e_X5_takesJoin_24, e_X5_takesJoin_27, e_X5_takesJoin_28, e_X5_takesJoin_31, e_X5_takesJoin_32, e_X5_takesJoin_35, e_X5_takesJoin_36, e_X5_takesJoin_37, e_X5_takesJoin_40, e_X5_takesJoin_41, e_X5_takesJoin_42, e_X5_takesJoin_45, e_X5_takesJoin_46, e_X5_takesJoin_47, e_X5_takesJoin_48, e_X5_takesJoin_49, e_X5_takesJoin_50, e_X5_takesJoin_53, e_X5_takesJoin_54, e_X5_takesJoin_57, e_X5_takesJoin_58, e_X5_takesJoin_61, e_X5_takesJoin_62, e_X5_takesJoin_63, e_X5_takesJoin_66, e_X5_takesJoin_67, e_X5_takesJoin_70, e_X5_takesJoin_73, e_X5_takesJoin_74, e_X5_takesJoin_77, e_X5_takesJoin_78, e_X5_takesJoin_79, e_X5_takesJoin_80, e_X5_takesJoin_83, e_X5_takesJoin_84, e_X5_takesJoin_85, e_X5_takesJoin_88, e_X5_takesJoin_89, e_X5_takesJoin_90, e_X5_takesJoin_93, e_X5_takesJoin_94, ob_r hf, kcl_i, kcl_r, kcl_l, kcl_0, kcl_n, true_and, and_true, c_isDigit, kb_0, c1', not_false_eq_true, if_true, z6, c2, not_true_eq_false, if_false]
      rw [show d + 4 = d + 3 + 1 from rfl, CB]
      show kWP sc (d + 3 + 1) _ _ _ [.int 1] _ K = _
      simp only [e_X5_takesJoin_0, e_X5_takesJoin_1, e_X5_takesJoin_4, e_X5_takesJoin_7, e_X5_takesJoin_8, e_X5_takesJoin_9, e_X5_takesJoin_11, e_X5_takesJoin_12, e_X5_takesJoin_15, e_X5_takesJoin_16, e_X5_takesJoin_17, e_X5_takesJoin_18, e_X5_takesJoin_21, e_X5_takesJoin_22, e_X5_takesJoin_24, e_X5_takesJoin_27, e_X5_takesJoin_28, e_X5_takesJoin_31, e_X5_takesJoin_32, e_X5_takesJoin_35, e_X5_takesJoin_36, e_X5_takesJoin_37, e_X5_takesJoin_40, e_X5_takesJoin_41, e_X5_takesJoin_42, e_X5_takesJoin_45, e_X5_takesJoin_46, e_X5_takesJoin_47, e_X5_takesJoin_48, e_X5_takesJoin_49, e_X5_takesJoin_50, e_X5_takesJoin_53, e_X5_takesJoin_54, e_X5_takesJoin_57, e_X5_takesJoin_58, e_X5_takesJoin_61, e_X5_takesJoin_62, e_X5_takesJoin_63, e_X5_takesJoin_66, e_X5_takesJoin_67, e_X5_takesJoin_70, e_X5_takesJoin_73, e_X5_takesJoin_74, e_X5_takesJoin_77, e_X5_takesJoin_78, e_X5_takesJoin_79, e_X5_takesJoin_80, e_X5_takesJoin_83, e_X5_takesJoin_84, e_X5_takesJoin_85, e_X5_takesJoin_88, e_X5_takesJoin_89, e_X5_takesJoin_90, e_X5_takesJoin_93, e_X5_takesJoin_94, ob_r hf, kcl_i, kcl_r, kcl_l, kcl_0, kcl_n, true_and, and_true, kbool_1, true_and, true_or, or_true]
      rfl
  rw [if_neg c2]
  have hb4 := @bnd_le (2000 + v)
  have eb : (Int32.ofNat (bnd (2000 + v)) = 0) = (bnd (2000 + v) = 0) := tn_z (by omega)
  have eb1 : (Int32.ofNat (bnd (2000 + v)) = 1) = (bnd (2000 + v) = 1) := by rw [show (1 : Int32) = Int32.ofNat 1 from rfl, tn_eq (by omega) (by decide)]
  by_cases c3 : bnd (2000 + v) = 0
  · rw [if_pos c3]
    refine QR_n n A p S g 0 0 ?_
    intro sc d y nx hd L st cu su l f t sp K
    refine kCA_of (d := d + 4) (v := some (.int 0)) (fun K => ?_)
    rw [km_47]
    show kWP sc (d + 4) 47 0 [.ref b, .int v, .retAddr 0] [] _ K = _
    simp only [e_X5_takesJoin_0, e_X5_takesJoin_1, e_X5_takesJoin_4, e_X5_takesJoin_7, e_X5_takesJoin_8, e_X5_takesJoin_9, e_X5_takesJoin_11, e_X5_takesJoin_12, e_X5_takesJoin_15, e_X5_takesJoin_16, e_X5_takesJoin_17, e_X5_takesJoin_18, e_X5_takesJoin_21, e_X5_takesJoin_22, e_X5_takesJoin_24, e_X5_takesJoin_27, e_X5_takesJoin_28, e_X5_takesJoin_31, e_X5_takesJoin_32, e_X5_takesJoin_35, e_X5_takesJoin_36, e_X5_takesJoin_37, e_X5_takesJoin_40, e_X5_takesJoin_41, e_X5_takesJoin_42, e_X5_takesJoin_45, e_X5_takesJoin_46, e_X5_takesJoin_47, e_X5_takesJoin_48, e_X5_takesJoin_49, e_X5_takesJoin_50, e_X5_takesJoin_53, e_X5_takesJoin_54, e_X5_takesJoin_57, e_X5_takesJoin_58, e_X5_takesJoin_61, e_X5_takesJoin_62, e_X5_takesJoin_63, e_X5_takesJoin_66, e_X5_takesJoin_67, e_X5_takesJoin_70, e_X5_takesJoin_73, e_X5_takesJoin_74, e_X5_takesJoin_77, e_X5_takesJoin_78, e_X5_takesJoin_79, e_X5_takesJoin_80, e_X5_takesJoin_83, e_X5_takesJoin_84, e_X5_takesJoin_85, e_X5_takesJoin_88, e_X5_takesJoin_89, e_X5_takesJoin_90, e_X5_takesJoin_93, e_X5_takesJoin_94, ob_r hf, kcl_i, kcl_r, kcl_l, kcl_0, kcl_n, true_and, and_true, c_isDigit, kb_0, c1', not_false_eq_true, if_true, z6, c2, if_false, q_bond, eb, eq_true c3, kbool_0, true_and, true_or, or_true]
  rw [if_neg c3]
  by_cases c4 : bnd (2000 + v) = 1
  · rw [if_pos c4]
    have hr := relF_L (k := 2) (p := p) (S := S) (n := n) (A := A)
    have hle := @relF_le S 2 p n A
    have hw : topb (SL (relF 2 S p n A).1 S) = bnd (wai (relF 2 S p n A).1 S) := by
      generalize (relF 2 S p n A).1 = z
      cases z with
      | zero => exact bnd_1.symm
      | succ z => rfl
    have hb5 := @bnd_le (wai (relF 2 S p n A).1 S)
    have ew : (Int32.ofNat (bnd (wai (relF 2 S p n A).1 S)) = 1) = (bnd (wai (relF 2 S p n A).1 S) = 1) := by rw [show (1 : Int32) = Int32.ofNat 1 from rfl, tn_eq (by omega) (by decide)]
    rw [hr]
    dsimp only
    rw [hw]
    have e11 : (Int32.ofNat 1 = 0) = False := eq_false (by decide)
    by_cases c5 : bnd (wai (relF 2 S p n A).1 S) = 1
    · rw [if_pos c5]
      refine QR_n (relF 2 S p n A).2.1 (relF 2 S p n A).2.2 (relF 2 S p n A).1 S g 0 0 ?_
      intro sc d y nx hd L st cu su l f t sp K
      refine kCA_of (d := d + 4) (v := some (.int 0)) (fun K => ?_)
      rw [km_47]
      show kWP sc (d + 4) 47 0 [.ref b, .int v, .retAddr 0] [] _ K = _
      simp only [e_X5_takesJoin_0, e_X5_takesJoin_1, e_X5_takesJoin_4, e_X5_takesJoin_7, e_X5_takesJoin_8, e_X5_takesJoin_9, e_X5_takesJoin_11, e_X5_takesJoin_12, e_X5_takesJoin_15, e_X5_takesJoin_16, e_X5_takesJoin_17, e_X5_takesJoin_18, e_X5_takesJoin_21, e_X5_takesJoin_22, e_X5_takesJoin_24, e_X5_takesJoin_27, e_X5_takesJoin_28, e_X5_takesJoin_31, e_X5_takesJoin_32, e_X5_takesJoin_35, e_X5_takesJoin_36, e_X5_takesJoin_37, e_X5_takesJoin_40, e_X5_takesJoin_41, e_X5_takesJoin_42, e_X5_takesJoin_45, e_X5_takesJoin_46, e_X5_takesJoin_47, e_X5_takesJoin_48, e_X5_takesJoin_49, e_X5_takesJoin_50, e_X5_takesJoin_53, e_X5_takesJoin_54, e_X5_takesJoin_57, e_X5_takesJoin_58, e_X5_takesJoin_61, e_X5_takesJoin_62, e_X5_takesJoin_63, e_X5_takesJoin_66, e_X5_takesJoin_67, e_X5_takesJoin_70, e_X5_takesJoin_73, e_X5_takesJoin_74, e_X5_takesJoin_77, e_X5_takesJoin_78, e_X5_takesJoin_79, e_X5_takesJoin_80, e_X5_takesJoin_83, e_X5_takesJoin_84, e_X5_takesJoin_85, e_X5_takesJoin_88, e_X5_takesJoin_89, e_X5_takesJoin_90, e_X5_takesJoin_93, e_X5_takesJoin_94, ob_r hf, kcl_i, kcl_r, kcl_l, kcl_0, kcl_n, true_and, and_true, c_isDigit, kb_0, c1', not_false_eq_true, if_true, z6, c2, if_false, q_bond, c4, e11, show (Int32.ofNat 1 = 1) = True from eq_true rfl, not_true_eq_false, show (2 : Int32) = Int32.ofNat 2 from rfl, q_release hf (show 1 ≤ 2 ∧ 2 ≤ 4 by decide) (show p + n ≤ 40 by omega), q_waiting hf (show (relF 2 S p n A).1 ≤ 40 by omega), c5, kbool_0, true_and, true_or, or_true]
    · rw [if_neg c5]
      refine QR_s (relF 2 S p n A).2.1 (relF 2 S p n A).2.2 ((relF 2 S p n A).1 + 1) (kuf S (relF 2 S p n A).1 (2000 + v)) (by omega) rfl SL_p hg (show (0 : Nat) ≤ 3 by decide) ?_
      intro sc d y nx hd L st cu su l f t sp K
      refine kCA_of (d := d + 4) (v := some (.int 1)) (fun K => ?_)
      rw [km_47]
      show kWP sc (d + 4) 47 0 [.ref b, .int v, .retAddr 0] [] _ K = _
      simp only [e_X5_takesJoin_0, e_X5_takesJoin_1, e_X5_takesJoin_4, e_X5_takesJoin_7, e_X5_takesJoin_8, e_X5_takesJoin_9, e_X5_takesJoin_11, e_X5_takesJoin_12, e_X5_takesJoin_15, e_X5_takesJoin_16, e_X5_takesJoin_17, e_X5_takesJoin_18, e_X5_takesJoin_21, e_X5_takesJoin_22, e_X5_takesJoin_24, e_X5_takesJoin_27, e_X5_takesJoin_28, e_X5_takesJoin_31, e_X5_takesJoin_32, e_X5_takesJoin_35, e_X5_takesJoin_36, e_X5_takesJoin_37, e_X5_takesJoin_40, e_X5_takesJoin_41, e_X5_takesJoin_42, e_X5_takesJoin_45, e_X5_takesJoin_46, e_X5_takesJoin_47, e_X5_takesJoin_48, e_X5_takesJoin_49, e_X5_takesJoin_50, e_X5_takesJoin_53, e_X5_takesJoin_54, e_X5_takesJoin_57, e_X5_takesJoin_58, e_X5_takesJoin_61, e_X5_takesJoin_62, e_X5_takesJoin_63, e_X5_takesJoin_66, e_X5_takesJoin_67, e_X5_takesJoin_70, e_X5_takesJoin_73, e_X5_takesJoin_74, e_X5_takesJoin_77, e_X5_takesJoin_78, e_X5_takesJoin_79, e_X5_takesJoin_80, e_X5_takesJoin_83, e_X5_takesJoin_84, e_X5_takesJoin_85, e_X5_takesJoin_88, e_X5_takesJoin_89, e_X5_takesJoin_90, e_X5_takesJoin_93, e_X5_takesJoin_94, ob_r hf, kcl_i, kcl_r, kcl_l, kcl_0, kcl_n, true_and, and_true, c_isDigit, kb_0, c1', not_false_eq_true, if_true, z6, c2, if_false, q_bond, c4, e11, show (Int32.ofNat 1 = 1) = True from eq_true rfl, not_true_eq_false, show (2 : Int32) = Int32.ofNat 2 from rfl, q_release hf (show 1 ≤ 2 ∧ 2 ≤ 4 by decide) (show p + n ≤ 40 by omega), q_waiting hf (show (relF 2 S p n A).1 ≤ 40 by omega), ew, c5, q_push hf (show (relF 2 S p n A).1 < 40 by omega), qW_7, kbool_1, true_and, true_or, or_true]
      rfl
  · rw [if_neg c4]
    generalize hkb : bnd (2000 + v) = kb1 at c3 c4 hb4
    have hr := relF_L (k := kb1) (p := p) (S := S) (n := n) (A := A)
    have hle := @relF_le S kb1 p n A
    rw [hr]
    refine QR_s (relF kb1 S p n A).2.1 (relF kb1 S p n A).2.2 ((relF kb1 S p n A).1 + 1) (kuf S (relF kb1 S p n A).1 (2000 + v)) (by omega) rfl SL_p hg (show (0 : Nat) ≤ 3 by decide) ?_
    intro sc d y nx hd L st cu su l f t sp K
    refine kCA_of (d := d + 4) (v := some (.int 1)) (fun K => ?_)
    rw [km_47]
    show kWP sc (d + 4) 47 0 [.ref b, .int v, .retAddr 0] [] _ K = _
    have eb : (Int32.ofNat kb1 = 0) = False := by rw [tn_z (by omega)]; exact eq_false c3
    have eb1 : (Int32.ofNat kb1 = 1) = False := by rw [show (1 : Int32) = Int32.ofNat 1 from rfl, tn_eq (by omega) (by decide)]; exact eq_false c4
    simp only [e_X5_takesJoin_0, e_X5_takesJoin_1, e_X5_takesJoin_4, e_X5_takesJoin_7, e_X5_takesJoin_8, e_X5_takesJoin_9, e_X5_takesJoin_11, e_X5_takesJoin_12, e_X5_takesJoin_15, e_X5_takesJoin_16, e_X5_takesJoin_17, e_X5_takesJoin_18, e_X5_takesJoin_21, e_X5_takesJoin_22, e_X5_takesJoin_24, e_X5_takesJoin_27, e_X5_takesJoin_28, e_X5_takesJoin_31, e_X5_takesJoin_32, e_X5_takesJoin_35, e_X5_takesJoin_36, e_X5_takesJoin_37, e_X5_takesJoin_40, e_X5_takesJoin_41, e_X5_takesJoin_42, e_X5_takesJoin_45, e_X5_takesJoin_46, e_X5_takesJoin_47, e_X5_takesJoin_48, e_X5_takesJoin_49, e_X5_takesJoin_50, e_X5_takesJoin_53, e_X5_takesJoin_54, e_X5_takesJoin_57, e_X5_takesJoin_58, e_X5_takesJoin_61, e_X5_takesJoin_62, e_X5_takesJoin_63, e_X5_takesJoin_66, e_X5_takesJoin_67, e_X5_takesJoin_70, e_X5_takesJoin_73, e_X5_takesJoin_74, e_X5_takesJoin_77, e_X5_takesJoin_78, e_X5_takesJoin_79, e_X5_takesJoin_80, e_X5_takesJoin_83, e_X5_takesJoin_84, e_X5_takesJoin_85, e_X5_takesJoin_88, e_X5_takesJoin_89, e_X5_takesJoin_90, e_X5_takesJoin_93, e_X5_takesJoin_94, ob_r hf, kcl_i, kcl_r, kcl_l, kcl_0, kcl_n, true_and, and_true, c_isDigit, kb_0, c1', not_false_eq_true, if_true, z6, c2, if_false, q_bond, hkb, eb, eb1, q_release hf (show 1 ≤ kb1 ∧ kb1 ≤ 4 by omega) (show p + n ≤ 40 by omega), q_push hf (show (relF kb1 S p n A).1 < 40 by omega), qW_7, kbool_1, true_and, true_or, or_true]
    rfl
end TC
