/-! an evening: the acts one behind the other -/
section TC
variable {sc : Nat × (Nat → Int32)} {d y nx : Nat} {hd : List (Int × Nat)} {L st : List Value} {S : kS} {cu su : Nat} {i : Nat → Nat → Int32} {l : Nat → Nat → Int64} {f t c b m : Nat} {sp : Nat → Nat} {K : Option (Option Value) → kS → Prop}
variable {N M Z S1 Q A B C S le co br acts code co2 br2 : Nat → Int32} {n n2 k x a o g c h p to z nn : Nat} {v r q : Int32} {T : Nat → Int32} {j J Y : Nat → Nat → Int32} {w : WN} {u : WM}
theorem pos_le {a : Nat} : ∀ {b : Nat}, a ≤ b → pos T a ≤ pos T b := by
  intro b
  induction b with
  | zero => intro h; have : a = 0 := by omega
            subst this; exact Nat.le_refl _
  | succ b ih =>
    intro h
    by_cases e : a = b + 1
    · rw [e]; exact Nat.le_refl _
    · have := ih (by omega)
      show _ ≤ pos T b + wid (T (pos T b))
      omega
theorem kd_rng {v : Int32} (h : ¬ kdO v = -1) : (¬ kdO v < 0 ∧ ¬ 4 < kdO v) ∧ ¬ kdO v = 5 := by
  unfold kdO at h ⊢
  by_cases q1 : v = 98
  · rw [if_pos q1]; decide
  rw [if_neg q1] at h ⊢
  by_cases q2 : v = 99
  · rw [if_pos q2]; decide
  rw [if_neg q2] at h ⊢
  by_cases q3 : v = 113
  · rw [if_pos q3]; decide
  rw [if_neg q3] at h ⊢
  by_cases q4 : v = 119
  · rw [if_pos q4]; decide
  rw [if_neg q4] at h ⊢
  by_cases q5 : v = 122
  · rw [if_pos q5]; decide
  rw [if_neg q5] at h
  exact absurd rfl h
theorem kd_122 {v : Int32} (h : v = 122) : kdO v = 1 := by subst h; decide
theorem kd_2 {v : Int32} : (kdO v = 2) ↔ v = 113 := by
  unfold kdO
  by_cases q1 : v = 98
  · rw [if_pos q1]; subst q1; decide
  rw [if_neg q1]
  by_cases q2 : v = 99
  · rw [if_pos q2]; subst q2; decide
  rw [if_neg q2]
  by_cases q3 : v = 113
  · rw [if_pos q3]; exact ⟨fun _ => q3, fun _ => rfl⟩
  rw [if_neg q3]
  refine ⟨fun h => ?_, fun h => absurd h q3⟩
  by_cases q4 : v = 119
  · rw [if_pos q4] at h; exact absurd h (by decide)
  rw [if_neg q4] at h
  by_cases q5 : v = 122
  · rw [if_pos q5] at h; exact absurd h (by decide)
  rw [if_neg q5] at h; exact absurd h (by decide)
/-- an act does the same on both sides -/
theorem act_rel (hco : ∀ a, a < m → co a = co2 a) (hbr : ∀ a, a < m → br a = br2 a) (hb8 : ∀ a, b8 (co2 a)) (h8 : m ≤ 8) (hle : leOk le) (hr : RR acts n code n2) (h : NR m w.1 u.1) (hh : holds T k A B C) (hx : x < k) (hp : pos T k = nn) : (aR co m T nn (pos T x) w ↔ aQ co2 m A B C x u) ∧ NR m (aC le co br m acts n T nn (pos T x) w).1 (aM le co2 br2 m code n2 A B C x u).1 := by
  obtain ⟨e1, e2, e3, e4, e5, e6⟩ := hh x hx
  have hp1 : pos T (x + 1) ≤ nn := by rw [← hp]; exact pos_le (by omega)
  have hp2 : pos T x + wid (T (pos T x)) ≤ nn := hp1
  by_cases c1 : T (pos T x) = 110
  · have a5 : A x = 5 := by rw [e1]; unfold sgO; rw [if_pos c1]
    refine ⟨⟨fun q => absurd c1 q.1, fun q => absurd a5 q.1⟩, ?_⟩
    unfold aC aM
    rw [if_pos c1, if_pos a5, e2]
    show NR m (qPlay le co br m acts n (dgC T (pos T x)) w.1).1 _
    rw [qPlay_T (w := w)]
    exact (S_rel hco hbr hb8 h8 hle hr h _).1
  · have ak : A x = kdO (T (pos T x)) := by rw [e1]; unfold sgO; rw [if_neg c1]
    have nk : ¬ kdO (T (pos T x)) = -1 := by
      unfold stA at e4
      rw [if_pos rfl] at e4
      rcases e4 with q | q
      · exact q
      · exact absurd q c1
    obtain ⟨⟨k0, k4⟩, k5⟩ := kd_rng nk
    have a5 : ¬ A x = 5 := by rw [ak]; exact k5
    have hq : (kdO (T (pos T x)) = 1) ∨ whC T nn (pos T x) = C x := by
      by_cases c2 : T (pos T x) = 122
      · exact Or.inl (kd_122 c2)
      · right
        have w3 : wid (T (pos T x)) = 3 := by unfold wid; rw [if_neg (fun q => by rcases q with q | q; exact c1 q; exact c2 q)]
        rw [e3]
        unfold whC thO tA
        rw [if_pos (show pos T x + 2 < nn by omega), if_neg (show ¬ wid (T (pos T x)) = 2 by omega)]
        by_cases c3 : T (pos T x) = 113
        · rw [if_pos (kd_2.2 c3), if_pos c3]
        · rw [if_neg (fun q => c3 (kd_2.1 q)), if_neg c3]
    have hrf : pRefuse co2 (u.1 17) (u.1 18) (pPm u.1) (Int32.ofNat m) (T (pos T x + 1) - 48) (kdO (T (pos T x))) (whC T nn (pos T x)) = pRefuse co2 (u.1 17) (u.1 18) (pPm u.1) (Int32.ofNat m) (T (pos T x + 1) - 48) (kdO (T (pos T x))) (C x) := by
      rcases hq with q | q
      · rw [q]; exact refuse_1
      · rw [q]
    have hgo : ∀ a, qGo le w.1 a (kdO (T (pos T x))) (whC T nn (pos T x)) = qGo le w.1 a (kdO (T (pos T x))) (C x) := by
      intro a
      rcases hq with q | q
      · rw [q]; exact qGo_1
      · rw [q]
    have e : pRefuse co (w.1 17) (w.1 18) (w.1 22) (Int32.ofNat m) (T (pos T x + 1) - 48) (kdO (T (pos T x))) (whC T nn (pos T x)) = pRefuse co2 (u.1 17) (u.1 18) (pPm u.1) (Int32.ofNat m) (B x) (A x) (C x) := by
      rw [h.1.1 17 (by decide), h.1.1 18 (by decide), h.1.2.1, refuse_all hco h8, hrf, e2, ak]
    refine ⟨⟨fun q => ⟨a5, by rw [← e]; exact q.2⟩, fun q => ⟨c1, by rw [e]; exact q.2⟩⟩, ?_⟩
    unfold aC aM
    rw [if_neg c1, if_neg a5, e2, ak]
    exact (talk_rel hco h8 hle h k0 k4 hrf hgo).1
def eW (le co br : Nat → Int32) (m : Nat) (acts : Nat → Int32) (n : Nat) (T : Nat → Int32) (nn : Nat) (w : WN) (x : Nat) : WN := kfo (fun x w => aC le co br m acts n T nn (pos T x) w) x w
def eU (le co br : Nat → Int32) (m : Nat) (code : Nat → Int32) (n2 : Nat) (A B C : Nat → Int32) (u : WM) (x : Nat) : WM := kfo (fun x u => aM le co br m code n2 A B C x u) x u
theorem eW_s : eW le co br m acts n T nn w (x + 1) = aC le co br m acts n T nn (pos T x) (eW le co br m acts n T nn w x) := rfl
theorem eU_s : eU le co br m code n2 A B C u (x + 1) = aM le co br m code n2 A B C x (eU le co br m code n2 A B C u x) := rfl
theorem eWU (hco : ∀ a, a < m → co a = co2 a) (hbr : ∀ a, a < m → br a = br2 a) (hb8 : ∀ a, b8 (co2 a)) (h8 : m ≤ 8) (hle : leOk le) (hr : RR acts n code n2) (h : NR m w.1 u.1) (hh : holds T k A B C) (hp : pos T k = nn) : ∀ x, x ≤ k → NR m (eW le co br m acts n T nn w x).1 (eU le co2 br2 m code n2 A B C u x).1 := by
  intro x
  induction x with
  | zero => intro _; exact h
  | succ x ih =>
    intro hx
    rw [eW_s, eU_s]
    exact (act_rel hco hbr hb8 h8 hle hr (ih (by omega)) hh (by omega) hp).2
/-- how many acts the class does -/
def eD (co : Nat → Int32) (m : Nat) (T : Nat → Int32) (nn k : Nat) (W : Nat → WN) : Option Nat := kfi (fun x => aR co m T nn (pos T x) (W x)) k 0
def eE (co : Nat → Int32) (m : Nat) (A B C : Nat → Int32) (k : Nat) (U : Nat → WM) : Option Nat := kfi (fun x => aQ co m A B C x (U x)) k 0
/-- the class's acts -/
theorem l_acts (hf : kRc f = true) (hm : Y 5 0 = Int32.ofNat m) (h8 : m ≤ 8) (hn : Y f 2 = Int32.ofNat n) (h40 : n ≤ 40) (ht : Y 1 1 = Int32.ofNat nn) (h60 : nn ≤ 60) (hT : ∀ x, x < nn → Y 2 x = T x) (hh : holds T k A B C) (hp : pos T k = nn) (h2k : 2 * k ≤ nn) (W : Nat → WN) (hW : ∀ x, W (x + 1) = aC (Y 9) (Y 8) (Y 6) m (Y (f + 1)) n T nn (pos T x) (W x)) : kWP sc (d + 499) 106 42 [.ref 0, .int (-1), .int (Int32.ofNat 0), .int (Int32.ofNat 0), .int 0, .int (Int32.ofNat 0)] [] ((120, cu, su), nS Y f (W 0), l, kR f t sp) K = match eD (Y 8) m T nn k W with
    | some x => kWP sc (d + 499) 106 108 [.ref 0, .int (-1), .int (Int32.ofNat (pos T (x + 1))), .int (Int32.ofNat x), .int 1, .int (Int32.ofNat (x + 1))] [] ((120, cu, su), nS Y f (W x), l, kR f t sp) K
    | none => kWP sc (d + 499) 106 108 [.ref 0, .int (-1), .int (Int32.ofNat nn), .int (Int32.ofNat k), .int 0, .int (Int32.ofNat k)] [] ((120, cu, su), nS Y f (W k), l, kR f t sp) K := by
  have t1 : ∀ w, nS Y f w 1 1 = Int32.ofNat nn := fun w => by rw [nS_lo hf (by decide)]; exact ht
  have t2 : ∀ w, ∀ x, x < nn → nS Y f w 2 x = T x := fun w => by rw [nS_lo hf (by decide)]; exact hT
  have n60 : ∀ x, x < 60 → ((60 : Int32) ≤ Int32.ofNat x) = False := fun x hx => jpF (n := 60) hx (by decide)
  have R := k_find (P := fun x => kWP sc (d + 499) 106 42 [.ref 0, .int (-1), .int (Int32.ofNat (pos T x)), .int (Int32.ofNat x), .int 0, .int (Int32.ofNat x)] [] ((120, cu, su), nS Y f (W x), l, kR f t sp) K) (Q := fun x => kWP sc (d + 499) 106 108 [.ref 0, .int (-1), .int (Int32.ofNat (pos T (x + 1))), .int (Int32.ofNat x), .int 1, .int (Int32.ofNat (x + 1))] [] ((120, cu, su), nS Y f (W x), l, kR f t sp) K) (p := fun x => aR (Y 8) m T nn (pos T x) (W x)) (n := k) ?_
  · refine R.trans ?_
    unfold eD
    cases kfi (fun x => aR (Y 8) m T nn (pos T x) (W x)) k 0 with
    | some x => rfl
    | none =>
      show kWP sc (d + 499) _ 42 _ _ _ K = _
      rw [hp]
      refine e_X10_evening_42.trans ?_
      simp only [e_X10_evening_0, e_X10_evening_1, e_X10_evening_4, e_X10_evening_5, e_X10_evening_6, e_X10_evening_7, e_X10_evening_10, e_X10_evening_11, e_X10_evening_14, e_X10_evening_17, e_X10_evening_18, e_X10_evening_19, e_X10_evening_20, e_X10_evening_21, e_X10_evening_22, e_X10_evening_25, e_X10_evening_26, e_X10_evening_29, e_X10_evening_32, e_X10_evening_33, e_X10_evening_34, e_X10_evening_35, e_X10_evening_36, e_X10_evening_37, e_X10_evening_39, e_X10_evening_40, e_X10_evening_44, e_X10_evening_46, e_X10_evening_49, e_X10_evening_50, e_X10_evening_51, e_X10_evening_54, e_X10_evening_57, e_X10_evening_60, e_X10_evening_62, e_X10_evening_65, e_X10_evening_66, e_X10_evening_67, e_X10_evening_70, e_X10_evening_73, e_X10_evening_74, e_X10_evening_77, e_X10_evening_78, e_X10_evening_80, e_X10_evening_82, e_X10_evening_85, e_X10_evening_88, e_X10_evening_89, e_X10_evening_90, e_X10_evening_93, e_X10_evening_94, e_X10_evening_97, e_X10_evening_100, e_X10_evening_101, e_X10_evening_102, e_X10_evening_105, e_X10_evening_109, e_X10_evening_112, e_X10_evening_115, e_X10_evening_116, e_X10_evening_119, e_X10_evening_120, e_X10_evening_123, e_X10_evening_124, e_X10_evening_127, e_X10_evening_130, e_X10_evening_131, e_X10_evening_134, e_X10_evening_137, e_X10_evening_138, e_X10_evening_141, e_X10_evening_143, e_X10_evening_146, e_X10_evening_147, e_X10_evening_150, e_X10_evening_151, e_X10_evening_154, e_X10_evening_155, e_X10_evening_158, e_X10_evening_159, e_X10_evening_162, e_X10_evening_165, e_X10_evening_166, e_X10_evening_169, e_X10_evening_170, ob_0, rk_0_0, ob_1, rk_0_4, rk_0_3, ob_10, ob_13, rk_0_5, ob_16, rk_0_1, ob_3, kcl_i, kcl_r, kcl_l, kcl_0, kcl_n, true_and, and_true, n60 k (by omega), if_false, t1, Int32.le_refl, if_true]
  · intro x hx
    obtain ⟨_, _, _, _, e5, _⟩ := hh x hx
    have hp1 : pos T (x + 1) ≤ nn := by rw [← hp]; exact pos_le (by omega)
    have hp2 : pos T x + wid (T (pos T x)) ≤ nn := hp1
    have w3 := @wid_23 (T (pos T x))
    have a1 : tA T nn (pos T x) = T (pos T x) := by unfold tA; rw [if_pos (by omega)]
    have eadd : Int32.ofNat (pos T x) + Int32.ofNat (wid (T (pos T x))) = Int32.ofNat (pos T (x + 1)) := (Int32.ofNat_add _ _).symm
    have AC := fun (y nx : Nat) (hd : List (Int × Nat)) (L st : List Value) (K : Option (Option Value) → kS → Prop) => c_act (sc := sc) (d := d + 493) (y := y) (nx := nx) (hd := hd) (L := L) (st := st) (cu := cu) (su := su) (i := Y) (l := l) (f := f) (t := t) (sp := sp) (K := K) (w := W x) (T := T) (x := pos T x) hf hm h8 hn h40 ht (by omega) hT (by omega) e5
    refine e_X10_evening_42.trans ?_
    by_cases c : aR (Y 8) m T nn (pos T x) (W x)
    · have AC1 := fun (y nx : Nat) (hd : List (Int × Nat)) (L st : List Value) (K : Option (Option Value) → kS → Prop) => (AC y nx hd L st K).1 c
      rw [if_pos c]
      simp only [e_X10_evening_0, e_X10_evening_1, e_X10_evening_4, e_X10_evening_5, e_X10_evening_6, e_X10_evening_7, e_X10_evening_10, e_X10_evening_11, e_X10_evening_14, e_X10_evening_17, e_X10_evening_18, e_X10_evening_19, e_X10_evening_20, e_X10_evening_21, e_X10_evening_22, e_X10_evening_25, e_X10_evening_26, e_X10_evening_29, e_X10_evening_32, e_X10_evening_33, e_X10_evening_34, e_X10_evening_35, e_X10_evening_36, e_X10_evening_37, e_X10_evening_39, e_X10_evening_40, e_X10_evening_44, e_X10_evening_46, e_X10_evening_49, e_X10_evening_50, e_X10_evening_51, e_X10_evening_54, e_X10_evening_57, e_X10_evening_60, e_X10_evening_62, e_X10_evening_65, e_X10_evening_66, e_X10_evening_67, e_X10_evening_70, e_X10_evening_73, e_X10_evening_74, e_X10_evening_77, e_X10_evening_78, e_X10_evening_80, e_X10_evening_82, e_X10_evening_85, e_X10_evening_88, e_X10_evening_89, e_X10_evening_90, e_X10_evening_93, e_X10_evening_94, e_X10_evening_97, e_X10_evening_100, e_X10_evening_101, e_X10_evening_102, e_X10_evening_105, e_X10_evening_109, e_X10_evening_112, e_X10_evening_115, e_X10_evening_116, e_X10_evening_119, e_X10_evening_120, e_X10_evening_123, e_X10_evening_124, e_X10_evening_127, e_X10_evening_130, e_X10_evening_131, e_X10_evening_134, e_X10_evening_137, e_X10_evening_138, e_X10_evening_141, e_X10_evening_143, e_X10_evening_146, e_X10_evening_147, e_X10_evening_150, e_X10_evening_151, e_X10_evening_154, e_X10_evening_155, e_X10_evening_158, e_X10_evening_159, e_X10_evening_162, e_X10_evening_165, e_X10_evening_166, e_X10_evening_169, e_X10_evening_170, ob_0, rk_0_0, ob_1, rk_0_4, rk_0_3, ob_10, ob_13, rk_0_5, ob_16, rk_0_1, ob_3, kcl_i, kcl_r, kcl_l, kcl_0, kcl_n, true_and, and_true, n60 x (by omega), if_false, t1, jpF (show pos T x < nn by omega) (by omega), if_true, not_true_eq_false, AC1, z10, not_false_eq_true, c_atN (t1 _) (show nn ≤ 80 by omega) (t2 _) (show pos T x < 100000 by omega), a1, y_actSigns, eadd, tn_s]
      refine e_X10_evening_42.trans ?_
      simp only [e_X10_evening_0, e_X10_evening_1, e_X10_evening_4, e_X10_evening_5, e_X10_evening_6, e_X10_evening_7, e_X10_evening_10, e_X10_evening_11, e_X10_evening_14, e_X10_evening_17, e_X10_evening_18, e_X10_evening_19, e_X10_evening_20, e_X10_evening_21, e_X10_evening_22, e_X10_evening_25, e_X10_evening_26, e_X10_evening_29, e_X10_evening_32, e_X10_evening_33, e_X10_evening_34, e_X10_evening_35, e_X10_evening_36, e_X10_evening_37, e_X10_evening_39, e_X10_evening_40, e_X10_evening_44, e_X10_evening_46, e_X10_evening_49, e_X10_evening_50, e_X10_evening_51, e_X10_evening_54, e_X10_evening_57, e_X10_evening_60, e_X10_evening_62, e_X10_evening_65, e_X10_evening_66, e_X10_evening_67, e_X10_evening_70, e_X10_evening_73, e_X10_evening_74, e_X10_evening_77, e_X10_evening_78, e_X10_evening_80, e_X10_evening_82, e_X10_evening_85, e_X10_evening_88, e_X10_evening_89, e_X10_evening_90, e_X10_evening_93, e_X10_evening_94, e_X10_evening_97, e_X10_evening_100, e_X10_evening_101, e_X10_evening_102, e_X10_evening_105, e_X10_evening_109, e_X10_evening_112, e_X10_evening_115, e_X10_evening_116, e_X10_evening_119, e_X10_evening_120, e_X10_evening_123, e_X10_evening_124, e_X10_evening_127, e_X10_evening_130, e_X10_evening_131, e_X10_evening_134, e_X10_evening_137, e_X10_evening_138, e_X10_evening_141, e_X10_evening_143, e_X10_evening_146, e_X10_evening_147, e_X10_evening_150, e_X10_evening_151, e_X10_evening_154, e_X10_evening_155, e_X10_evening_158, e_X10_evening_159, e_X10_evening_162, e_X10_evening_165, e_X10_evening_166, e_X10_evening_169, e_X10_evening_170, ob_0, rk_0_0, ob_1, rk_0_4, rk_0_3, ob_10, ob_13, rk_0_5, ob_16, rk_0_1, ob_3, kcl_i, kcl_r, kcl_l, kcl_0, kcl_n, true_and, and_true, n60 (x + 1) (by omega), if_false, t1, z10, not_false_eq_true, if_true, ite_self]
    · have AC2 := fun (y nx : Nat) (hd : List (Int × Nat)) (L st : List Value) (K : Option (Option Value) → kS → Prop) => (AC y nx hd L st K).2 c
      rw [if_neg c, hW x]
      simp only [e_X10_evening_0, e_X10_evening_1, e_X10_evening_4, e_X10_evening_5, e_X10_evening_6, e_X10_evening_7, e_X10_evening_10, e_X10_evening_11, e_X10_evening_14, e_X10_evening_17, e_X10_evening_18, e_X10_evening_19, e_X10_evening_20, e_X10_evening_21, e_X10_evening_22, e_X10_evening_25, e_X10_evening_26, e_X10_evening_29, e_X10_evening_32, e_X10_evening_33, e_X10_evening_34, e_X10_evening_35, e_X10_evening_36, e_X10_evening_37, e_X10_evening_39, e_X10_evening_40, e_X10_evening_44, e_X10_evening_46, e_X10_evening_49, e_X10_evening_50, e_X10_evening_51, e_X10_evening_54, e_X10_evening_57, e_X10_evening_60, e_X10_evening_62, e_X10_evening_65, e_X10_evening_66, e_X10_evening_67, e_X10_evening_70, e_X10_evening_73, e_X10_evening_74, e_X10_evening_77, e_X10_evening_78, e_X10_evening_80, e_X10_evening_82, e_X10_evening_85, e_X10_evening_88, e_X10_evening_89, e_X10_evening_90, e_X10_evening_93, e_X10_evening_94, e_X10_evening_97, e_X10_evening_100, e_X10_evening_101, e_X10_evening_102, e_X10_evening_105, e_X10_evening_109, e_X10_evening_112, e_X10_evening_115, e_X10_evening_116, e_X10_evening_119, e_X10_evening_120, e_X10_evening_123, e_X10_evening_124, e_X10_evening_127, e_X10_evening_130, e_X10_evening_131, e_X10_evening_134, e_X10_evening_137, e_X10_evening_138, e_X10_evening_141, e_X10_evening_143, e_X10_evening_146, e_X10_evening_147, e_X10_evening_150, e_X10_evening_151, e_X10_evening_154, e_X10_evening_155, e_X10_evening_158, e_X10_evening_159, e_X10_evening_162, e_X10_evening_165, e_X10_evening_166, e_X10_evening_169, e_X10_evening_170, ob_0, rk_0_0, ob_1, rk_0_4, rk_0_3, ob_10, ob_13, rk_0_5, ob_16, rk_0_1, ob_3, kcl_i, kcl_r, kcl_l, kcl_0, kcl_n, true_and, and_true, n60 x (by omega), if_false, t1, jpF (show pos T x < nn by omega) (by omega), if_true, not_true_eq_false, AC2, z10, not_false_eq_true, c_atN (t1 _) (show nn ≤ 80 by omega) (t2 _) (show pos T x < 100000 by omega), a1, y_actSigns, eadd, tn_s]
end TC
