/-! ahead, when, next -/
section TC
variable {sc : Nat × (Nat → Int32)} {d y nx : Nat} {hd : List (Int × Nat)} {L st : List Value} {S : kS} {cu su : Nat} {i : Nat → Nat → Int32} {l : Nat → Nat → Int64} {f t c b m : Nat} {sp : Nat → Nat} {K : Option (Option Value) → kS → Prop}
variable {N M Z S1 Q : Nat → Int32} {i1 i2 i3 : Nat → Nat → Int32} {l2 : Nat → Nat → Int64} {n n2 k x : Nat} {v r : Int32} {zs zs2 : List Int64} {le co br acts code co2 br2 : Nat → Int32} {s : Nat × (Nat → Int32)} {w : WN} {u : WM}
theorem v97 : vPut i n 97 = i 97 := vP_o (by decide)
theorem w13 : wPut i n 13 = i 13 := wP_o (by decide)
theorem w15 : wPut i n 15 = i 15 := wP_o (by decide)
theorem w12 : wPut i n 12 = i 12 := wP_o (by decide)
theorem w10 : wPut i n 10 = i 10 := wP_o (by decide)
theorem w5 : wPut i n 5 = i 5 := wP_o (by decide)
theorem l99 : (99 : Int64) = (99 : Int32).toInt64 := by decide
theorem nob_eq {p : Int32} (h : p = -1 ∨ ∃ a, a < m ∧ p = Int32.ofNat a) (h8 : m ≤ 8) : (if p < 0 then -2 else p) = pNob p := by
  unfold pNob
  rcases h with e | ⟨a, ha, e⟩
  · rw [e]; rfl
  · rw [e, if_neg (tn_nn (by omega)), if_neg (m1_ne (by omega))]
/-- the two sides' cells, once a question has been under way -/
theorem ag_cells (ag : kAg kSc i i2) : mCo i2 = mCo i ∧ i2 93 = i 93 ∧ i2 94 = i 94 ∧ i2 100 = i 100 ∧ i2 96 = i 96 := by
  have e93 : i2 93 = i 93 := ag_row ag (fun _ => rfl)
  have e94 : i2 94 = i 94 := ag_row ag (fun _ => rfl)
  have e95 : i2 95 = i 95 := ag_row ag (fun _ => rfl)
  refine ⟨?_, e93, e94, ag_row ag (fun _ => rfl), ag_row ag (fun _ => rfl)⟩
  unfold mCo; rw [e93, e94, e95]
theorem RF_of (h : IV m i l f t sp) (e19 : i 91 19 = Int32.ofNat n2) (hr : RR (i (f + 1)) n (i 100) n2) (ag : kAg kSc i i2) : RF m n2 i2 (nGet i 10) := by
  obtain ⟨⟨h5, h91, h8, e9, hle, hp⟩, _, _, hN, _⟩ := h
  obtain ⟨_, c1, c2, c3, c4⟩ := ag_cells ag
  refine ⟨(ag 91 3 rfl).trans h91, h8, (ag 91 19 rfl).trans e19, ?_, ?_, ?_⟩
  · rw [c3]; exact hr.1
  · rw [c1]; exact hle
  · rw [c4]; exact hN
theorem c_playG {n k : Nat} (hf : kRc b = true) (hm : i 5 0 = Int32.ofNat m) (h8 : m ≤ 8) (hn : i b 2 = Int32.ofNat n) (h40 : n ≤ 40) (hk : k < 100000) : kCA sc (d + 5) 12 [.ref 13, .ref 5, .ref b, .int (Int32.ofNat k)] y nx hd L st ((120, cu, su), gS i b w, l, kR f t sp) K = kWP sc (d + 5) y nx L (.int (qPlay (i 9) (i 8) (i 6) m (i (b + 1)) n k w.1).2 :: st) ((120, cu, su), gS i b ((qPlay (i 9) (i 8) (i 6) m (i (b + 1)) n k w.1).1, sPlay (i 9) (i 8) (i 6) m (i (b + 1)) n k w.1 w.2), l, kR f t sp) K := c_play hf c13 hm h8 hn h40 hk
/-- the reference's rows, begun from now -/
def U0 (i : Nat → Nat → Int32) : WM := uZ (u0 i) (kuf (kuf (u0 i).2.1 25 0) 26 0)
def Us (i : Nat → Nat → Int32) (m n2 x : Nat) : WM := rTs (i 93) (mCo i) (i 94) m (i 100) n2 x (U0 i)
theorem m_ahead {k : Nat} (h : RF m n2 (uPut i) N) (hk : k ≤ 99) : CC 214 [.ref 91, .int (Int32.ofNat k)] i l f t sp (.int (if (Us (uPut i) m n2 k).1 18 < 0 then -2 else (Us (uPut i) m n2 k).1 18)) (vPut (mS (uPut i) 97 (Us (uPut i) m n2 k)) 2) (tR l 0 [((Us (uPut i) m n2 k).1 17).toInt64, ((Us (uPut i) m n2 k).1 19).toInt64]) f t sp := by
  intro sc d y nx hd L st cu su K
  have hp : ¬ Int32.ofNat k < 0 ∧ ¬ 99 < Int32.ofNat k := ⟨tn_nn (by omega), by rw [show (99 : Int32) = Int32.ofNat 99 from rfl, tn_lt (by decide) (by omega)]; omega⟩
  refine kCA_of (d := d + 499) (v := some (.int _)) (fun K => ?_)
  rw [km_214]
  show kWP sc (d + 499) 214 0 [.ref 91, .int (Int32.ofNat k)] [] _ K = _
  simp only [e_X11_ahead_0, e_X11_ahead_1, e_X11_ahead_2, e_X11_ahead_5, e_X11_ahead_6, e_X11_ahead_7, e_X11_ahead_8, e_X11_ahead_11, e_X11_ahead_14, e_X11_ahead_17, e_X11_ahead_18, e_X11_ahead_19, e_X11_ahead_20, e_X11_ahead_23, e_X11_ahead_24, e_X11_ahead_25, e_X11_ahead_28, e_X11_ahead_29, e_X11_ahead_32, e_X11_ahead_33, e_X11_ahead_34, e_X11_ahead_37, e_X11_ahead_38, e_X11_ahead_39, e_X11_ahead_42, e_X11_ahead_44, e_X11_ahead_45, e_X11_ahead_46, e_X11_ahead_49, e_X11_ahead_50, e_X11_ahead_51, e_X11_ahead_54, e_X11_ahead_56, e_X11_ahead_57, e_X11_ahead_58, e_X11_ahead_61, e_X11_ahead_62, e_X11_ahead_65, e_X11_ahead_67, e_X11_ahead_68, e_X11_ahead_71, ob_91, rk_91_9, ar_97, kcl_i, kcl_r, kcl_l, kcl_0, kcl_n, true_and, and_true, uP_0, l0, l99, m_in, m_inI, kb_0, hp, not_true_eq_false, not_false_eq_true, and_self, if_false, m_copies, m_goesOn (u := u0 (uPut i)) b97 h rfl (show k < 100000 by omega), vP_0, m_enters (show 0 < 256 by decide), m_enters (show 0 + 1 < 256 by decide), v97, mS_97 (show 17 < 25 by decide), mS_97 (show 18 < 25 by decide), mS_97 (show 19 < 25 by decide), ki17, ki18, ki19, ni17, ni18, ni19, m_orNobody]
  rfl
theorem Us_ag (ag : kAg kSc i i2) : (∀ x, (Us i2 m n2 x).1 = (rTs (i 93) (mCo i) (i 94) m (i 100) n2 x (U0 i2)).1) := by
  obtain ⟨c0, c1, c2, c3, c4⟩ := ag_cells ag
  intro x
  unfold Us
  rw [c0, c1, c2, c3]
/-- class and reference, x turns on -/
theorem Us_NR (h : IV m i l f t sp) (hr : RR (i (f + 1)) n (i 100) n2) (ag : kAg kSc i i2) (s : Nat × (Nat → Int32)) : ∀ x, NR m (qTs (i 9) (i 8) (i 6) m (i (f + 1)) n x (nGet i 10, s)).1 (Us i2 m n2 x).1 ∧ (Us i2 m n2 x).2.1 25 = (Us i2 m n2 x).1 21 - i 96 21 := by
  obtain ⟨⟨h5, h91, h8, e9, hle, hp⟩, _, _, hN, _⟩ := h
  obtain ⟨c0, c1, c2, c3, c4⟩ := ag_cells ag
  intro x
  have R := S_rel (w := (nGet i 10, s)) (u := U0 i2) (le := i 93) (co := i 8) (co2 := mCo i) (br := i 6) (br2 := i 94) (n := n) (n2 := n2) (acts := i (f + 1)) (code := i 100) (fun a ha => (hp a ha).2.2) (fun a ha => (hp a ha).1) (fun a => b8_mCo a) h8 hle hr (by show NR m (nGet i 10) (i2 96); rw [c4]; exact hN) x
  unfold Us
  rw [c0, c1, c2, c3, e9]
  refine ⟨R.1, R.2.trans ?_⟩
  have g1 : (U0 i2).2.1 25 = 0 := rfl
  have g2 : (U0 i2).1 21 = i 96 21 := by show i2 96 21 = _; rw [c4]
  rw [g1, g2, Int32.zero_add]
theorem J_ahead (h : IV m i l f t sp) (p : Int32) : JJ 109 214 [.int p] i l f t sp := by
  obtain ⟨⟨h5, h91, h8, e9, hle, hp⟩, _⟩ := id h
  obtain ⟨n, n2, e2, h40, e19, hr, hf⟩ := IV_rule h
  by_cases h0 : ¬ p < 0 ∧ ¬ 99 < p
  · obtain ⟨k, hk, rfl⟩ := tn_exle (m := 99) (by decide) (Int32.not_lt.1 h0.1) (Int32.not_lt.1 h0.2)
    have h99 : Int32.ofNat k ≤ 99 := Int32.not_lt.1 h0.2
    obtain ⟨w1, hw1⟩ : ∃ w1 : WN, w1 = ((qPlay (i 9) (i 8) (i 6) m (i (f + 1)) n k (nGet i 10)).1, sPlay (i 9) (i 8) (i 6) m (i (f + 1)) n k (nGet i 10) (rGet i f)) := ⟨_, rfl⟩
    have ag : kAg kSc i (uPut (wPut (gS i f w1) 2)) := ag_uu (ag_w (ag_gS hf))
    have R := (Us_NR h hr ag (rGet i f) k).1
    have e1 : w1.1 = (qTs (i 9) (i 8) (i 6) m (i (f + 1)) n k (nGet i 10, rGet i f)).1 := by rw [hw1]; exact qPlay_T (w := (nGet i 10, rGet i f))
    rw [← e1] at R
    have hz : ∀ a b : Int64, [a, b].length = 2 := fun _ _ => rfl
    refine JJ_q h (pNob (w1.1 18)) 2 (gS i f w1) (mS (uPut (wPut (gS i f w1) 2)) 97 (Us (uPut (wPut (gS i f w1) 2)) m n2 k)) [(w1.1 17).toInt64, (w1.1 19).toInt64] rfl (by decide) (ag_gS hf) (ag_mS (ag_uu ag_r)) rfl ?_ ?_
    · intro sc d y nx hd L st cu su K
      refine kCA_of (d := d + 499) (v := some (.int _)) (fun K => ?_)
      rw [km_109]
      show kWP sc (d + 499) 109 0 [.ref 0, .int (Int32.ofNat k)] [] _ K = _
      simp only [e_X10_ahead_0, e_X10_ahead_1, e_X10_ahead_4, e_X10_ahead_5, e_X10_ahead_7, e_X10_ahead_10, e_X10_ahead_11, e_X10_ahead_12, e_X10_ahead_13, e_X10_ahead_16, e_X10_ahead_17, e_X10_ahead_20, e_X10_ahead_23, e_X10_ahead_24, e_X10_ahead_27, e_X10_ahead_28, e_X10_ahead_31, e_X10_ahead_32, e_X10_ahead_35, e_X10_ahead_36, e_X10_ahead_39, e_X10_ahead_40, e_X10_ahead_41, e_X10_ahead_44, e_X10_ahead_47, e_X10_ahead_48, e_X10_ahead_51, e_X10_ahead_52, e_X10_ahead_55, e_X10_ahead_58, e_X10_ahead_59, e_X10_ahead_62, e_X10_ahead_63, e_X10_ahead_66, e_X10_ahead_67, e_X10_ahead_70, e_X10_ahead_73, e_X10_ahead_74, e_X10_ahead_77, e_X10_ahead_78, e_X10_ahead_81, e_X10_ahead_84, e_X10_ahead_87, ob_0, rk_0_4, rk_0_3, ob_10, ob_13, rk_0_2, rk_0_10, rk_0_1, ob_3, kcl_i, kcl_r, kcl_l, kcl_0, kcl_n, true_and, and_true, h0.1, h99, if_true, if_false, c_copyG hf, c_playG hf h5 h8 e2 h40 (show k < 100000 by omega), ← hw1, c_start, w13, (gS_13 hf).1, (gS_13 hf).2.1, (gS_13 hf).2.2.1, c_radd (show 0 < 128 by decide), c_radd (show 0 + 1 < 128 by decide), c_orNobody]
      rfl
    · have W := m_ahead (i := wPut (gS i f w1) 2) (l := tC l 0 [(w1.1 17).toInt64, (w1.1 19).toInt64]) (f := f) (t := t) (sp := sp) (RF_of h e19 hr ag) hk
      rw [nob_eq R.1.2.2.2.1 h8, ← R.1.1 17 (by decide), ← R.1.1 18 (by decide), ← R.1.1 19 (by decide)] at W
      exact W
  · refine JJ_n h (-1) i (uPut i) ag_r (ag_uu ag_r) rfl rfl ?_ ?_
    · intro sc d y nx hd L st cu su K
      refine kCA_of (d := d + 499) (v := some (.int _)) (fun K => ?_)
      rw [km_109]
      show kWP sc (d + 499) 109 0 [.ref 0, .int p] [] _ K = _
      simp only [e_X10_ahead_0, e_X10_ahead_1, e_X10_ahead_4, e_X10_ahead_5, e_X10_ahead_7, e_X10_ahead_10, e_X10_ahead_11, e_X10_ahead_12, e_X10_ahead_13, e_X10_ahead_16, e_X10_ahead_17, e_X10_ahead_20, e_X10_ahead_23, e_X10_ahead_24, e_X10_ahead_27, e_X10_ahead_28, e_X10_ahead_31, e_X10_ahead_32, e_X10_ahead_35, e_X10_ahead_36, e_X10_ahead_39, e_X10_ahead_40, e_X10_ahead_41, e_X10_ahead_44, e_X10_ahead_47, e_X10_ahead_48, e_X10_ahead_51, e_X10_ahead_52, e_X10_ahead_55, e_X10_ahead_58, e_X10_ahead_59, e_X10_ahead_62, e_X10_ahead_63, e_X10_ahead_66, e_X10_ahead_67, e_X10_ahead_70, e_X10_ahead_73, e_X10_ahead_74, e_X10_ahead_77, e_X10_ahead_78, e_X10_ahead_81, e_X10_ahead_84, e_X10_ahead_87, ob_0, rk_0_4, rk_0_3, ob_10, ob_13, rk_0_2, rk_0_10, rk_0_1, ob_3, kcl_i, kcl_r, kcl_l, kcl_0, kcl_n, true_and, and_true]
      by_cases q1 : p < 0
      · simp only [q1, if_true]
      · have q2 : ¬ p ≤ 99 := fun e => h0 ⟨q1, Int32.not_lt.2 e⟩
        simp only [q1, q2, if_false]
    · intro sc d y nx hd L st cu su K
      refine kCA_of (d := d + 499) (v := some (.int _)) (fun K => ?_)
      rw [km_214]
      show kWP sc (d + 499) 214 0 [.ref 91, .int p] [] _ K = _
      simp only [e_X11_ahead_0, e_X11_ahead_1, e_X11_ahead_2, e_X11_ahead_5, e_X11_ahead_6, e_X11_ahead_7, e_X11_ahead_8, e_X11_ahead_11, e_X11_ahead_14, e_X11_ahead_17, e_X11_ahead_18, e_X11_ahead_19, e_X11_ahead_20, e_X11_ahead_23, e_X11_ahead_24, e_X11_ahead_25, e_X11_ahead_28, e_X11_ahead_29, e_X11_ahead_32, e_X11_ahead_33, e_X11_ahead_34, e_X11_ahead_37, e_X11_ahead_38, e_X11_ahead_39, e_X11_ahead_42, e_X11_ahead_44, e_X11_ahead_45, e_X11_ahead_46, e_X11_ahead_49, e_X11_ahead_50, e_X11_ahead_51, e_X11_ahead_54, e_X11_ahead_56, e_X11_ahead_57, e_X11_ahead_58, e_X11_ahead_61, e_X11_ahead_62, e_X11_ahead_65, e_X11_ahead_67, e_X11_ahead_68, e_X11_ahead_71, ob_91, rk_91_9, ar_97, kcl_i, kcl_r, kcl_l, kcl_0, kcl_n, true_and, and_true, uP_0, l0, l99, m_in, m_inI, kb_0, h0, not_false_eq_true, if_true]
/-! when -/
def V0 (i : Nat → Nat → Int32) : WM := u0 i
def Vs (i : Nat → Nat → Int32) (m n2 x : Nat) : WM := rTs (i 93) (mCo i) (i 94) m (i 100) n2 x (u0 i)
theorem Vs_NR (h : IV m i l f t sp) (hr : RR (i (f + 1)) n (i 100) n2) (ag : kAg kSc i i2) (s : Nat × (Nat → Int32)) : ∀ x, NR m (qTs (i 9) (i 8) (i 6) m (i (f + 1)) n x (nGet i 10, s)).1 (Vs i2 m n2 x).1 := by
  obtain ⟨⟨h5, h91, h8, e9, hle, hp⟩, _, _, hN, _⟩ := h
  obtain ⟨c0, c1, c2, c3, c4⟩ := ag_cells ag
  intro x
  have R := S_rel (w := (nGet i 10, s)) (u := u0 i2) (le := i 93) (co := i 8) (co2 := mCo i) (br := i 6) (br2 := i 94) (n := n) (n2 := n2) (acts := i (f + 1)) (code := i 100) (fun a ha => (hp a ha).2.2) (fun a ha => (hp a ha).1) (fun a => b8_mCo a) h8 hle hr (by show NR m (nGet i 10) (i2 96); rw [c4]; exact hN) x
  unfold Vs
  rw [c0, c1, c2, c3, e9]
  exact R.1
theorem n99F {x : Nat} (hx : x < 100) : ((99 : Int32) < Int32.ofNat x) = False := by rw [show (99 : Int32) = Int32.ofNat 99 from rfl, tn_lt (by omega) (by omega)]; exact eq_false (by omega)
theorem n99T : ((99 : Int32) < Int32.ofNat 100) = True := eq_true (by decide)
theorem m_when {p : Int32} (h : RF m n2 (uPut i) N) (hp : ¬ p < 0 ∧ ¬ 255 < p) : (∀ y, kfi (fun x => p &&& ((Vs (uPut i) m n2 x).1 17 ^^^ (-1)) = 0) 100 0 = some y → CC 217 [.ref 91, .int p] i l f t sp (.int (Int32.ofNat y)) (vPut (mS (uPut i) 97 (Vs (uPut i) m n2 y)) 2) (tR l 0 [((Vs (uPut i) m n2 y).1 19).toInt64, (if (Vs (uPut i) m n2 y).1 18 < 0 then (-2 : Int32) else (Vs (uPut i) m n2 y).1 18).toInt64]) f t sp) ∧ (kfi (fun x => p &&& ((Vs (uPut i) m n2 x).1 17 ^^^ (-1)) = 0) 100 0 = none → CC 217 [.ref 91, .int p] i l f t sp (.int (-2)) (mS (uPut i) 97 (Vs (uPut i) m n2 100)) l f t sp) := by
  obtain ⟨hm, h8, hn, hc, hle, hN⟩ := id h
  have key : ∀ (sc : Nat × (Nat → Int32)) (d cu su : Nat) (K : Option (Option Value) → kS → Prop), kWP sc (d + 499) 217 0 [.ref 91, .int p, .retAddr 0] [] ((120, cu, su), i, l, kR f t sp) K = match kfi (fun x => p &&& ((Vs (uPut i) m n2 x).1 17 ^^^ (-1)) = 0) 100 0 with | some y => K (some (some (.int (Int32.ofNat y)))) ((120, cu, su), vPut (mS (uPut i) 97 (Vs (uPut i) m n2 y)) 2, tR l 0 [((Vs (uPut i) m n2 y).1 19).toInt64, (if (Vs (uPut i) m n2 y).1 18 < 0 then (-2 : Int32) else (Vs (uPut i) m n2 y).1 18).toInt64], kR f t sp) | none => K (some (some (.int (-2)))) ((120, cu, su), mS (uPut i) 97 (Vs (uPut i) m n2 100), l, kR f t sp) := by
    intro sc d cu su K
    simp only [e_X11_when_0, e_X11_when_1, e_X11_when_2, e_X11_when_5, e_X11_when_6, e_X11_when_7, e_X11_when_8, e_X11_when_11, e_X11_when_14, e_X11_when_17, e_X11_when_18, e_X11_when_19, e_X11_when_20, e_X11_when_23, e_X11_when_24, e_X11_when_26, e_X11_when_28, e_X11_when_31, e_X11_when_32, e_X11_when_33, e_X11_when_36, e_X11_when_38, e_X11_when_39, e_X11_when_40, e_X11_when_41, e_X11_when_42, e_X11_when_45, e_X11_when_46, e_X11_when_47, e_X11_when_50, e_X11_when_51, e_X11_when_52, e_X11_when_55, e_X11_when_57, e_X11_when_58, e_X11_when_59, e_X11_when_62, e_X11_when_63, e_X11_when_64, e_X11_when_67, e_X11_when_69, e_X11_when_70, e_X11_when_73, e_X11_when_74, e_X11_when_77, e_X11_when_78, e_X11_when_79, e_X11_when_80, e_X11_when_81, e_X11_when_84, e_X11_when_87, e_X11_when_90, e_X11_when_93, e_X11_when_95, ob_91, rk_91_9, ar_97, kcl_i, kcl_r, kcl_l, kcl_0, kcl_n, true_and, and_true, uP_0, l0, l255, m_in, m_inI, kb_0, hp, not_true_eq_false, not_false_eq_true, and_self, if_false, m_copies]
    refine (k_find (P := fun x => kWP sc (d + 499) 217 25 [.ref 91, .int p, .int (Int32.ofNat x)] [] ((120, cu, su), mS (uPut i) 97 (Vs (uPut i) m n2 x), l, kR f t sp) K) (Q := fun y => K (some (some (.int (Int32.ofNat y)))) ((120, cu, su), vPut (mS (uPut i) 97 (Vs (uPut i) m n2 y)) 2, tR l 0 [((Vs (uPut i) m n2 y).1 19).toInt64, (if (Vs (uPut i) m n2 y).1 18 < 0 then (-2 : Int32) else (Vs (uPut i) m n2 y).1 18).toInt64], kR f t sp)) (p := fun x => p &&& ((Vs (uPut i) m n2 x).1 17 ^^^ (-1)) = 0) (n := 100) ?_).trans ?_
    · intro x hx
      obtain ⟨N2, hN2⟩ := rTs_NR h (u0 (uPut i)) rfl x
      refine e_X11_when_25.trans ?_
      simp only [e_X11_when_0, e_X11_when_1, e_X11_when_2, e_X11_when_5, e_X11_when_6, e_X11_when_7, e_X11_when_8, e_X11_when_11, e_X11_when_14, e_X11_when_17, e_X11_when_18, e_X11_when_19, e_X11_when_20, e_X11_when_23, e_X11_when_24, e_X11_when_26, e_X11_when_28, e_X11_when_31, e_X11_when_32, e_X11_when_33, e_X11_when_36, e_X11_when_38, e_X11_when_39, e_X11_when_40, e_X11_when_41, e_X11_when_42, e_X11_when_45, e_X11_when_46, e_X11_when_47, e_X11_when_50, e_X11_when_51, e_X11_when_52, e_X11_when_55, e_X11_when_57, e_X11_when_58, e_X11_when_59, e_X11_when_62, e_X11_when_63, e_X11_when_64, e_X11_when_67, e_X11_when_69, e_X11_when_70, e_X11_when_73, e_X11_when_74, e_X11_when_77, e_X11_when_78, e_X11_when_79, e_X11_when_80, e_X11_when_81, e_X11_when_84, e_X11_when_87, e_X11_when_90, e_X11_when_93, e_X11_when_95, ob_91, rk_91_9, ar_97, kcl_i, kcl_r, kcl_l, kcl_0, kcl_n, true_and, and_true, n99F hx, if_false, mS_97 (show 17 < 25 by decide), ki17, ni17]
      by_cases q : p &&& ((Vs (uPut i) m n2 x).1 17 ^^^ (-1)) = 0
      · simp only [q, if_true, vP_0, v97, m_enters (show 0 < 256 by decide), m_enters (show 0 + 1 < 256 by decide), mS_97 (show 18 < 25 by decide), mS_97 (show 19 < 25 by decide), ki18, ki19, ni18, ni19, m_orNobody, e_X11_when_0, e_X11_when_1, e_X11_when_2, e_X11_when_5, e_X11_when_6, e_X11_when_7, e_X11_when_8, e_X11_when_11, e_X11_when_14, e_X11_when_17, e_X11_when_18, e_X11_when_19, e_X11_when_20, e_X11_when_23, e_X11_when_24, e_X11_when_26, e_X11_when_28, e_X11_when_31, e_X11_when_32, e_X11_when_33, e_X11_when_36, e_X11_when_38, e_X11_when_39, e_X11_when_40, e_X11_when_41, e_X11_when_42, e_X11_when_45, e_X11_when_46, e_X11_when_47, e_X11_when_50, e_X11_when_51, e_X11_when_52, e_X11_when_55, e_X11_when_57, e_X11_when_58, e_X11_when_59, e_X11_when_62, e_X11_when_63, e_X11_when_64, e_X11_when_67, e_X11_when_69, e_X11_when_70, e_X11_when_73, e_X11_when_74, e_X11_when_77, e_X11_when_78, e_X11_when_79, e_X11_when_80, e_X11_when_81, e_X11_when_84, e_X11_when_87, e_X11_when_90, e_X11_when_93, e_X11_when_95, ob_91, rk_91_9, ar_97, kcl_i, kcl_r, kcl_l, kcl_0, kcl_n, true_and, and_true]
        rfl
      · have e : rTs ((uPut i) 93) (mCo (uPut i)) ((uPut i) 94) m ((uPut i) 100) n2 x (u0 (uPut i)) = Vs (uPut i) m n2 x := rfl
        rw [e] at hN2
        simp only [q, if_false, m_turn b97 hm h8 hn hc hN2, e_X11_when_0, e_X11_when_1, e_X11_when_2, e_X11_when_5, e_X11_when_6, e_X11_when_7, e_X11_when_8, e_X11_when_11, e_X11_when_14, e_X11_when_17, e_X11_when_18, e_X11_when_19, e_X11_when_20, e_X11_when_23, e_X11_when_24, e_X11_when_26, e_X11_when_28, e_X11_when_31, e_X11_when_32, e_X11_when_33, e_X11_when_36, e_X11_when_38, e_X11_when_39, e_X11_when_40, e_X11_when_41, e_X11_when_42, e_X11_when_45, e_X11_when_46, e_X11_when_47, e_X11_when_50, e_X11_when_51, e_X11_when_52, e_X11_when_55, e_X11_when_57, e_X11_when_58, e_X11_when_59, e_X11_when_62, e_X11_when_63, e_X11_when_64, e_X11_when_67, e_X11_when_69, e_X11_when_70, e_X11_when_73, e_X11_when_74, e_X11_when_77, e_X11_when_78, e_X11_when_79, e_X11_when_80, e_X11_when_81, e_X11_when_84, e_X11_when_87, e_X11_when_90, e_X11_when_93, e_X11_when_95, ob_91, rk_91_9, ar_97, kcl_i, kcl_r, kcl_l, kcl_0, kcl_n, true_and, and_true, tn_s]
        rfl
    · cases kfi (fun x => p &&& ((Vs (uPut i) m n2 x).1 17 ^^^ (-1)) = 0) 100 0 with
      | some y => rfl
      | none =>
        refine e_X11_when_25.trans ?_
        simp only [e_X11_when_0, e_X11_when_1, e_X11_when_2, e_X11_when_5, e_X11_when_6, e_X11_when_7, e_X11_when_8, e_X11_when_11, e_X11_when_14, e_X11_when_17, e_X11_when_18, e_X11_when_19, e_X11_when_20, e_X11_when_23, e_X11_when_24, e_X11_when_26, e_X11_when_28, e_X11_when_31, e_X11_when_32, e_X11_when_33, e_X11_when_36, e_X11_when_38, e_X11_when_39, e_X11_when_40, e_X11_when_41, e_X11_when_42, e_X11_when_45, e_X11_when_46, e_X11_when_47, e_X11_when_50, e_X11_when_51, e_X11_when_52, e_X11_when_55, e_X11_when_57, e_X11_when_58, e_X11_when_59, e_X11_when_62, e_X11_when_63, e_X11_when_64, e_X11_when_67, e_X11_when_69, e_X11_when_70, e_X11_when_73, e_X11_when_74, e_X11_when_77, e_X11_when_78, e_X11_when_79, e_X11_when_80, e_X11_when_81, e_X11_when_84, e_X11_when_87, e_X11_when_90, e_X11_when_93, e_X11_when_95, ob_91, rk_91_9, ar_97, kcl_i, kcl_r, kcl_l, kcl_0, kcl_n, true_and, and_true, n99T, if_true]
  constructor
  · intro z hz sc d y nx hd L st cu su K
    refine kCA_of (d := d + 499) (v := some (.int _)) (fun K => ?_)
    rw [km_217]
    show kWP sc (d + 499) 217 0 [.ref 91, .int p, .retAddr 0] [] _ K = _
    rw [key, hz]
  · intro hz sc d y nx hd L st cu su K
    refine kCA_of (d := d + 499) (v := some (.int _)) (fun K => ?_)
    rw [km_217]
    show kWP sc (d + 499) 217 0 [.ref 91, .int p, .retAddr 0] [] _ K = _
    rw [key, hz]
def Ns (i : Nat → Nat → Int32) (f m n x : Nat) : WN := qTs (i 9) (i 8) (i 6) m (i (f + 1)) n x (nGet i 10, rGet i f)
theorem c_when {p : Int32} (h : IV m i l f t sp) (e2 : i f 2 = Int32.ofNat n) (h40 : n ≤ 40) (hf : kRc f = true) (hp : ¬ p < 0 ∧ ¬ 255 < p) : (∀ y, kfi (fun x => p &&& ((Ns i f m n x).1 17 ^^^ (-1)) = 0) 100 0 = some y → CC 114 [.ref 0, .int p] i l f t sp (.int (Int32.ofNat y)) (wPut (gS i f (Ns i f m n y)) 2) (tC l 0 [((Ns i f m n y).1 19).toInt64, (pNob ((Ns i f m n y).1 18)).toInt64]) f t sp) ∧ (kfi (fun x => p &&& ((Ns i f m n x).1 17 ^^^ (-1)) = 0) 100 0 = none → CC 114 [.ref 0, .int p] i l f t sp (.int (-2)) (gS i f (Ns i f m n 100)) l f t sp) := by
  obtain ⟨⟨h5, h91, h8, e9, hle, hpp⟩, _⟩ := id h
  have key : ∀ (sc : Nat × (Nat → Int32)) (d cu su : Nat) (K : Option (Option Value) → kS → Prop), kWP sc (d + 499) 114 0 [.ref 0, .int p, .retAddr 0] [] ((120, cu, su), i, l, kR f t sp) K = match kfi (fun x => p &&& ((Ns i f m n x).1 17 ^^^ (-1)) = 0) 100 0 with | some y => K (some (some (.int (Int32.ofNat y)))) ((120, cu, su), wPut (gS i f (Ns i f m n y)) 2, tC l 0 [((Ns i f m n y).1 19).toInt64, (pNob ((Ns i f m n y).1 18)).toInt64], kR f t sp) | none => K (some (some (.int (-2)))) ((120, cu, su), gS i f (Ns i f m n 100), l, kR f t sp) := by
    intro sc d cu su K
    simp only [e_X10_when_0, e_X10_when_1, e_X10_when_4, e_X10_when_7, e_X10_when_8, e_X10_when_9, e_X10_when_10, e_X10_when_13, e_X10_when_14, e_X10_when_17, e_X10_when_20, e_X10_when_21, e_X10_when_23, e_X10_when_25, e_X10_when_28, e_X10_when_29, e_X10_when_30, e_X10_when_33, e_X10_when_36, e_X10_when_37, e_X10_when_38, e_X10_when_39, e_X10_when_42, e_X10_when_43, e_X10_when_46, e_X10_when_49, e_X10_when_50, e_X10_when_53, e_X10_when_54, e_X10_when_57, e_X10_when_60, e_X10_when_61, e_X10_when_64, e_X10_when_65, e_X10_when_68, e_X10_when_69, e_X10_when_72, e_X10_when_75, e_X10_when_78, e_X10_when_79, e_X10_when_82, e_X10_when_83, e_X10_when_84, e_X10_when_85, e_X10_when_88, e_X10_when_89, e_X10_when_92, e_X10_when_93, e_X10_when_96, e_X10_when_97, e_X10_when_100, e_X10_when_101, e_X10_when_104, e_X10_when_107, e_X10_when_110, e_X10_when_113, e_X10_when_116, e_X10_when_118, ob_0, rk_0_4, rk_0_3, ob_10, ob_13, rk_0_1, ob_3, rk_0_2, rk_0_10, kcl_i, kcl_r, kcl_l, kcl_0, kcl_n, true_and, and_true, c_areThings, kb_0, hp, not_true_eq_false, not_false_eq_true, and_self, if_false, c_copyG hf]
    refine (k_find (P := fun x => kWP sc (d + 499) 114 22 [.ref 0, .int p, .int (Int32.ofNat x)] [] ((120, cu, su), gS i f (Ns i f m n x), l, kR f t sp) K) (Q := fun y => K (some (some (.int (Int32.ofNat y)))) ((120, cu, su), wPut (gS i f (Ns i f m n y)) 2, tC l 0 [((Ns i f m n y).1 19).toInt64, (pNob ((Ns i f m n y).1 18)).toInt64], kR f t sp)) (p := fun x => p &&& ((Ns i f m n x).1 17 ^^^ (-1)) = 0) (n := 100) ?_).trans ?_
    · intro x hx
      refine e_X10_when_22.trans ?_
      simp only [e_X10_when_0, e_X10_when_1, e_X10_when_4, e_X10_when_7, e_X10_when_8, e_X10_when_9, e_X10_when_10, e_X10_when_13, e_X10_when_14, e_X10_when_17, e_X10_when_20, e_X10_when_21, e_X10_when_23, e_X10_when_25, e_X10_when_28, e_X10_when_29, e_X10_when_30, e_X10_when_33, e_X10_when_36, e_X10_when_37, e_X10_when_38, e_X10_when_39, e_X10_when_42, e_X10_when_43, e_X10_when_46, e_X10_when_49, e_X10_when_50, e_X10_when_53, e_X10_when_54, e_X10_when_57, e_X10_when_60, e_X10_when_61, e_X10_when_64, e_X10_when_65, e_X10_when_68, e_X10_when_69, e_X10_when_72, e_X10_when_75, e_X10_when_78, e_X10_when_79, e_X10_when_82, e_X10_when_83, e_X10_when_84, e_X10_when_85, e_X10_when_88, e_X10_when_89, e_X10_when_92, e_X10_when_93, e_X10_when_96, e_X10_when_97, e_X10_when_100, e_X10_when_101, e_X10_when_104, e_X10_when_107, e_X10_when_110, e_X10_when_113, e_X10_when_116, e_X10_when_118, ob_0, rk_0_4, rk_0_3, ob_10, ob_13, rk_0_1, ob_3, rk_0_2, rk_0_10, kcl_i, kcl_r, kcl_l, kcl_0, kcl_n, true_and, and_true, n99F hx, if_false, (gS_13 hf).1]
      by_cases q : p &&& ((Ns i f m n x).1 17 ^^^ (-1)) = 0
      · simp only [q, if_true, c_start, w13, (gS_13 hf).1, (gS_13 hf).2.1, (gS_13 hf).2.2.1, c_radd (show 0 < 128 by decide), c_radd (show 0 + 1 < 128 by decide), c_orNobody, e_X10_when_0, e_X10_when_1, e_X10_when_4, e_X10_when_7, e_X10_when_8, e_X10_when_9, e_X10_when_10, e_X10_when_13, e_X10_when_14, e_X10_when_17, e_X10_when_20, e_X10_when_21, e_X10_when_23, e_X10_when_25, e_X10_when_28, e_X10_when_29, e_X10_when_30, e_X10_when_33, e_X10_when_36, e_X10_when_37, e_X10_when_38, e_X10_when_39, e_X10_when_42, e_X10_when_43, e_X10_when_46, e_X10_when_49, e_X10_when_50, e_X10_when_53, e_X10_when_54, e_X10_when_57, e_X10_when_60, e_X10_when_61, e_X10_when_64, e_X10_when_65, e_X10_when_68, e_X10_when_69, e_X10_when_72, e_X10_when_75, e_X10_when_78, e_X10_when_79, e_X10_when_82, e_X10_when_83, e_X10_when_84, e_X10_when_85, e_X10_when_88, e_X10_when_89, e_X10_when_92, e_X10_when_93, e_X10_when_96, e_X10_when_97, e_X10_when_100, e_X10_when_101, e_X10_when_104, e_X10_when_107, e_X10_when_110, e_X10_when_113, e_X10_when_116, e_X10_when_118, ob_0, rk_0_4, rk_0_3, ob_10, ob_13, rk_0_1, ob_3, rk_0_2, rk_0_10, kcl_i, kcl_r, kcl_l, kcl_0, kcl_n, true_and, and_true]
        rfl
      · simp only [q, if_false, c_speakerG hf h5 h8 e2 h40, c_takeG hf h5 h8, e_X10_when_0, e_X10_when_1, e_X10_when_4, e_X10_when_7, e_X10_when_8, e_X10_when_9, e_X10_when_10, e_X10_when_13, e_X10_when_14, e_X10_when_17, e_X10_when_20, e_X10_when_21, e_X10_when_23, e_X10_when_25, e_X10_when_28, e_X10_when_29, e_X10_when_30, e_X10_when_33, e_X10_when_36, e_X10_when_37, e_X10_when_38, e_X10_when_39, e_X10_when_42, e_X10_when_43, e_X10_when_46, e_X10_when_49, e_X10_when_50, e_X10_when_53, e_X10_when_54, e_X10_when_57, e_X10_when_60, e_X10_when_61, e_X10_when_64, e_X10_when_65, e_X10_when_68, e_X10_when_69, e_X10_when_72, e_X10_when_75, e_X10_when_78, e_X10_when_79, e_X10_when_82, e_X10_when_83, e_X10_when_84, e_X10_when_85, e_X10_when_88, e_X10_when_89, e_X10_when_92, e_X10_when_93, e_X10_when_96, e_X10_when_97, e_X10_when_100, e_X10_when_101, e_X10_when_104, e_X10_when_107, e_X10_when_110, e_X10_when_113, e_X10_when_116, e_X10_when_118, ob_0, rk_0_4, rk_0_3, ob_10, ob_13, rk_0_1, ob_3, rk_0_2, rk_0_10, kcl_i, kcl_r, kcl_l, kcl_0, kcl_n, true_and, and_true, tn_s]
        rfl
    · cases kfi (fun x => p &&& ((Ns i f m n x).1 17 ^^^ (-1)) = 0) 100 0 with
      | some y => rfl
      | none =>
        refine e_X10_when_22.trans ?_
        simp only [e_X10_when_0, e_X10_when_1, e_X10_when_4, e_X10_when_7, e_X10_when_8, e_X10_when_9, e_X10_when_10, e_X10_when_13, e_X10_when_14, e_X10_when_17, e_X10_when_20, e_X10_when_21, e_X10_when_23, e_X10_when_25, e_X10_when_28, e_X10_when_29, e_X10_when_30, e_X10_when_33, e_X10_when_36, e_X10_when_37, e_X10_when_38, e_X10_when_39, e_X10_when_42, e_X10_when_43, e_X10_when_46, e_X10_when_49, e_X10_when_50, e_X10_when_53, e_X10_when_54, e_X10_when_57, e_X10_when_60, e_X10_when_61, e_X10_when_64, e_X10_when_65, e_X10_when_68, e_X10_when_69, e_X10_when_72, e_X10_when_75, e_X10_when_78, e_X10_when_79, e_X10_when_82, e_X10_when_83, e_X10_when_84, e_X10_when_85, e_X10_when_88, e_X10_when_89, e_X10_when_92, e_X10_when_93, e_X10_when_96, e_X10_when_97, e_X10_when_100, e_X10_when_101, e_X10_when_104, e_X10_when_107, e_X10_when_110, e_X10_when_113, e_X10_when_116, e_X10_when_118, ob_0, rk_0_4, rk_0_3, ob_10, ob_13, rk_0_1, ob_3, rk_0_2, rk_0_10, kcl_i, kcl_r, kcl_l, kcl_0, kcl_n, true_and, and_true, n99T, if_true]
  constructor
  · intro z hz sc d y nx hd L st cu su K
    refine kCA_of (d := d + 499) (v := some (.int _)) (fun K => ?_)
    rw [km_114]
    show kWP sc (d + 499) 114 0 [.ref 0, .int p, .retAddr 0] [] _ K = _
    rw [key, hz]
  · intro hz sc d y nx hd L st cu su K
    refine kCA_of (d := d + 499) (v := some (.int _)) (fun K => ?_)
    rw [km_114]
    show kWP sc (d + 499) 114 0 [.ref 0, .int p, .retAddr 0] [] _ K = _
    rw [key, hz]
theorem J_when (h : IV m i l f t sp) (p : Int32) : JJ 114 217 [.int p] i l f t sp := by
  obtain ⟨⟨h5, h91, h8, e9, hle, hpp⟩, _⟩ := id h
  obtain ⟨n, n2, e2, h40, e19, hr, hf⟩ := IV_rule h
  by_cases h0 : ¬ p < 0 ∧ ¬ 255 < p
  · have C := c_when h e2 h40 hf h0
    have eq : ∀ {i2 : Nat → Nat → Int32}, kAg kSc i i2 → kfi (fun x => p &&& ((Vs i2 m n2 x).1 17 ^^^ (-1)) = 0) 100 0 = kfi (fun x => p &&& ((Ns i f m n x).1 17 ^^^ (-1)) = 0) 100 0 := by
      intro i2 ag
      apply kfi_congr
      intro x _ _
      rw [← (Vs_NR h hr ag (rGet i f) x).1.1 17 (by decide)]
      exact Iff.rfl
    cases hk : kfi (fun x => p &&& ((Ns i f m n x).1 17 ^^^ (-1)) = 0) 100 0 with
    | some z =>
      have ag : kAg kSc i (uPut (wPut (gS i f (Ns i f m n z)) 2)) := ag_uu (ag_w (ag_gS hf))
      refine JJ_q h (Int32.ofNat z) 2 (gS i f (Ns i f m n z)) (mS (uPut (wPut (gS i f (Ns i f m n z)) 2)) 97 (Vs (uPut (wPut (gS i f (Ns i f m n z)) 2)) m n2 z)) [((Ns i f m n z).1 19).toInt64, (pNob ((Ns i f m n z).1 18)).toInt64] rfl (by decide) (ag_gS hf) (ag_mS (ag_uu ag_r)) rfl (C.1 z hk) ?_
      have W := (m_when (i := wPut (gS i f (Ns i f m n z)) 2) (l := tC l 0 [((Ns i f m n z).1 19).toInt64, (pNob ((Ns i f m n z).1 18)).toInt64]) (f := f) (t := t) (sp := sp) (p := p) (RF_of h e19 hr ag) h0).1 z ((eq ag).trans hk)
      have R := Vs_NR h hr ag (rGet i f) z
      rw [nob_eq R.1.2.2.2.1 h8, ← R.1.1 18 (by decide), ← R.1.1 19 (by decide)] at W
      exact W
    | none =>
      have ag : kAg kSc i (uPut (gS i f (Ns i f m n 100))) := ag_uu (ag_gS hf)
      refine JJ_n h (-2) (gS i f (Ns i f m n 100)) (mS (uPut (gS i f (Ns i f m n 100))) 97 (Vs (uPut (gS i f (Ns i f m n 100))) m n2 100)) (ag_gS hf) (ag_mS (ag_uu ag_r)) ?_ ?_ (C.2 hk) ?_
      · show gS i f (Ns i f m n 100) 3 1 = i 3 1
        rw [gS_lo hf (by decide)]
      · show gS i f (Ns i f m n 100) 91 1 = i 91 1
        unfold gS
        rw [rP_hi hf (by decide), nP_hi c13 (by decide)]
      · exact (m_when (i := gS i f (Ns i f m n 100)) (l := l) (f := f) (t := t) (sp := sp) (p := p) (RF_of h e19 hr ag) h0).2 ((eq ag).trans hk)
  · refine JJ_n h (-1) i (uPut i) ag_r (ag_uu ag_r) rfl rfl ?_ ?_
    · intro sc d y nx hd L st cu su K
      refine kCA_of (d := d + 499) (v := some (.int _)) (fun K => ?_)
      rw [km_114]
      show kWP sc (d + 499) 114 0 [.ref 0, .int p, .retAddr 0] [] _ K = _
      simp only [e_X10_when_0, e_X10_when_1, e_X10_when_4, e_X10_when_7, e_X10_when_8, e_X10_when_9, e_X10_when_10, e_X10_when_13, e_X10_when_14, e_X10_when_17, e_X10_when_20, e_X10_when_21, e_X10_when_23, e_X10_when_25, e_X10_when_28, e_X10_when_29, e_X10_when_30, e_X10_when_33, e_X10_when_36, e_X10_when_37, e_X10_when_38, e_X10_when_39, e_X10_when_42, e_X10_when_43, e_X10_when_46, e_X10_when_49, e_X10_when_50, e_X10_when_53, e_X10_when_54, e_X10_when_57, e_X10_when_60, e_X10_when_61, e_X10_when_64, e_X10_when_65, e_X10_when_68, e_X10_when_69, e_X10_when_72, e_X10_when_75, e_X10_when_78, e_X10_when_79, e_X10_when_82, e_X10_when_83, e_X10_when_84, e_X10_when_85, e_X10_when_88, e_X10_when_89, e_X10_when_92, e_X10_when_93, e_X10_when_96, e_X10_when_97, e_X10_when_100, e_X10_when_101, e_X10_when_104, e_X10_when_107, e_X10_when_110, e_X10_when_113, e_X10_when_116, e_X10_when_118, ob_0, rk_0_4, rk_0_3, ob_10, ob_13, rk_0_1, ob_3, rk_0_2, rk_0_10, kcl_i, kcl_r, kcl_l, kcl_0, kcl_n, true_and, and_true, c_areThings, kb_0, h0, not_false_eq_true, if_true]
    · intro sc d y nx hd L st cu su K
      refine kCA_of (d := d + 499) (v := some (.int _)) (fun K => ?_)
      rw [km_217]
      show kWP sc (d + 499) 217 0 [.ref 91, .int p, .retAddr 0] [] _ K = _
      simp only [e_X11_when_0, e_X11_when_1, e_X11_when_2, e_X11_when_5, e_X11_when_6, e_X11_when_7, e_X11_when_8, e_X11_when_11, e_X11_when_14, e_X11_when_17, e_X11_when_18, e_X11_when_19, e_X11_when_20, e_X11_when_23, e_X11_when_24, e_X11_when_26, e_X11_when_28, e_X11_when_31, e_X11_when_32, e_X11_when_33, e_X11_when_36, e_X11_when_38, e_X11_when_39, e_X11_when_40, e_X11_when_41, e_X11_when_42, e_X11_when_45, e_X11_when_46, e_X11_when_47, e_X11_when_50, e_X11_when_51, e_X11_when_52, e_X11_when_55, e_X11_when_57, e_X11_when_58, e_X11_when_59, e_X11_when_62, e_X11_when_63, e_X11_when_64, e_X11_when_67, e_X11_when_69, e_X11_when_70, e_X11_when_73, e_X11_when_74, e_X11_when_77, e_X11_when_78, e_X11_when_79, e_X11_when_80, e_X11_when_81, e_X11_when_84, e_X11_when_87, e_X11_when_90, e_X11_when_93, e_X11_when_95, ob_91, rk_91_9, ar_97, kcl_i, kcl_r, kcl_l, kcl_0, kcl_n, true_and, and_true, uP_0, l0, l255, m_in, m_inI, kb_0, h0, not_false_eq_true, if_true]
end TC
