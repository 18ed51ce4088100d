/-! turns on both sides -/
section TC
variable {sc : Nat × (Nat → Int32)} {d y nx : Nat} {hd : List (Int × Nat)} {L st : List Value} {S : kS} {cu su : Nat} {i : Nat → Nat → Int32} {l : Nat → Nat → Int64} {f t c b m : Nat} {sp : Nat → Nat} {K : Option (Option Value) → kS → Prop}
variable {N M Z S1 Q : Nat → Int32} {i1 i2 i3 : Nat → Nat → Int32} {l2 : Nat → Nat → Int64} {n n2 k x : Nat} {v r : Int32} {zs zs2 : List Int64} {le co br acts code co2 br2 : Nat → Int32} {s : Nat × (Nat → Int32)}
abbrev WN : Type := (Nat → Int32) × Nat × (Nat → Int32)
abbrev WM : Type := (Nat → Int32) × (Nat → Int32) × (Nat → Int32) × (Nat → Int32)
/-- a turn: the class's Night with its rule's stack; the reference's row with what goes with it -/
def qT (le co br : Nat → Int32) (m : Nat) (acts : Nat → Int32) (n : Nat) (w : WN) : WN := (qTurn le co br m acts n w.1, sSpk co br m w.1 acts n w.2)
def rT (le co br : Nat → Int32) (m : Nat) (code : Nat → Int32) (n2 : Nat) (u : WM) : WM := (rTurn co le u.1 m (rSpk co br u.1 m code n2 u.2.2.1 u.2.2.2).1, zTurn co le u.1 u.2.1 m (rSpk co br u.1 m code n2 u.2.2.1 u.2.2.2).1, (rSpk co br u.1 m code n2 u.2.2.1 u.2.2.2).2.1, (rSpk co br u.1 m code n2 u.2.2.1 u.2.2.2).2.2)
def qTs (le co br : Nat → Int32) (m : Nat) (acts : Nat → Int32) (n x : Nat) (w : WN) : WN := kfo (fun _ w => qT le co br m acts n w) x w
def rTs (le co br : Nat → Int32) (m : Nat) (code : Nat → Int32) (n2 x : Nat) (u : WM) : WM := kfo (fun _ u => rT le co br m code n2 u) x u
theorem T_rel {w : WN} {u : WM} (hco : ∀ a, a < m → co a = co2 a) (hbr : ∀ a, a < m → br a = br2 a) (hb8 : ∀ a, b8 (co2 a)) (h8 : m ≤ 8) (hle : leOk le) (hr : RR acts n code n2) (h : NR m w.1 u.1) :
    qSpk co br m w.1 acts n = (rSpk co2 br2 u.1 m code n2 u.2.2.1 u.2.2.2).1 ∧ NR m (qT le co br m acts n w).1 (rT le co2 br2 m code n2 u).1 ∧ (rT le co2 br2 m code n2 u).2.1 25 = u.2.1 25 + ((rT le co2 br2 m code n2 u).1 21 - u.1 21) ∧ (rT le co2 br2 m code n2 u).2.1 26 = u.2.1 26 + (if qSpk co br m w.1 acts n = -1 then 1 else 0) := by
  have e := spk_eq (S1 := u.2.2.1) (Q := u.2.2.2) hco hbr h8 h.1 hr
  have ok := @rSpk_ok m u.1 u.2.2.1 u.2.2.2 co2 br2 n2 code h8
  have z := z25_turn (le := le) (Z := u.2.1) hb8 h8 h ok
  refine ⟨e, ?_, z.1, ?_⟩
  · show NR m (qTake le co (Int32.ofNat m) w.1 (qSpk co br m w.1 acts n)) _
    rw [e]
    exact turn_eq hco hb8 h8 hle h ok
  · rw [e]; exact z.2
theorem sub_add3 {a b c : Int32} : (a - b) + (c - a) = c - b := by
  rw [Int32.sub_eq_add_neg, Int32.sub_eq_add_neg, Int32.sub_eq_add_neg, Int32.add_comm a (-b), Int32.add_assoc, ← Int32.add_assoc a c (-a), Int32.add_comm a c, Int32.add_assoc c a (-a), Int32.add_right_neg, Int32.add_zero, Int32.add_comm]
theorem S_rel {w : WN} {u : WM} (hco : ∀ a, a < m → co a = co2 a) (hbr : ∀ a, a < m → br a = br2 a) (hb8 : ∀ a, b8 (co2 a)) (h8 : m ≤ 8) (hle : leOk le) (hr : RR acts n code n2) (h : NR m w.1 u.1) : ∀ x, NR m (qTs le co br m acts n x w).1 (rTs le co2 br2 m code n2 x u).1 ∧ (rTs le co2 br2 m code n2 x u).2.1 25 = u.2.1 25 + ((rTs le co2 br2 m code n2 x u).1 21 - u.1 21) := by
  intro x
  induction x with
  | zero =>
    refine ⟨h, ?_⟩
    show u.2.1 25 = u.2.1 25 + (u.1 21 - u.1 21)
    rw [Int32.sub_self, Int32.add_zero]
  | succ x ih =>
    have t := T_rel (w := qTs le co br m acts n x w) (u := rTs le co2 br2 m code n2 x u) hco hbr hb8 h8 hle hr ih.1
    refine ⟨t.2.1, ?_⟩
    show (rT le co2 br2 m code n2 (rTs le co2 br2 m code n2 x u)).2.1 25 = u.2.1 25 + ((rT le co2 br2 m code n2 (rTs le co2 br2 m code n2 x u)).1 21 - u.1 21)
    rw [t.2.2.1, ih.2, Int32.add_assoc, sub_add3]
theorem qPlay_T {w : WN} : (qPlay le co br m acts n x w.1).1 = (qTs le co br m acts n x w).1 := by
  unfold qPlay qTs
  exact kfo_rel (R := fun _ (a : (Nat → Int32) × Int32) (b : WN) => a.1 = b.1) (fun x a b _ h => by show qTurn _ _ _ _ _ _ a.1 = qTurn _ _ _ _ _ _ b.1; rw [h]) rfl
theorem qPlay_sil {w : WN} {u : WM} (hco : ∀ a, a < m → co a = co2 a) (hbr : ∀ a, a < m → br a = br2 a) (hb8 : ∀ a, b8 (co2 a)) (h8 : m ≤ 8) (hle : leOk le) (hr : RR acts n code n2) (h : NR m w.1 u.1) : ∀ x, (rTs le co2 br2 m code n2 x u).2.1 26 = u.2.1 26 + (qPlay le co br m acts n x w.1).2 := by
  intro x
  induction x with
  | zero => show u.2.1 26 = u.2.1 26 + 0; rw [Int32.add_zero]
  | succ x ih =>
    have t := T_rel (w := qTs le co br m acts n x w) (u := rTs le co2 br2 m code n2 x u) hco hbr hb8 h8 hle hr (S_rel hco hbr hb8 h8 hle hr h x).1
    show (rT le co2 br2 m code n2 (rTs le co2 br2 m code n2 x u)).2.1 26 = u.2.1 26 + ((qPlay le co br m acts n x w.1).2 + (if qSpk co br m (qPlay le co br m acts n x w.1).1 acts n = -1 then 1 else 0))
    rw [t.2.2.2, ih, qPlay_T (w := w), Int32.add_assoc]
/-- what the rule is on both sides -/
theorem IV_rule (h : IV m i l f t sp) : ∃ n n2, i f 2 = Int32.ofNat n ∧ n ≤ 40 ∧ i 91 19 = Int32.ofNat n2 ∧ RR (i (f + 1)) n (i 100) n2 ∧ kRc f = true := by
  obtain ⟨hP, hX, hW, hN, hU, hS, hK, hH, ⟨n, n2, e1, e2, hr⟩, hF⟩ := h
  refine ⟨n, n2, e1, RR_40 hr, e2, hr, ?_⟩
  rcases hF with ⟨rfl, _⟩ | ⟨rfl, _⟩ <;> decide
/-- the class's guess, its rule's stack -/
def gS (i : Nat → Nat → Int32) (f : Nat) (w : WN) : Nat → Nat → Int32 := rPut (nPut i 13 w.1) f w.2
theorem gS_e {w : WN} : rPut (nPut i 13 w.1) f w.2 = gS i f w := rfl
theorem c13 : kNc 13 = true := by decide
theorem c10 : kNc 10 = true := by decide
theorem gS_13 {w : WN} (hf : kRc f = true) : gS i f w 13 0 = w.1 17 ∧ gS i f w 13 1 = w.1 18 ∧ gS i f w 13 2 = w.1 19 ∧ gS i f w 13 3 = w.1 20 ∧ gS i f w 13 4 = w.1 21 := by
  unfold gS
  rw [rP_lo hf (show 13 < 85 by decide)]
  exact ⟨nP_0, nP_1, nP_2, nP_3, nP_4⟩
theorem gS_p {w : WN} {a : Nat} (hf : kRc f = true) (ha : a < 8) : gS i f w 15 a = w.1 (8 + a) := by
  unfold gS
  rw [rP_lo hf (show 15 < 85 by decide)]
  exact nP_p (c := 13) ha
theorem gS_lo {w : WN} {c : Nat} (hf : kRc f = true) (hc : c < 13) : gS i f w c = i c := by
  unfold gS
  rw [rP_lo hf (by omega), nP_o (by omega) (by omega) (by omega)]
theorem ag_gS {w : WN} (hf : kRc f = true) : kAg kSc i (gS i f w) := ag_stack hf (ag_guess ag_r)
theorem rG_n (hf : kRc f = true) : rGet (nPut i 13 N) f = rGet i f := by
  unfold rGet
  rcases kRc_of hf with rfl | rfl
  · rw [nP_hi c13 (show 74 ≤ 85 by decide), nP_hi c13 (show 74 ≤ 85 + 2 by decide)]
  · rw [nP_hi c13 (show 74 ≤ 88 by decide), nP_hi c13 (show 74 ≤ 88 + 2 by decide)]
theorem c_copyG (hf : kRc b = true) : kCA sc (d + 1) 4 [.ref 13, .ref 10] y nx hd L st ((120, cu, su), i, l, kR f t sp) K = kWP sc (d + 1) y nx L st ((120, cu, su), gS i b (nGet i 10, rGet i b), l, kR f t sp) K := by
  rw [c_copy c13 c10 (by decide)]
  have : gS i b (nGet i 10, rGet i b) = nPut i 13 (nGet i 10) := by
    unfold gS
    have e := @rP_g (nPut i 13 (nGet i 10)) b
    rw [rG_n hf] at e
    exact e
  rw [this]
theorem c_speakerG {w : WN} {n : Nat} (hf : kRc b = true) (hm : i 5 0 = Int32.ofNat m) (h8 : m ≤ 8) (hn : i b 2 = Int32.ofNat n) (h40 : n ≤ 40) : kCA sc (d + 4) 10 [.ref 13, .ref 5, .ref b] y nx hd L st ((120, cu, su), gS i b w, l, kR f t sp) K = kWP sc (d + 4) y nx L (.int (qSpk (i 8) (i 6) m w.1 (i (b + 1)) n) :: st) ((120, cu, su), gS i b (w.1, sSpk (i 8) (i 6) m w.1 (i (b + 1)) n w.2), l, kR f t sp) K := c_speaker hf c13 hm h8 hn h40
theorem c_takeG {w : WN} {p : Int32} (hf : kRc b = true) (hm : i 5 0 = Int32.ofNat m) (h8 : m ≤ 8) : kCA sc (d + 4) 11 [.ref 13, .ref 5, .int p] y nx hd L st ((120, cu, su), gS i b w, l, kR f t sp) K = kWP sc (d + 4) y nx L st ((120, cu, su), gS i b (qTake (i 9) (i 8) (Int32.ofNat m) w.1 p, w.2), l, kR f t sp) K := c_takeTurnR hf c13 hm h8
theorem qT_e {w : WN} : (qTake le co (Int32.ofNat m) w.1 (qSpk co br m w.1 acts n), sSpk co br m w.1 acts n w.2) = qT le co br m acts n w := rfl
theorem qTs_s {w : WN} : qT le co br m acts n (qTs le co br m acts n x w) = qTs le co br m acts n (x + 1) w := rfl
theorem rTs_s {u : WM} : rT le co br m code n2 (rTs le co br m code n2 x u) = rTs le co br m code n2 (x + 1) u := rfl
/-- the reference's row at cell b -/
def mS (i : Nat → Nat → Int32) (b : Nat) (u : WM) : Nat → Nat → Int32 := mPut i b u.1 u.2.1 u.2.2.1 u.2.2.2
theorem m_turn {u : WM} {n2 : Nat} (hb : mRow b = true) (hm : i 91 3 = Int32.ofNat m) (h8 : m ≤ 8) (hn : i 91 19 = Int32.ofNat n2) (hc : codeOk (i 100) n2) (hN : NR m N u.1) : kCA sc (d + 6) 203 [.ref 91, .ref b] y nx hd L st ((120, cu, su), mS i b u, l, kR f t sp) K = kWP sc (d + 6) y nx L st ((120, cu, su), mS i b (rT (i 93) (mCo i) (i 94) m (i 100) n2 u), l, kR f t sp) K := by
  refine m_turnGoes hb hm h8 hn hc.1 hc.2.1 hc.2.2.1 (hat8 h8 hN.1.2.2.2.1) ?_
  rcases hN.1.2.2.2.2.1 with e | ⟨a, ha, e⟩
  · left; rw [e]; decide
  · right; exact ⟨a, by omega, e⟩
def u0 (i : Nat → Nat → Int32) : WM := (i 96, i 91, i 102, i 103)
theorem mS_u0 : mS i 96 (u0 i) = i := mP_g
theorem b96 : mRow 96 = true := by decide
theorem b97 : mRow 97 = true := by decide
theorem m_copies  : kCA sc (d + 1) 212 [.ref 91] y nx hd L st ((120, cu, su), i, l, kR f t sp) K = kWP sc (d + 1) y nx L st ((120, cu, su), mS i 97 (u0 i), l, kR f t sp) K := by
  refine kCA_of (d := d) (v := none) (S2 := ((120, cu, su), mS i 97 (u0 i), l, kR f t sp)) (fun K => ?_)
  rw [km_212]
  show kWP sc (d) 212 0 [.ref 91, .retAddr 0] [] ((120, cu, su), i, l, kR f t sp) K = K (some (none)) ((120, cu, su), mS i 97 (u0 i), l, kR f t sp)
  simp only [e_X11_copies_0, e_X11_copies_1, e_X11_copies_3, e_X11_copies_5, e_X11_copies_8, e_X11_copies_9, e_X11_copies_12, e_X11_copies_13, e_X11_copies_14, e_X11_copies_17, e_X11_copies_18, e_X11_copies_19, e_X11_copies_20, e_X11_copies_23, e_X11_copies_26, ob_91, rk_91_9, ar_97, rk_91_8, ar_96, kcl_i, kcl_r, kcl_l, kcl_0, kcl_n, true_and, and_true]
  have R := k_for (P := fun x (A : Nat → Int32) => kWP sc d 212 2 [.ref 91, .int (Int32.ofNat x)] [] ((120, cu, su), aPut i 97 25 A, l, kR f t sp) K) (n := 25) (g := fun x A => kuf A x (i 96 x)) ?_ (i 97)
  · rw [aP_g] at R
    refine R.trans ?_
    refine e_X11_copies_2.trans ?_
    simp only [e_X11_copies_0, e_X11_copies_1, e_X11_copies_3, e_X11_copies_5, e_X11_copies_8, e_X11_copies_9, e_X11_copies_12, e_X11_copies_13, e_X11_copies_14, e_X11_copies_17, e_X11_copies_18, e_X11_copies_19, e_X11_copies_20, e_X11_copies_23, e_X11_copies_26, ob_91, rk_91_9, ar_97, rk_91_8, ar_96, kcl_i, kcl_r, kcl_l, kcl_0, kcl_n, true_and, and_true, show ((25 : Int32) ≤ Int32.ofNat 25) = True from eq_true (by decide), if_true]
    have e : aPut i 97 25 (kfo (fun x A => kuf A x (i 96 x)) 25 (i 97)) = mS i 97 (u0 i) := by
      funext c j
      unfold aPut mS mPut u0
      by_cases q : c = 97 ∧ j < 25
      · rw [if_pos q, if_pos q, kfo_kuf, if_pos q.2]
      · rw [if_neg q, if_neg q]
        by_cases q1 : c = 91 ∧ 25 ≤ j ∧ j < 29
        · rw [if_pos q1, q1.1]
        · rw [if_neg q1]
          by_cases q2 : c = 102 ∧ j < 80
          · rw [if_pos q2, q2.1]
          · rw [if_neg q2]
            by_cases q3 : c = 103 ∧ j < 7
            · rw [if_pos q3, q3.1]
            · rw [if_neg q3]
    rw [e]
  · intro x A hx
    refine e_X11_copies_2.trans ?_
    simp only [e_X11_copies_0, e_X11_copies_1, e_X11_copies_3, e_X11_copies_5, e_X11_copies_8, e_X11_copies_9, e_X11_copies_12, e_X11_copies_13, e_X11_copies_14, e_X11_copies_17, e_X11_copies_18, e_X11_copies_19, e_X11_copies_20, e_X11_copies_23, e_X11_copies_26, ob_91, rk_91_9, ar_97, rk_91_8, ar_96, kcl_i, kcl_r, kcl_l, kcl_0, kcl_n, true_and, and_true, show (25 : Int32) = Int32.ofNat 25 from rfl, jpF hx (by decide), if_false, kin25 hx, cl_n (show x < 100000 by omega), aP_o (show 96 ≠ 97 by decide), aW_s hx, tn_s]
def uZ (u : WM) (z : Nat → Int32) : WM := (u.1, z, u.2.2)
theorem mS_z {u : WM} (hb : mRow b = true) {j : Nat} {v : Int32} (h1 : 25 ≤ j) (h2 : j < 29) : kupi (mS i b u) 91 j v = mS i b (uZ u (kuf u.2.1 j v)) := mW_z hb h1 h2
theorem mS_r {u : WM} {j : Nat} (h : j < 25) : mS i b u b j = u.1 j := mP_r h
theorem mS_97 {u : WM} {j : Nat} (h : j < 25) : mS i 97 u 97 j = u.1 j := mP_r h
theorem mS_f {u : WM} {j : Nat} (hb : mRow b = true) (h : j < 25 ∨ 29 ≤ j) : mS i b u 91 j = i 91 j := mP_f hb h
theorem mS_zr {u : WM} {j : Nat} (hb : mRow b = true) (h1 : 25 ≤ j) (h2 : j < 29) : mS i b u 91 j = u.2.1 j := mP_z hb h1 h2
theorem ag_mS {u : WM} (h : kAg kSc i i2) : kAg kSc i (mS i2 97 u) := ag_then h
/-- what the reference needs for turns -/
def RF (m n2 : Nat) (i : Nat → Nat → Int32) (N : Nat → Int32) : Prop := i 91 3 = Int32.ofNat m ∧ m ≤ 8 ∧ i 91 19 = Int32.ofNat n2 ∧ codeOk (i 100) n2 ∧ leOk (i 93) ∧ NR m N (i 96)
theorem rTs_NR (h : RF m n2 i N) (u : WM) (hu : u.1 = i 96) : ∀ x, ∃ N2, NR m N2 (rTs (i 93) (mCo i) (i 94) m (i 100) n2 x u).1 := by
  obtain ⟨_, h8, _, hc, hle, hN⟩ := h
  intro x
  have hr : RR (aOf (i 100) n2) (nOf n2) (i 100) n2 := ⟨hc, rfl, fun _ _ => rfl⟩
  have := (S_rel (w := (N, 0, fun _ => 0)) (u := u) (le := i 93) (co := mCo i) (co2 := mCo i) (br := i 94) (br2 := i 94) (fun _ _ => rfl) (fun _ _ => rfl) (fun a => b8_mCo a) h8 hle hr (by rw [hu]; exact hN) x).1
  exact ⟨_, this⟩
theorem m_goesOn {n2 k : Nat} {u : WM} (hb : mRow b = true) (h : RF m n2 i N) (hu : u.1 = i 96) (hk : k < 100000) : kCA sc (d + 7) 204 [.ref 91, .ref b, .int (Int32.ofNat k)] y nx hd L st ((120, cu, su), mS i b u, l, kR f t sp) K = kWP sc (d + 7) y nx L st ((120, cu, su), mS i b (rTs (i 93) (mCo i) (i 94) m (i 100) n2 k (uZ u (kuf (kuf u.2.1 25 0) 26 0))), l, kR f t sp) K := by
  refine kCA_of (d := d + 6) (v := none) (S2 := ((120, cu, su), mS i b (rTs (i 93) (mCo i) (i 94) m (i 100) n2 k (uZ u (kuf (kuf u.2.1 25 0) 26 0))), l, kR f t sp)) (fun K => ?_)
  rw [km_204]
  show kWP sc (d + 6) 204 0 [.ref 91, .ref b, .int (Int32.ofNat k), .retAddr 0] [] ((120, cu, su), mS i b u, l, kR f t sp) K = K (some (none)) ((120, cu, su), mS i b (rTs (i 93) (mCo i) (i 94) m (i 100) n2 k (uZ u (kuf (kuf u.2.1 25 0) 26 0))), l, kR f t sp)
  obtain ⟨hm, h8, hn, hc, hle, hN⟩ := id h
  simp only [e_X11_goesOn_0, e_X11_goesOn_1, e_X11_goesOn_2, e_X11_goesOn_5, e_X11_goesOn_6, e_X11_goesOn_7, e_X11_goesOn_10, e_X11_goesOn_11, e_X11_goesOn_13, e_X11_goesOn_14, e_X11_goesOn_17, e_X11_goesOn_18, e_X11_goesOn_19, e_X11_goesOn_22, e_X11_goesOn_25, e_X11_goesOn_28, ob_91, kcl_i, kcl_r, kcl_l, kcl_0, kcl_n, true_and, and_true, mS_z hb (show 25 ≤ 25 by decide) (show 25 < 29 by decide), mS_z hb (show 25 ≤ 26 by decide) (show 26 < 29 by decide)]
  refine (k_for (P := fun x (w : Nat) => kWP sc (d + 6) 204 12 [.ref 91, .ref b, .int (Int32.ofNat k), .int (Int32.ofNat x)] [] ((120, cu, su), mS i b (rTs (i 93) (mCo i) (i 94) m (i 100) n2 x (uZ u (kuf (kuf u.2.1 25 0) 26 0))), l, kR f t sp) K) (n := k) (g := fun _ w => w) ?_ 0).trans ?_
  · intro x w hx
    obtain ⟨N2, hN2⟩ := rTs_NR h (uZ u (kuf (kuf u.2.1 25 0) 26 0)) hu x
    refine e_X11_goesOn_12.trans ?_
    simp only [e_X11_goesOn_0, e_X11_goesOn_1, e_X11_goesOn_2, e_X11_goesOn_5, e_X11_goesOn_6, e_X11_goesOn_7, e_X11_goesOn_10, e_X11_goesOn_11, e_X11_goesOn_13, e_X11_goesOn_14, e_X11_goesOn_17, e_X11_goesOn_18, e_X11_goesOn_19, e_X11_goesOn_22, e_X11_goesOn_25, e_X11_goesOn_28, ob_91, kcl_i, kcl_r, kcl_l, kcl_0, kcl_n, true_and, and_true, jpF hx (by omega), if_false, m_turn hb hm h8 hn hc hN2, rTs_s, tn_s]
  · refine e_X11_goesOn_12.trans ?_
    simp only [e_X11_goesOn_0, e_X11_goesOn_1, e_X11_goesOn_2, e_X11_goesOn_5, e_X11_goesOn_6, e_X11_goesOn_7, e_X11_goesOn_10, e_X11_goesOn_11, e_X11_goesOn_13, e_X11_goesOn_14, e_X11_goesOn_17, e_X11_goesOn_18, e_X11_goesOn_19, e_X11_goesOn_22, e_X11_goesOn_25, e_X11_goesOn_28, ob_91, kcl_i, kcl_r, kcl_l, kcl_0, kcl_n, true_and, and_true, Int32.le_refl, if_true]
end TC
