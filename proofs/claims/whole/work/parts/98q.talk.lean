/-! talk, turn, midnight, undo -/
section TC
variable {sc : Nat × (Nat → Int32)} {d y nx : Nat} {hd : List (Int × Nat)} {L st : List Value} {S : kS} {cu su : Nat} {i : Nat → Nat → Int32} {l : Nat → Nat → Int64} {f t c b m : Nat} {sp : Nat → Nat} {K : Option (Option Value) → kS → Prop}
variable {N M Z S1 Q A : Nat → Int32} {i1 i2 i3 : Nat → Nat → Int32} {l2 : Nat → Nat → Int64} {n n2 k x : Nat} {v r : Int32} {zs zs2 : List Int64} {le co br acts code co2 br2 : Nat → Int32} {s : Nat × (Nat → Int32)} {w : WN} {u : WM} {sp2 : Nat → Nat}
/-- what is done may change, beside what questions may: now, what can be undone -/
def kSd (c k : Nat) : Bool := kSc c k || (10 ≤ c && c ≤ 12) || c == 96 || (c == 16 && k == 1) || (20 ≤ c && c ≤ 64) || c == 104 || (c == 91 && k == 23)
theorem sd_n {c k : Nat} (h1 : 20 ≤ c) (h2 : c ≤ 64) : kSd c k = true := by
  unfold kSd
  rw [decide_eq_true h1, decide_eq_true h2]
  simp
theorem sd_sc {c k : Nat} (h : kSd c k = false) : kSc c k = false := by
  unfold kSd at h
  cases e : kSc c k
  · rfl
  · rw [e] at h; simp at h
theorem ag_scd (h : kAg kSc i i2) : kAg kSd i i2 := fun c k hq => h c k (sd_sc hq)
theorem ag_night65 (h : kAg kSd i i2) {j : Nat} (hj : j < 3) : nGet i2 (65 + 3 * j) = nGet i (65 + 3 * j) := by
  have : j = 0 ∨ j = 1 ∨ j = 2 := by omega
  rcases this with rfl | rfl | rfl
  · exact nGet_c (ag_row h (fun _ => rfl)) (ag_row h (fun _ => rfl)) (ag_row h (fun _ => rfl))
  · exact nGet_c (ag_row h (fun _ => rfl)) (ag_row h (fun _ => rfl)) (ag_row h (fun _ => rfl))
  · exact nGet_c (ag_row h (fun _ => rfl)) (ag_row h (fun _ => rfl)) (ag_row h (fun _ => rfl))
theorem kIV_d (h : IV m i l f t sp) (ag : kAg kSd i i2) (hW : IW (i2 3 1) (i2 91 1) (l2 4) (l2 92)) (hN : NR m (nGet i2 10) (i2 96)) (hU : IU m (i2 16 1) (i2 91 23) (fun j => nGet i2 (sp2 j)) (i2 104)) (hS : IS sp2) : IV m i2 l2 f t sp2 := by
  obtain ⟨hP, hX, _, _, _, _, hK, hH, hR, hF⟩ := h
  have rr : ∀ c, (∀ k, kSd c k = false) → i2 c = i c := fun c hc => ag_row ag hc
  refine ⟨?_, ?_, hW, hN, hU, hS, ?_, ?_, ?_, hF⟩
  · rw [rr 5 (fun _ => rfl), ag 91 3 rfl, rr 6 (fun _ => rfl), rr 7 (fun _ => rfl), rr 8 (fun _ => rfl), rr 9 (fun _ => rfl), rr 93 (fun _ => rfl), rr 94 (fun _ => rfl), rr 95 (fun _ => rfl)]; exact hP
  · rw [rr 1 (fun _ => rfl), ag 91 11 rfl, rr 2 (fun _ => rfl), rr 98 (fun _ => rfl)]; exact hX
  · rw [ag 91 4 rfl, rr 19 (fun _ => rfl), rr 116 (fun _ => rfl), rr 117 (fun _ => rfl), rr 118 (fun _ => rfl)]
    obtain ⟨ch, h1, h2, h3⟩ := hK
    refine ⟨ch, h1, h2, fun j hj => ?_⟩
    show _ ∧ _ ∧ _ ∧ (_ → NR m (nGet i2 (65 + 3 * j)) _)
    rw [ag_night65 ag hj]; exact h3 j hj
  · rw [rr 74 (fun _ => rfl), ag 91 39 rfl, rr 75 (fun _ => rfl), rr 76 (fun _ => rfl), rr 113 (fun _ => rfl), rr 114 (fun _ => rfl)]; exact hH
  · refine IR_c hF ?_ (ag 85 2 rfl) (ag 88 2 rfl) (rr 86 (fun _ => rfl)) (rr 89 (fun _ => rfl))
    rw [ag 91 19 rfl, rr 100 (fun _ => rfl)]; exact hR
theorem IU_r {a b : Int32} {Ns : Nat → Nat → Int32} {r r2 : Nat → Int32} (h : IU m a b Ns r) (e : ∀ j, j < 375 → r2 j = r j) : IU m a b Ns r2 := by
  obtain ⟨n, h1, h2, h3, h4⟩ := h
  exact ⟨n, h1, h2, h3, fun j hj => NR_c (h4 j hj) (fun z hz => e _ (by omega))⟩
theorem pK_lt (h15 : k ≤ 15) : pK k < 15 := by unfold pK; split <;> omega
theorem IV_undo (h : IV m i l f t sp) : ∃ k, k ≤ 15 ∧ i 16 1 = Int32.ofNat k ∧ i 91 23 = Int32.ofNat k ∧ (∀ j, j < 15 → kNc (sp j) = true) ∧ (∀ j, j < 15 → sp j ≠ 10) ∧ (∀ j, j < 15 → sp j ≠ 13) := by
  obtain ⟨_, _, _, _, ⟨k, h1, h2, h3, _⟩, hS, _⟩ := h
  refine ⟨k, h1, h2, h3, fun j hj => (hS.1 j hj).1, fun j hj => ?_, fun j hj => ?_⟩
  · have := (hS.1 j hj).2.1; omega
  · have := (hS.1 j hj).2.1; omega
theorem ag_rem {c : Nat} (hS : IS sp) (h15 : k ≤ 15) : kAg kSd i (pRem i sp k c) := by
  have w := (IS_pR (k := k) hS).1 (pK k) (pK_lt h15)
  unfold pRem
  refine ag_u (ag_n (ag_u ag_r rfl) (fun j _ => ?_) (fun j _ => ?_) (fun j _ => ?_)) rfl
  · exact sd_n (by omega) (by omega)
  · exact sd_n (by omega) (by have := w.2.2; have h3 := kNc_all (P := fun c => c < 65 → c ≤ 62) (by decide) w.1; have := h3 w.2.2; omega)
  · exact sd_n (by omega) (by have h3 := kNc_all (P := fun c => c < 65 → c ≤ 62) (by decide) w.1; have := h3 w.2.2; omega)
theorem rem_hi (hS : IS sp) (h15 : k ≤ 15) {c b : Nat} (hc : 74 ≤ c) : pRem i sp k b c = i c := by
  have w := (IS_pR (k := k) hS).1 (pK k) (pK_lt h15)
  unfold pRem
  rw [kupi_cf (by omega), nP_hi w.1 hc, kupi_cf (by omega)]
theorem rem_lo (hS : IS sp) (h15 : k ≤ 15) {c b : Nat} (hc : c < 16) : pRem i sp k b c = i c := by
  have w := (IS_pR (k := k) hS).1 (pK k) (pK_lt h15)
  unfold pRem
  rw [kupi_cf (by omega), nP_o (by omega) (by omega) (by omega), kupi_cf (by omega)]
theorem rem_now (hS : IS sp) (h15 : k ≤ 15) {b : Nat} : nGet (pRem i sp k b) 10 = nGet i 10 := nGet_c (rem_lo hS h15 (by decide)) (rem_lo hS h15 (by decide)) (rem_lo hS h15 (by decide))
theorem rem_16 (hS : IS sp) (h15 : k ≤ 15) {b : Nat} : pRem i sp k b 16 1 = Int32.ofNat (pK k + 1) := by unfold pRem; exact kupi_s
/-- what can be undone, once one more is remembered -/
theorem IU_rem (hS : IS sp) (hU : IU m (i 16 1) (i 91 23) (fun j => nGet i (sp j)) (i 104)) (hk : i 16 1 = Int32.ofNat k) (hk2 : i 91 23 = Int32.ofNat k) (h15 : k ≤ 15) {b : Nat} (hb : kNc b = true) (hN : NR m (nGet i b) M) (e : ∀ c, 20 ≤ c → c < 65 → i2 c = pRem i sp k b c) : IU m (Int32.ofNat (pK k + 1)) (Int32.ofNat (pK k + 1)) (fun j => nGet i2 (pR k sp j)) (if k = 15 then shA (pbA k (i 104) M) else pbA k (i 104) M) := by
  have hR := IS_pR (k := k) hS
  have h62 : ∀ j, j < 15 → pR k sp j ≤ 62 := fun j hj => kNc_all (P := fun c => c < 65 → c ≤ 62) (by decide) (hR.1 j hj).1 (hR.1 j hj).2.2
  have e' : ∀ j, j < 15 → nGet i2 (pR k sp j) = nGet (pRem i sp k b) (pR k sp j) := by
    intro j hj
    have w := hR.1 j hj
    have w2 := h62 j hj
    exact nGet_c (e _ (by omega) (by omega)) (e _ (by omega) (by omega)) (e _ (by omega) (by omega))
  have n16 : ∀ (v : Int32) (i : Nat → Nat → Int32) (j : Nat), j < 15 → nGet (kupi i 16 1 v) (pR k sp j) = nGet i (pR k sp j) := fun v i j hj => nGet_16 (hR.1 j hj).1
  rw [hk, hk2] at hU
  refine IU_add (i3 := i) (b := b) hS hU h15 hN ?_ ?_
  · intro j hj hne
    rw [e' j hj]
    unfold pRem
    rw [n16 _ _ j hj, nG_o (hR.1 j hj).1 (hR.1 (pK k) (pK_lt h15)).1 (fun q => hne (hR.2 j (pK k) hj (pK_lt h15) q)), n16 _ _ j hj]
  · rw [e' _ (pK_lt h15)]
    unfold pRem
    rw [n16 _ _ _ (pK_lt h15), nG_nP rfl]
theorem pSay_all (hco : ∀ a, a < m → co a = co2 a) (h8 : m ≤ 8) {said hat p : Int32} : pSay co said hat (Int32.ofNat m) p = pSay co2 said hat (Int32.ofNat m) p := by
  by_cases q : p < 0 ∨ ¬ p < Int32.ofNat m
  · unfold pSay; rw [if_pos (Or.inr q), if_pos (Or.inr q)]
  · have q1 : ¬ p < 0 := fun e => q (Or.inl e)
    have q2 : p < Int32.ofNat m := Classical.byContradiction fun e => q (Or.inr e)
    obtain ⟨a, ha, rfl⟩ := tn_ex (by omega) (Int32.not_lt.1 q1) q2
    exact pSay_c hco h8 ha
theorem refuse_all (hco : ∀ a, a < m → co a = co2 a) (h8 : m ≤ 8) {said hat pm p q v : Int32} : pRefuse co said hat pm (Int32.ofNat m) p q v = pRefuse co2 said hat pm (Int32.ofNat m) p q v := by
  unfold pRefuse pCanTalk pCanSay
  rw [pSay_all hco h8]
theorem refuse_neg {said hat pm M0 p q v : Int32} (h : ¬ pRefuse co said hat pm M0 p q v = 0) : pRefuse co said hat pm M0 p q v < 0 := by
  unfold pRefuse at h ⊢
  split
  · decide
  · rename_i h1
    rw [if_neg h1] at h
    split
    · decide
    · rename_i h2
      rw [if_neg h2] at h
      split
      · decide
      · rename_i h3
        rw [if_neg h3] at h; exact absurd rfl h
theorem c_goOnI {a : Nat} {k q : Int32} (hc : kNc c = true) (ha : a < 8) : kCA sc (d + 3) 9 [.ref c, .ref 5, .int (Int32.ofNat a), .int k, .int q] y nx hd L st ((120, cu, su), i, l, kR f t sp) K = kWP sc (d + 3) y nx L st ((120, cu, su), nPut i c (qGo (i 9) (nGet i c) a k q), l, kR f t sp) K := by
  have W := c_goOn (sc := sc) (d := d) (y := y) (nx := nx) (hd := hd) (L := L) (st := st) (cu := cu) (su := su) (i := i) (l := l) (f := f) (t := t) (sp := sp) (K := K) (N := nGet i c) (k := k) (q := q) hc ha
  rw [nP_g] at W
  exact W
theorem m_talksI {p k q : Int32} (hm : i 91 3 = Int32.ofNat m) (h8 : m ≤ 8) (hl : i 96 22 < 0 ∨ ∃ a, a < 8 ∧ i 96 22 = Int32.ofNat a) : kCA sc (d + 5) 201 [.ref 91, .ref 96, .int p, .int k, .int q] y nx hd L st ((120, cu, su), i, l, kR f t sp) K = kWP sc (d + 5) y nx L (.int (tAns (mCo i) (i 93) (i 96) m p k q) :: st) ((120, cu, su), mS i 96 (tRow (mCo i) (i 93) (i 96) m p k q, tZ (mCo i) (i 93) (i 96) (i 91) m p k q, i 102, i 103), l, kR f t sp) K := by
  have W := m_talks (sc := sc) (d := d) (y := y) (nx := nx) (hd := hd) (L := L) (st := st) (cu := cu) (su := su) (i := i) (l := l) (f := f) (t := t) (sp := sp) (K := K) (M := i 96) (Z := i 91) (S1 := i 102) (Q := i 103) (p := p) (k := k) (q := q) b96 hm h8 hl
  rw [mP_g] at W
  exact W
theorem NR_22 (h8 : m ≤ 8) (h : NR m N M) : M 22 < 0 ∨ ∃ a, a < 8 ∧ M 22 = Int32.ofNat a := by
  rcases h.1.2.2.2.2.1 with e | ⟨a, ha, e⟩
  · left; rw [e]; decide
  · right; exact ⟨a, by omega, e⟩
def jB (i : Nat → Nat → Int32) (k : Nat) : Nat → Nat → Int32 := aPut (uPut i) 104 400 (pbA k (i 104) (i 96))
theorem jB_o {c : Nat} (h1 : c ≠ 91) (h2 : c ≠ 104) : jB i k c = i c := by unfold jB; rw [aP_o h2, uP_o h1]
theorem jB_f {j : Nat} (h : j ≠ 0) : jB i k 91 j = i 91 j := by unfold jB; rw [aP_o (by decide), uP_f h]
theorem jB_co : mCo (jB i k) = mCo i := by unfold mCo; rw [jB_o (by decide) (by decide), jB_o (by decide) (by decide), jB_o (by decide) (by decide)]
theorem m_talk {p q v : Int32} (hm : i 91 3 = Int32.ofNat m) (h8 : m ≤ 8) (hk : i 91 23 = Int32.ofNat k) (h15 : k ≤ 15) (hN : NR m N (i 96)) :
    (¬ pRefuse (mCo i) (i 96 17) (i 96 18) (pPm (i 96)) (Int32.ofNat m) p q v = 0 → CC 206 [.ref 91, .int p, .int q, .int v] i l f t sp (.int (pRefuse (mCo i) (i 96 17) (i 96 18) (pPm (i 96)) (Int32.ofNat m) p q v)) (jB i k) l f t sp) ∧
    (pRefuse (mCo i) (i 96 17) (i 96 18) (pPm (i 96)) (Int32.ofNat m) p q v = 0 → ¬ rTalk (i 93) (i 96) p.toNatClampNeg q v 19 < 0 → CC 206 [.ref 91, .int p, .int q, .int v] i l f t sp (.int (rTalk (i 93) (i 96) p.toNatClampNeg q v 19)) (aD (mS (jB i k) 96 (rTalk (i 93) (i 96) p.toNatClampNeg q v, zTalk (i 93) (i 96) (jB i k 91) p.toNatClampNeg q v, i 102, i 103)) k) l f t sp) := by
  have hk' : uPut i 91 23 = Int32.ofNat k := hk
  have e104 : uPut i 104 = i 104 := uP_o (by decide)
  have hmB : jB i k 91 3 = Int32.ofNat m := by rw [jB_f (by decide)]; exact hm
  have e96 : jB i k 96 = i 96 := jB_o (by decide) (by decide)
  have e93 : jB i k 93 = i 93 := jB_o (by decide) (by decide)
  have e102 : jB i k 102 = i 102 := jB_o (by decide) (by decide)
  have e103 : jB i k 103 = i 103 := jB_o (by decide) (by decide)
  have hl : jB i k 96 22 < 0 ∨ ∃ a, a < 8 ∧ jB i k 96 22 = Int32.ofNat a := by rw [e96]; exact NR_22 h8 hN
  have eB : aPut (uPut i) 104 400 (pbA k (i 104) (i 96)) = jB i k := rfl
  constructor
  · intro hr sc d y nx hd L st cu su K
    have tA : tAns (mCo i) (i 93) (i 96) m p q v = pRefuse (mCo i) (i 96 17) (i 96 18) (pPm (i 96)) (Int32.ofNat m) p q v := by unfold tAns; rw [if_neg hr]
    have tR : tRow (mCo i) (i 93) (i 96) m p q v = i 96 := by unfold tRow; rw [if_neg hr]
    have tZ' : tZ (mCo i) (i 93) (i 96) (jB i k 91) m p q v = jB i k 91 := by unfold tZ; rw [if_neg hr]
    have hS : mS (jB i k) 96 (i 96, jB i k 91, i 102, i 103) = jB i k := by
      rw [← e96, ← e102, ← e103]; exact mS_u0
    have hkS : jB i k 91 23 = Int32.ofNat k := by rw [jB_f (by decide)]; exact hk
    have hneg := refuse_neg hr
    refine kCA_of (d := d + 499) (v := some (.int _)) (fun K => ?_)
    rw [km_206]
    show kWP sc (d + 499) 206 0 [.ref 91, .int p, .int q, .int v] [] _ K = _
    simp only [e_X11_talk_0, e_X11_talk_1, e_X11_talk_2, e_X11_talk_5, e_X11_talk_6, e_X11_talk_9, e_X11_talk_10, e_X11_talk_11, e_X11_talk_12, e_X11_talk_15, e_X11_talk_16, e_X11_talk_17, e_X11_talk_18, e_X11_talk_21, e_X11_talk_24, ob_91, rk_91_8, ar_96, kcl_i, kcl_r, kcl_l, kcl_0, kcl_n, true_and, and_true, uP_0, m_putsBy hk' h15, e104, u96, eB, m_talksI hmB h8 hl, jB_co, e96, e93, e102, e103, tA, tR, tZ', hS, m_counted hkS h15, hneg, if_true]
  · intro hr hnn sc d y nx hd L st cu su K
    have tA : tAns (mCo i) (i 93) (i 96) m p q v = rTalk (i 93) (i 96) p.toNatClampNeg q v 19 := by unfold tAns; rw [if_pos hr]
    have tR : tRow (mCo i) (i 93) (i 96) m p q v = rTalk (i 93) (i 96) p.toNatClampNeg q v := by unfold tRow; rw [if_pos hr]
    have tZ' : tZ (mCo i) (i 93) (i 96) (jB i k 91) m p q v = zTalk (i 93) (i 96) (jB i k 91) p.toNatClampNeg q v := by unfold tZ; rw [if_pos hr]
    have hkS : ∀ u : WM, mS (jB i k) 96 u 91 23 = Int32.ofNat k := fun u => by rw [mS_f b96 (by decide), jB_f (by decide)]; exact hk
    refine kCA_of (d := d + 499) (v := some (.int _)) (fun K => ?_)
    rw [km_206]
    show kWP sc (d + 499) 206 0 [.ref 91, .int p, .int q, .int v] [] _ K = _
    simp only [e_X11_talk_0, e_X11_talk_1, e_X11_talk_2, e_X11_talk_5, e_X11_talk_6, e_X11_talk_9, e_X11_talk_10, e_X11_talk_11, e_X11_talk_12, e_X11_talk_15, e_X11_talk_16, e_X11_talk_17, e_X11_talk_18, e_X11_talk_21, e_X11_talk_24, ob_91, rk_91_8, ar_96, kcl_i, kcl_r, kcl_l, kcl_0, kcl_n, true_and, and_true, uP_0, m_putsBy hk' h15, e104, u96, eB, m_talksI hmB h8 hl, jB_co, e96, e93, e102, e103, tA, tR, tZ', m_counted (hkS _) h15, hnn, if_false]
theorem NR_19 (h : NR m N M) : ¬ M 19 < 0 := by
  obtain ⟨_, x, y, hx, hy, hxy, hy60⟩ := h
  rw [hx]; exact tn_nn (by omega)
theorem ag_jB (h : kAg kSd i i2) : kAg kSd i (jB i2 k) := ag_a (ag_u h rfl) (fun _ _ => rfl)
theorem sd_91 : ∀ k, 25 ≤ k → k < 29 → kSd 91 k = true := by
  intro k h1 h2
  have : k = 25 ∨ k = 26 ∨ k = 27 ∨ k = 28 := by omega
  rcases this with rfl | rfl | rfl | rfl <;> rfl
theorem ag_mS96 (h : kAg kSd i i2) : kAg kSd i (mS i2 96 u) := ag_m h (fun _ _ => rfl) sd_91 (fun _ _ => rfl) (fun _ _ => rfl)
theorem ag_aD (h : kAg kSd i i2) : kAg kSd i (aD i2 k) := ag_u (ag_a h (fun _ _ => rfl)) rfl
theorem ag_n10 (h : kAg kSd i i2) : kAg kSd i (nPut i2 10 N) := ag_n h (fun _ _ => rfl) (fun _ _ => rfl) (fun _ _ => rfl)
theorem aD_o {c : Nat} (h1 : c ≠ 91) (h2 : c ≠ 104) : aD i k c = i c := by unfold aD; rw [kupi_cf h1, aP_o h2]
theorem aD_f {j : Nat} (h : j ≠ 23) : aD i k 91 j = i 91 j := by unfold aD; rw [kupi_k h, aP_o (by decide)]
theorem aD_23 : aD i k 91 23 = Int32.ofNat (pK k + 1) := by unfold aD; exact kupi_s
theorem aD_104 {j : Nat} (hj : j < 400) : aD i k 104 j = (if k = 15 then shA (i 104) else i 104) j := by unfold aD; rw [kupi_c (by decide), aP_s hj]
theorem mS_o {c : Nat} (h0 : c ≠ b) (h1 : c ≠ 91) (h2 : c ≠ 102) (h3 : c ≠ 103) : mS i b u c = i c := mP_o h0 h1 h2 h3
theorem NR_e {M2 : Nat → Int32} (h : NR m N M) (e : ∀ z, z < 25 → M2 z = M z) : NR m (nGet (nPut i 10 N) 10) M2 := by
  have h' := NR_c h e
  obtain ⟨⟨h1, h2, h3, h4, h5, h6⟩, hr⟩ := h'
  have g : ∀ k, k < 25 → k ≠ 23 → nGet (nPut i 10 N) 10 k = N k := by
    intro k hk hne
    unfold nGet
    by_cases q1 : k < 8
    · rw [if_pos q1, nP_s q1]
    · rw [if_neg q1]
      by_cases q2 : k < 16
      · rw [if_pos q2, nP_p (by omega), show 8 + (k - 8) = k by omega]
      · rw [if_neg q2]
        have : k = 16 ∨ k = 17 ∨ k = 18 ∨ k = 19 ∨ k = 20 ∨ k = 21 ∨ k = 22 ∨ k = 24 := by omega
        rcases this with rfl | rfl | rfl | rfl | rfl | rfl | rfl | rfl
        · exact nP_5
        · exact nP_0
        · exact nP_1
        · exact nP_2
        · exact nP_3
        · exact nP_4
        · exact nP_6
        · exact nP_7
  refine ⟨⟨?_, ?_, ?_, h4, h5, h6⟩, hr⟩
  · intro k hk; rw [g k (by omega) (by omega)]; exact h1 k hk
  · rw [g 22 (by decide) (by decide)]; exact h2
  · rw [g 24 (by decide) (by decide)]; exact h3
theorem J_talk (h : IV m i l f t sp) (p q v : Int32) : JJ 103 206 [.int p, .int q, .int v] i l f t sp := by
  obtain ⟨⟨h5, h91, h8, e9, hle, hp⟩, hX, hW, hN, hU, hS, hK, hH, hR, hF⟩ := id h
  obtain ⟨k, h15, k1, k2, hsp, hne, _⟩ := IV_undo h
  have hNow := IV_now h
  have ePm : i 10 6 = pPm (i 96) := hN.1.2.1
  have eR : pRefuse (i 8) (i 10 0) (i 10 1) (i 10 6) (i 5 0) p q v = pRefuse (mCo i) (i 96 17) (i 96 18) (pPm (i 96)) (Int32.ofNat m) p q v := by
    rw [hNow.1, hNow.2.1, ePm, h5]; exact refuse_all (fun a ha => (hp a ha).2.2) h8
  have h5' := h5
  by_cases hr : pRefuse (mCo i) (i 96 17) (i 96 18) (pPm (i 96)) (Int32.ofNat m) p q v = 0
  · have hq : pHas (Int32.ofNat m) p = true ∧ ¬ q < 0 ∧ ¬ 4 < q ∧ ¬ pCanTalk (mCo i) (i 96 17) (i 96 18) (pPm (i 96)) (Int32.ofNat m) p q v = 0 := by
      unfold pRefuse at hr
      by_cases c1 : ¬ pHas (Int32.ofNat m) p = true ∨ q < 0 ∨ 4 < q
      · rw [if_pos c1] at hr; exact absurd hr (by decide)
      · rw [if_neg c1] at hr
        by_cases c2 : p = i 96 18
        · rw [if_pos c2] at hr; exact absurd hr (by decide)
        · rw [if_neg c2] at hr
          by_cases c3 : pCanTalk (mCo i) (i 96 17) (i 96 18) (pPm (i 96)) (Int32.ofNat m) p q v = 0
          · rw [if_pos c3] at hr; exact absurd hr (by decide)
          · refine ⟨Classical.byContradiction fun z => c1 (Or.inl z), fun z => c1 (Or.inr (Or.inl z)), fun z => c1 (Or.inr (Or.inr z)), c3⟩
    obtain ⟨a, ha, rfl⟩ := kN_has h8 hq.1
    have G : NR m (qGo (i 93) (nGet i 10) a q v) (rTalk (i 93) (i 96) a q v) := NR_go h8 hle hN hq.2.1 hq.2.2.1 ha hq.2.2.2
    have hcl : (Int32.ofNat a).toNatClampNeg = a := tn_cl (by omega)
    have C : CC 103 [.ref 0, .int (Int32.ofNat a), .int q, .int v] i l f t sp (.int (qGo (i 93) (nGet i 10) a q v 19)) (nPut (pRem i sp k 10) 10 (qGo (i 93) (nGet i 10) a q v)) l f t (pR k sp) := by
      intro sc d y nx hd L st cu su K
      have e9' : pRem i sp k 10 9 = i 93 := by rw [rem_lo hS h15 (by decide)]; exact e9
      refine kCA_of (d := d + 499) (v := some (.int _)) (fun K => ?_)
      rw [km_103]
      show kWP sc (d + 499) 103 0 [.ref 0, .int (Int32.ofNat a), .int q, .int v, .retAddr 0] [] _ K = _
      simp only [e_X10_talk_0, e_X10_talk_1, e_X10_talk_4, e_X10_talk_5, e_X10_talk_8, e_X10_talk_9, e_X10_talk_10, e_X10_talk_11, e_X10_talk_14, e_X10_talk_16, e_X10_talk_18, e_X10_talk_21, e_X10_talk_23, e_X10_talk_24, e_X10_talk_25, e_X10_talk_28, e_X10_talk_29, e_X10_talk_32, e_X10_talk_35, e_X10_talk_36, e_X10_talk_39, e_X10_talk_40, e_X10_talk_43, e_X10_talk_44, e_X10_talk_45, e_X10_talk_46, e_X10_talk_49, e_X10_talk_50, e_X10_talk_53, e_X10_talk_56, ob_0, rk_0_3, rk_0_2, ob_10, ob_13, rk_0_5, ob_16, kcl_i, kcl_r, kcl_l, kcl_0, kcl_n, true_and, and_true, c_refusal c10 h5 h8, eR, hr, if_true, c_remember c10 hsp hne k1 h15, c_goOnI c10 (show a < 8 by omega), e9', rem_now hS h15, nP_2]
    have b96' : nPut (pRem i sp k 10) 10 (qGo (i 93) (nGet i 10) a q v) 96 = i 96 := by rw [nP_hi c10 (by decide), rem_hi hS h15 (by decide)]
    have hiC : ∀ c, 74 ≤ c → nPut (pRem i sp k 10) 10 (qGo (i 93) (nGet i 10) a q v) c = i c := fun c hc => by rw [nP_hi c10 hc, rem_hi hS h15 hc]
    have coC : mCo (nPut (pRem i sp k 10) 10 (qGo (i 93) (nGet i 10) a q v)) = mCo i := by unfold mCo; rw [hiC 93 (by decide), hiC 94 (by decide), hiC 95 (by decide)]
    have W := (m_talk (i := nPut (pRem i sp k 10) 10 (qGo (i 93) (nGet i 10) a q v)) (l := l) (f := f) (t := t) (sp := pR k sp) (m := m) (k := k) (N := nGet i 10) (p := Int32.ofNat a) (q := q) (v := v) (by rw [hiC 91 (by decide)]; exact h91) h8 (by rw [hiC 91 (by decide)]; exact k2) h15 (by rw [b96']; exact hN)).2
    rw [coC, b96', hiC 93 (by decide), hiC 102 (by decide), hiC 103 (by decide), hcl] at W
    have W2 := W hr (NR_19 G)
    rw [← G.1.1 19 (by decide)] at W2
    refine ⟨_, _, _, f, t, pR k sp, _, _, m, C, W2, ?_⟩
    have agC : kAg kSd i (nPut (pRem i sp k 10) 10 (qGo (i 93) (nGet i 10) a q v)) := ag_n10 (ag_rem hS h15)
    refine kIV_d h (ag_aD (ag_mS96 (ag_jB agC))) ?_ ?_ ?_ (IS_pR hS)
    · rw [aD_o (by decide) (by decide), mS_o (by decide) (by decide) (by decide) (by decide), jB_o (by decide) (by decide), aD_f (by decide), mS_f b96 (by decide), jB_f (by decide), nP_lo c10 (by decide), rem_lo hS h15 (by decide), hiC 91 (by decide)]; exact hW
    · have e10 : nGet (aD (mS (jB (nPut (pRem i sp k 10) 10 (qGo (i 93) (nGet i 10) a q v)) k) 96 (rTalk (i 93) (i 96) a q v, zTalk (i 93) (i 96) (jB (nPut (pRem i sp k 10) 10 (qGo (i 93) (nGet i 10) a q v)) k 91) a q v, i 102, i 103)) k) 10 = nGet (nPut (pRem i sp k 10) 10 (qGo (i 93) (nGet i 10) a q v)) 10 := by
        apply nGet_c
        · rw [aD_o (by decide) (by decide), mS_o (by decide) (by decide) (by decide) (by decide), jB_o (by decide) (by decide)]
        · rw [aD_o (by decide) (by decide), mS_o (by decide) (by decide) (by decide) (by decide), jB_o (by decide) (by decide)]
        · rw [aD_o (by decide) (by decide), mS_o (by decide) (by decide) (by decide) (by decide), jB_o (by decide) (by decide)]
      rw [e10, aD_o (by decide) (by decide)]
      exact NR_e G (fun z hz => mS_r hz)
    · rw [aD_23, aD_o (show 16 ≠ 91 by decide) (by decide), mS_o (by decide) (by decide) (by decide) (by decide), jB_o (show 16 ≠ 91 by decide) (by decide), nP_o (by decide) (by decide) (by decide), rem_16 hS h15]
      refine IU_r (IU_rem hS hU k1 k2 h15 c10 hN ?_) ?_
      · intro c c1 c2
        rw [aD_o (by omega) (by omega), mS_o (by omega) (by omega) (by omega) (by omega), jB_o (by omega) (by omega), nP_o (by omega) (by omega) (by omega)]
      · intro j hj
        rw [aD_104 (by omega), mS_o (by decide) (by decide) (by decide) (by decide)]
        have ejB : ∀ j, j < 400 → jB (nPut (pRem i sp k 10) 10 (qGo (i 93) (nGet i 10) a q v)) k 104 j = pbA k (i 104) (i 96) j := by
          intro j hj; unfold jB; rw [aP_s hj, b96', hiC 104 (by decide)]
        by_cases k15 : k = 15
        · rw [if_pos k15, if_pos k15]; unfold shA; rw [if_pos hj, if_pos hj]; exact ejB _ (by omega)
        · rw [if_neg k15, if_neg k15]; exact ejB _ (by omega)
  · have C : CC 103 [.ref 0, .int p, .int q, .int v] i l f t sp (.int (pRefuse (mCo i) (i 96 17) (i 96 18) (pPm (i 96)) (Int32.ofNat m) p q v)) i l f t sp := by
      intro sc d y nx hd L st cu su K
      refine kCA_of (d := d + 499) (v := some (.int _)) (fun K => ?_)
      rw [km_103]
      show kWP sc (d + 499) 103 0 [.ref 0, .int p, .int q, .int v, .retAddr 0] [] _ K = _
      simp only [e_X10_talk_0, e_X10_talk_1, e_X10_talk_4, e_X10_talk_5, e_X10_talk_8, e_X10_talk_9, e_X10_talk_10, e_X10_talk_11, e_X10_talk_14, e_X10_talk_16, e_X10_talk_18, e_X10_talk_21, e_X10_talk_23, e_X10_talk_24, e_X10_talk_25, e_X10_talk_28, e_X10_talk_29, e_X10_talk_32, e_X10_talk_35, e_X10_talk_36, e_X10_talk_39, e_X10_talk_40, e_X10_talk_43, e_X10_talk_44, e_X10_talk_45, e_X10_talk_46, e_X10_talk_49, e_X10_talk_50, e_X10_talk_53, e_X10_talk_56, ob_0, rk_0_3, rk_0_2, ob_10, ob_13, rk_0_5, ob_16, kcl_i, kcl_r, kcl_l, kcl_0, kcl_n, true_and, and_true, c_refusal c10 h5 h8, eR, hr, if_false]
    have W := (m_talk (i := i) (l := l) (f := f) (t := t) (sp := sp) (p := p) (q := q) (v := v) h91 h8 k2 h15 hN).1 hr
    refine ⟨_, _, _, f, t, sp, _, _, m, C, W, ?_⟩
    refine kIV_d h (ag_jB ag_r) ?_ ?_ ?_ hS
    · rw [jB_o (by decide) (by decide), jB_f (by decide)]; exact hW
    · rw [jB_o (by decide) (by decide), show nGet (jB i k) 10 = nGet i 10 from nGet_c (jB_o (by decide) (by decide)) (jB_o (by decide) (by decide)) (jB_o (by decide) (by decide))]; exact hN
    · rw [jB_o (by decide) (by decide), jB_f (by decide)]
      have hU' : IU m (i 16 1) (i 91 23) (fun j => nGet (jB i k) (sp j)) (i 104) := IU_c hS hU (fun c c1 c2 => jB_o (by omega) (by omega))
      obtain ⟨n, n1, n2, n3, n4⟩ := hU'
      have en : k = n := by rw [k1, tn_eq (by omega) (by omega)] at n2; exact n2
      refine ⟨n, n1, n2, n3, fun j hj => NR_c (n4 j hj) (fun z hz => ?_)⟩
      unfold jB
      rw [aP_s (by omega)]
      unfold pbA
      rw [if_neg (by omega)]
end TC
