/-! next, strikes, pays -/
section TC
variable {sc : Nat × (Nat → Int32)} {d y nx : Nat} {hd : List (Int × Nat)} {L st : List Value} {S : kS} {cu su : Nat} {i : Nat → Nat → Int32} {l : Nat → Nat → Int64} {f t c b m : Nat} {sp : Nat → Nat} {K : Option (Option Value) → kS → Prop}
variable {N M Z S1 Q : Nat → Int32} {i1 i2 i3 : Nat → Nat → Int32} {l2 : Nat → Nat → Int64} {n n2 k x : Nat} {v r : Int32} {zs zs2 : List Int64} {le co br acts code co2 br2 : Nat → Int32} {s : Nat × (Nat → Int32)} {w : WN} {u : WM}
theorem c_speakerI {n : Nat} (hf : kRc b = true) (hc : kNc c = true) (hm : i 5 0 = Int32.ofNat m) (h8 : m ≤ 8) (hn : i b 2 = Int32.ofNat n) (h40 : n ≤ 40) : kCA sc (d + 4) 10 [.ref c, .ref 5, .ref b] y nx hd L st ((120, cu, su), rPut i b s, l, kR f t sp) K = kWP sc (d + 4) y nx L (.int (qSpk (i 8) (i 6) m (nGet i c) (i (b + 1)) n) :: st) ((120, cu, su), rPut i b (sSpk (i 8) (i 6) m (nGet i c) (i (b + 1)) n s), l, kR f t sp) K := by
  have W := c_speaker (sc := sc) (d := d) (y := y) (nx := nx) (hd := hd) (L := L) (st := st) (cu := cu) (su := su) (l := l) (f := f) (t := t) (sp := sp) (K := K) (N := nGet i c) (s := s) hf hc hm h8 hn h40
  rw [nP_g] at W
  exact W
theorem c_eagerI {a n : Nat} (hf : kRc b = true) (hc : kNc c = true) (hm : i 5 0 = Int32.ofNat m) (h8 : m ≤ 8) (ha : a < m) (hn : i b 2 = Int32.ofNat n) (h40 : n ≤ 40) : kCA sc (d + 3) 45 [.ref b, .ref 5, .ref c, .int (Int32.ofNat a)] y nx hd L st ((120, cu, su), rPut i b s, l, kR f t sp) K = kWP sc (d + 3) y nx L (.int (pEag (pVal (i 8) (i 6) (Int32.ofNat m) (nGet i c) a) (i (b + 1)) n) :: st) ((120, cu, su), rPut i b (pPop (gEagS (pVal (i 8) (i 6) (Int32.ofNat m) (nGet i c) a) (i (b + 1)) n s.2)), l, kR f t sp) K := by
  have W := c_eager (sc := sc) (d := d) (y := y) (nx := nx) (hd := hd) (L := L) (st := st) (cu := cu) (su := su) (l := l) (f := f) (t := t) (sp := sp) (K := K) (N := nGet i c) (s := s) hf hc hm h8 ha hn h40
  rw [nP_g, pEag_eq, hm] at W
  exact W
theorem wR (hf : kRc b = true) : wPut (rPut i b s) n = rPut (wPut i n) b s := by
  funext c j
  unfold wPut kupi rPut
  dsimp only
  rcases kRc_of hf with rfl | rfl
  · by_cases q : c = 3 ∧ j = 1
    · rw [if_pos q, if_neg (by omega), if_neg (by omega), if_pos q]
    · rw [if_neg q, if_neg q]
  · by_cases q : c = 3 ∧ j = 1
    · rw [if_pos q, if_neg (by omega), if_neg (by omega), if_pos q]
    · rw [if_neg q, if_neg q]
theorem wf2 (hf : kRc b = true) : wPut i n b = i b ∧ wPut i n (b + 1) = i (b + 1) := by
  rcases kRc_of hf with rfl | rfl
  · exact ⟨wP_o (by decide), wP_o (by decide)⟩
  · exact ⟨wP_o (by decide), wP_o (by decide)⟩
theorem nG_w : nGet (wPut i n) 10 = nGet i 10 := nGet_c (wP_o (by decide)) (wP_o (by decide)) (wP_o (by decide))
theorem c_eagerW {a n k : Nat} (hf : kRc b = true) (hm : i 5 0 = Int32.ofNat m) (h8 : m ≤ 8) (ha : a < m) (hn : i b 2 = Int32.ofNat n) (h40 : n ≤ 40) : kCA sc (d + 3) 45 [.ref b, .ref 5, .ref 10, .int (Int32.ofNat a)] y nx hd L st ((120, cu, su), wPut (rPut i b s) k, l, kR f t sp) K = kWP sc (d + 3) y nx L (.int (pEag (pVal (i 8) (i 6) (Int32.ofNat m) (nGet i 10) a) (i (b + 1)) n) :: st) ((120, cu, su), wPut (rPut i b (pPop (gEagS (pVal (i 8) (i 6) (Int32.ofNat m) (nGet i 10) a) (i (b + 1)) n s.2))) k, l, kR f t sp) K := by
  rw [wR hf, c_eagerI (i := wPut i k) hf c10 (show wPut i k 5 0 = Int32.ofNat m from hm) h8 ha (by rw [(wf2 hf).1]; exact hn) h40, ← wR hf, nG_w, (wf2 hf).2]
  rfl
theorem c_next (hf : kRc f = true) (hm : i 5 0 = Int32.ofNat m) (h8 : m ≤ 8) (hn : i f 2 = Int32.ofNat n) (h40 : n ≤ 40) (hq : qSpk (i 8) (i 6) m (nGet i 10) (i (f + 1)) n = -1 ∨ ∃ a, a < m ∧ qSpk (i 8) (i 6) m (nGet i 10) (i (f + 1)) n = Int32.ofNat a) :
    (qSpk (i 8) (i 6) m (nGet i 10) (i (f + 1)) n = -1 → ∃ s2, CC 108 [.ref 0] (rPut i f s) l f t sp (.int (-2)) (wPut (rPut i f s2) 0) l f t sp) ∧
    (∀ a, a < m → qSpk (i 8) (i 6) m (nGet i 10) (i (f + 1)) n = Int32.ofNat a → ∃ s2, CC 108 [.ref 0] (rPut i f s) l f t sp (.int (Int32.ofNat a)) (wPut (rPut i f s2) 2) (tC l 0 [(pFirst (pSay (i 8) (i 10 0) (i 10 1) (Int32.ofNat m) (Int32.ofNat a))).toInt64, (pEag (pVal (i 8) (i 6) (Int32.ofNat m) (nGet i 10) a) (i (f + 1)) n).toInt64]) f t sp) := by
  constructor
  · intro q
    refine ⟨sSpk (i 8) (i 6) m (nGet i 10) (i (f + 1)) n s, ?_⟩
    intro sc d y nx hd L st cu su K
    refine kCA_of (d := d + 499) (v := some (.int _)) (fun K => ?_)
    rw [km_108]
    show kWP sc (d + 499) 108 0 [.ref 0, .retAddr 0] [] _ K = _
    simp only [e_X10_next_0, e_X10_next_1, e_X10_next_4, e_X10_next_5, e_X10_next_8, e_X10_next_9, e_X10_next_12, e_X10_next_15, e_X10_next_16, e_X10_next_17, e_X10_next_20, e_X10_next_23, e_X10_next_24, e_X10_next_25, e_X10_next_28, e_X10_next_30, e_X10_next_31, e_X10_next_32, e_X10_next_35, e_X10_next_36, e_X10_next_39, e_X10_next_40, e_X10_next_43, e_X10_next_44, e_X10_next_47, e_X10_next_50, e_X10_next_51, e_X10_next_54, e_X10_next_55, e_X10_next_58, e_X10_next_59, e_X10_next_62, e_X10_next_63, e_X10_next_66, e_X10_next_67, e_X10_next_70, e_X10_next_71, e_X10_next_74, e_X10_next_75, e_X10_next_78, e_X10_next_79, ob_0, rk_0_3, rk_0_2, rk_0_10, ob_10, ob_13, rk_0_1, ob_3, ob_r hf, kcl_i, kcl_r, kcl_l, kcl_0, kcl_n, true_and, and_true, c_speakerI hf c10 hm h8 hn h40, q, c_start, if_true]
  · intro a ha q
    have na : ¬ Int32.ofNat a = -1 := m1_ne (by omega)
    refine ⟨pPop (gEagS (pVal (i 8) (i 6) (Int32.ofNat m) (nGet i 10) a) (i (f + 1)) n (sSpk (i 8) (i 6) m (nGet i 10) (i (f + 1)) n s).2), ?_⟩
    intro sc d y nx hd L st cu su K
    have hm2 : wPut (rPut i f (sSpk (i 8) (i 6) m (nGet i 10) (i (f + 1)) n s)) 0 5 0 = Int32.ofNat m := by rw [w5, rP_lo hf (by decide)]; exact hm
    have e8 : wPut (rPut i f (sSpk (i 8) (i 6) m (nGet i 10) (i (f + 1)) n s)) 0 8 = i 8 := by rw [wP_o (by decide), rP_lo hf (by decide)]
    have e10 : wPut (rPut i f (sSpk (i 8) (i 6) m (nGet i 10) (i (f + 1)) n s)) 0 10 = i 10 := by rw [w10, rP_lo hf (by decide)]
    refine kCA_of (d := d + 499) (v := some (.int _)) (fun K => ?_)
    rw [km_108]
    show kWP sc (d + 499) 108 0 [.ref 0, .retAddr 0] [] _ K = _
    simp only [e_X10_next_0, e_X10_next_1, e_X10_next_4, e_X10_next_5, e_X10_next_8, e_X10_next_9, e_X10_next_12, e_X10_next_15, e_X10_next_16, e_X10_next_17, e_X10_next_20, e_X10_next_23, e_X10_next_24, e_X10_next_25, e_X10_next_28, e_X10_next_30, e_X10_next_31, e_X10_next_32, e_X10_next_35, e_X10_next_36, e_X10_next_39, e_X10_next_40, e_X10_next_43, e_X10_next_44, e_X10_next_47, e_X10_next_50, e_X10_next_51, e_X10_next_54, e_X10_next_55, e_X10_next_58, e_X10_next_59, e_X10_next_62, e_X10_next_63, e_X10_next_66, e_X10_next_67, e_X10_next_70, e_X10_next_71, e_X10_next_74, e_X10_next_75, e_X10_next_78, e_X10_next_79, ob_0, rk_0_3, rk_0_2, rk_0_10, ob_10, ob_13, rk_0_1, ob_3, ob_r hf, kcl_i, kcl_r, kcl_l, kcl_0, kcl_n, true_and, and_true, c_speakerI hf c10 hm h8 hn h40, q, na, c_start, if_false, c_sayable c10 hm2 h8, hm2, e8, e10, c_firstOf, c_radd (show 0 < 128 by decide), c_radd (show 0 + 1 < 128 by decide), c_eagerW hf hm h8 ha hn h40]
    rfl
theorem vM (hb : mRow b = true) : vPut (mS i b u) n = mS (vPut i n) b u := by
  funext c j
  unfold vPut kupi mS mPut
  dsimp only
  by_cases q : c = 91 ∧ j = 1
  · rw [if_pos q, if_neg (by rcases mRow_of hb with rfl | rfl <;> omega), if_neg (by omega), if_neg (by omega), if_neg (by omega), if_pos q]
  · rw [if_neg q, if_neg q]
theorem m_speakerS {n2 : Nat} (hb : mRow b = true) (hm : i 91 3 = Int32.ofNat m) (h8 : m ≤ 8) (hn : i 91 19 = Int32.ofNat n2) (hc : codeOk (i 100) n2) : kCA sc (d + 5) 202 [.ref 91, .ref b] y nx hd L st ((120, cu, su), mS i b u, l, kR f t sp) K = kWP sc (d + 5) y nx L (.int (rSpk (mCo i) (i 94) u.1 m (i 100) n2 u.2.2.1 u.2.2.2).1 :: st) ((120, cu, su), mS i b (u.1, u.2.1, (rSpk (mCo i) (i 94) u.1 m (i 100) n2 u.2.2.1 u.2.2.2).2.1, (rSpk (mCo i) (i 94) u.1 m (i 100) n2 u.2.2.1 u.2.2.2).2.2), l, kR f t sp) K := m_speaker hb hm h8 hn hc.1 hc.2.1 hc.2.2.1
theorem m_eagerV {a n2 k : Nat} (hb : mRow b = true) (h8 : m ≤ 8) (ha : a < m) (hn : i 91 19 = Int32.ofNat n2) (hc : codeOk (i 100) n2) : kCA sc (d + 4) 190 [.ref 91, .ref b, .int (Int32.ofNat a)] y nx hd L st ((120, cu, su), vPut (mS i b u) k, l, kR f t sp) K = kWP sc (d + 4) y nx L (.int (eR (mCo i) (i 94) u.1 m (i 100) n2 a) :: st) ((120, cu, su), vPut (mS i b (u.1, u.2.1, sRul (i 100) (qAsk (mCo i) (i 94) u.1 u.2.2.2 m a) n2 u.2.2.1, qAsk (mCo i) (i 94) u.1 u.2.2.2 m a)) k, l, kR f t sp) K := by
  rw [vM hb, vM hb]
  have W := m_eager (sc := sc) (d := d) (y := y) (nx := nx) (hd := hd) (L := L) (st := st) (cu := cu) (su := su) (l := l) (f := f) (t := t) (sp := sp) (K := K) (i := vPut i k) (M := u.1) (Z := u.2.1) (S1 := u.2.2.1) (Q := u.2.2.2) (n := n2) hb h8 ha hn hc.1 hc.2.1
  rw [show vPut i k 100 = i 100 from vP_o (by decide), eRef_eq hc.2.1 hc.2.2.1] at W
  exact W
theorem uS0 : mS (uPut i) 96 (i 96, i 91, i 102, i 103) = uPut i := by
  funext c j
  unfold mS mPut
  by_cases z0 : c = 96 ∧ j < 25
  · rw [if_pos z0, z0.1]; rfl
  · rw [if_neg z0]
    by_cases z1 : c = 91 ∧ 25 ≤ j ∧ j < 29
    · rw [if_pos z1, z1.1, uP_f (by omega)]
    · rw [if_neg z1]
      by_cases z2 : c = 102 ∧ j < 80
      · rw [if_pos z2, z2.1]; rfl
      · rw [if_neg z2]
        by_cases z3 : c = 103 ∧ j < 7
        · rw [if_pos z3, z3.1]; rfl
        · rw [if_neg z3]
def mNx (i : Nat → Nat → Int32) (m n2 : Nat) : Int32 := (rSpk (mCo i) (i 94) (i 96) m (i 100) n2 (i 102) (i 103)).1
theorem m_next (hm : uPut i 91 3 = Int32.ofNat m) (h8 : m ≤ 8) (hn : uPut i 91 19 = Int32.ofNat n2) (hc : codeOk (uPut i 100) n2) :
    (mNx (uPut i) m n2 = -1 → ∃ S2 Q2, CC 213 [.ref 91] i l f t sp (.int (-2)) (vPut (mS (uPut i) 96 (i 96, i 91, S2, Q2)) 0) l f t sp) ∧
    (∀ a, a < m → mNx (uPut i) m n2 = Int32.ofNat a → ¬ pSay (mCo i) (i 96 17) (i 96 18) (Int32.ofNat m) (Int32.ofNat a) = 0 → ∃ S2 Q2, CC 213 [.ref 91] i l f t sp (.int (Int32.ofNat a)) (vPut (mS (uPut i) 96 (i 96, i 91, S2, Q2)) 2) (tR l 0 [(pFirst (pSay (mCo i) (i 96 17) (i 96 18) (Int32.ofNat m) (Int32.ofNat a))).toInt64, (eR (mCo i) (i 94) (i 96) m (i 100) n2 a).toInt64]) f t sp) := by
  have hE : ((i 96, i 91, i 102, i 103) : WM) = u0 i := rfl
  constructor
  · intro q
    refine ⟨(rSpk (mCo (uPut i)) (uPut i 94) (i 96) m (uPut i 100) n2 (i 102) (i 103)).2.1, (rSpk (mCo (uPut i)) (uPut i 94) (i 96) m (uPut i 100) n2 (i 102) (i 103)).2.2, ?_⟩
    intro sc d y nx hd L st cu su K
    have q' : (rSpk (mCo (uPut i)) (uPut i 94) (i 96) m (uPut i 100) n2 (i 102) (i 103)).1 = -1 := q
    refine kCA_of (d := d + 499) (v := some (.int _)) (fun K => ?_)
    rw [km_213]
    show kWP sc (d + 499) 213 0 [.ref 91, .retAddr 0] [] _ K = _
    have hs := m_speakerS (sc := sc) (d := d + 494) (y := 213) (nx := 13) (hd := []) (L := [.ref 91, .retAddr 0]) (st := []) (cu := cu) (su := su) (l := l) (f := f) (t := t) (sp := sp) (K := K) (i := uPut i) (u := (i 96, i 91, i 102, i 103)) (n2 := n2) b96 hm h8 hn hc
    rw [uS0] at hs
    simp only [e_X11_next_0, e_X11_next_1, e_X11_next_2, e_X11_next_5, e_X11_next_6, e_X11_next_7, e_X11_next_10, e_X11_next_13, e_X11_next_14, e_X11_next_15, e_X11_next_16, e_X11_next_19, e_X11_next_20, e_X11_next_23, e_X11_next_24, e_X11_next_25, e_X11_next_26, e_X11_next_29, e_X11_next_30, e_X11_next_33, e_X11_next_36, e_X11_next_37, e_X11_next_40, e_X11_next_41, e_X11_next_42, e_X11_next_43, e_X11_next_46, e_X11_next_47, e_X11_next_50, e_X11_next_51, e_X11_next_54, e_X11_next_55, e_X11_next_58, ob_91, rk_91_8, ar_96, kcl_i, kcl_r, kcl_l, kcl_0, kcl_n, true_and, and_true, uP_0]
    refine hs.trans ?_
    simp only [e_X11_next_0, e_X11_next_1, e_X11_next_2, e_X11_next_5, e_X11_next_6, e_X11_next_7, e_X11_next_10, e_X11_next_13, e_X11_next_14, e_X11_next_15, e_X11_next_16, e_X11_next_19, e_X11_next_20, e_X11_next_23, e_X11_next_24, e_X11_next_25, e_X11_next_26, e_X11_next_29, e_X11_next_30, e_X11_next_33, e_X11_next_36, e_X11_next_37, e_X11_next_40, e_X11_next_41, e_X11_next_42, e_X11_next_43, e_X11_next_46, e_X11_next_47, e_X11_next_50, e_X11_next_51, e_X11_next_54, e_X11_next_55, e_X11_next_58, ob_91, rk_91_8, ar_96, kcl_i, kcl_r, kcl_l, kcl_0, kcl_n, true_and, and_true, q', vP_0, show ((-1 : Int32) < 0) = True from eq_true (by decide), if_true, m_orNobody]
  · intro a ha q hsay
    obtain ⟨k, hk, e1, e2, _⟩ := ntz_of (b8_say (b8_mCo (i := i))) hsay
    refine ⟨sRul (uPut i 100) (qAsk (mCo (uPut i)) (uPut i 94) (i 96) (rSpk (mCo (uPut i)) (uPut i 94) (i 96) m (uPut i 100) n2 (i 102) (i 103)).2.2 m a) n2 (rSpk (mCo (uPut i)) (uPut i 94) (i 96) m (uPut i 100) n2 (i 102) (i 103)).2.1, qAsk (mCo (uPut i)) (uPut i 94) (i 96) (rSpk (mCo (uPut i)) (uPut i 94) (i 96) m (uPut i 100) n2 (i 102) (i 103)).2.2 m a, ?_⟩
    intro sc d y nx hd L st cu su K
    have q' : (rSpk (mCo (uPut i)) (uPut i 94) (i 96) m (uPut i 100) n2 (i 102) (i 103)).1 = Int32.ofNat a := q
    refine kCA_of (d := d + 499) (v := some (.int _)) (fun K => ?_)
    rw [km_213]
    show kWP sc (d + 499) 213 0 [.ref 91, .retAddr 0] [] _ K = _
    have hs := m_speakerS (sc := sc) (d := d + 494) (y := 213) (nx := 13) (hd := []) (L := [.ref 91, .retAddr 0]) (st := []) (cu := cu) (su := su) (l := l) (f := f) (t := t) (sp := sp) (K := K) (i := uPut i) (u := (i 96, i 91, i 102, i 103)) (n2 := n2) b96 hm h8 hn hc
    rw [uS0] at hs
    simp only [e_X11_next_0, e_X11_next_1, e_X11_next_2, e_X11_next_5, e_X11_next_6, e_X11_next_7, e_X11_next_10, e_X11_next_13, e_X11_next_14, e_X11_next_15, e_X11_next_16, e_X11_next_19, e_X11_next_20, e_X11_next_23, e_X11_next_24, e_X11_next_25, e_X11_next_26, e_X11_next_29, e_X11_next_30, e_X11_next_33, e_X11_next_36, e_X11_next_37, e_X11_next_40, e_X11_next_41, e_X11_next_42, e_X11_next_43, e_X11_next_46, e_X11_next_47, e_X11_next_50, e_X11_next_51, e_X11_next_54, e_X11_next_55, e_X11_next_58, ob_91, rk_91_8, ar_96, kcl_i, kcl_r, kcl_l, kcl_0, kcl_n, true_and, and_true, uP_0]
    refine hs.trans ?_
    have eM : ∀ S2 Q2, mCo (vPut (mS (uPut i) 96 (i 96, i 91, S2, Q2)) 0) = mCo i := by
      intro S2 Q2
      rw [vM b96]
      unfold mS
      rw [mCo_m b96]; rfl
    have e17 : ∀ S2 Q2, vPut (mS (uPut i) 96 (i 96, i 91, S2, Q2)) 0 96 17 = i 96 17 := fun _ _ => by rw [v96, mS_r (by decide)]
    have e18 : ∀ S2 Q2, vPut (mS (uPut i) 96 (i 96, i 91, S2, Q2)) 0 96 18 = i 96 18 := fun _ _ => by rw [v96, mS_r (by decide)]
    simp only [e_X11_next_0, e_X11_next_1, e_X11_next_2, e_X11_next_5, e_X11_next_6, e_X11_next_7, e_X11_next_10, e_X11_next_13, e_X11_next_14, e_X11_next_15, e_X11_next_16, e_X11_next_19, e_X11_next_20, e_X11_next_23, e_X11_next_24, e_X11_next_25, e_X11_next_26, e_X11_next_29, e_X11_next_30, e_X11_next_33, e_X11_next_36, e_X11_next_37, e_X11_next_40, e_X11_next_41, e_X11_next_42, e_X11_next_43, e_X11_next_46, e_X11_next_47, e_X11_next_50, e_X11_next_51, e_X11_next_54, e_X11_next_55, e_X11_next_58, ob_91, rk_91_8, ar_96, kcl_i, kcl_r, kcl_l, kcl_0, kcl_n, true_and, and_true, q', vP_0, tn_lt0 (show a < 2147483648 by omega), if_false, m_orNobody, m_canSay b96 ha h8, eM, e17, e18, c_ntz (show k < 9 by omega) e2, m_enters (show 0 < 256 by decide), m_enters (show 0 + 1 < 256 by decide), m_eagerV b96 h8 ha hn hc, e1]
    rfl
theorem ag_now96 {A B C : Nat → Int32} (h : kAg kSc i i2) (e : ∀ j, j < 25 → A j = i2 96 j) : kAg kSc i (mS i2 96 (A, Z, B, C)) := by
  intro c j hq
  unfold mS mPut
  by_cases z0 : c = 96 ∧ j < 25
  · have w := h c j hq
    rw [z0.1] at w ⊢
    rw [if_pos ⟨rfl, z0.2⟩]; dsimp only; rw [e j z0.2]; exact w
  · rw [if_neg z0]
    by_cases z1 : c = 91 ∧ 25 ≤ j ∧ j < 29
    · have := sc_91 j z1.2.1 z1.2.2; rw [← z1.1, hq] at this; exact absurd this (by decide)
    · rw [if_neg z1]
      by_cases z2 : c = 102 ∧ j < 80
      · have g : kSc 102 j = true := rfl
        rw [z2.1, g] at hq; exact absurd hq (by decide)
      · rw [if_neg z2]
        by_cases z3 : c = 103 ∧ j < 7
        · have g : kSc 103 j = true := rfl
          rw [z3.1, g] at hq; exact absurd hq (by decide)
        · rw [if_neg z3]; exact h c j hq
theorem J_next (h : IV m i l f t sp) : JJ 108 213 [] i l f t sp := by
  obtain ⟨⟨h5, h91, h8, e9, hle, hp⟩, _, _, hN, _⟩ := id h
  obtain ⟨n, n2, e2, h40, e19, hr, hf⟩ := IV_rule h
  have hNow := IV_now h
  have hq : qSpk (i 8) (i 6) m (nGet i 10) (i (f + 1)) n = (rSpk (mCo i) (i 94) (i 96) m (i 100) n2 (i 102) (i 103)).1 := spk_eq (fun a ha => (hp a ha).2.2) (fun a ha => (hp a ha).1) h8 hN.1 hr
  have ok := @rSpk_ok m (i 96) (i 102) (i 103) (mCo i) (i 94) n2 (i 100) h8
  rw [← hq] at ok
  have C := c_next (s := rGet i f) (l := l) (t := t) (sp := sp) hf h5 h8 e2 h40 (by
    rcases ok with e | ⟨a, ha, e, _⟩
    · exact Or.inl e
    · exact Or.inr ⟨a, ha, e⟩)
  rw [rP_g] at C
  rcases ok with e | ⟨a, ha, e, hs⟩
  · obtain ⟨s2, hC⟩ := C.1 e
    have ag : kAg kSc i (uPut (wPut (rPut i f s2) 0)) := ag_uu (ag_w (ag_stack hf ag_r))
    obtain ⟨c0, c1, c2, c3, c4⟩ := ag_cells ag
    have R := RF_of h e19 hr ag
    have Mx : mNx (uPut (wPut (rPut i f s2) 0)) m n2 = -1 := by
      unfold mNx
      rw [c0, c2, c3, c4]
      have : uPut (wPut (rPut i f s2) 0) 102 = i 102 ∧ uPut (wPut (rPut i f s2) 0) 103 = i 103 := by
        unfold uPut
        rw [kupi_cf (by decide), kupi_cf (by decide), wP_o (by decide), wP_o (by decide), rP_hi hf (by decide), rP_hi hf (by decide)]
        exact ⟨rfl, rfl⟩
      rw [this.1, this.2, ← hq]; exact e
    obtain ⟨S2, Q2, hM⟩ := (m_next (i := wPut (rPut i f s2) 0) (l := l) (f := f) (t := t) (sp := sp) R.1 h8 R.2.2.1 R.2.2.2.1).1 Mx
    exact JJ_q h (-2) 0 (rPut i f s2) (mS (uPut (wPut (rPut i f s2) 0)) 96 (wPut (rPut i f s2) 0 96, wPut (rPut i f s2) 0 91, S2, Q2)) [] rfl (by decide) (ag_stack hf ag_r) (ag_now96 (ag_uu ag_r) (fun _ _ => rfl)) rfl hC hM
  · obtain ⟨s2, hC⟩ := C.2 a ha e
    have ag : kAg kSc i (uPut (wPut (rPut i f s2) 2)) := ag_uu (ag_w (ag_stack hf ag_r))
    obtain ⟨c0, c1, c2, c3, c4⟩ := ag_cells ag
    have R := RF_of h e19 hr ag
    have Mx : mNx (uPut (wPut (rPut i f s2) 2)) m n2 = Int32.ofNat a := by
      unfold mNx
      rw [c0, c2, c3, c4]
      have : uPut (wPut (rPut i f s2) 2) 102 = i 102 ∧ uPut (wPut (rPut i f s2) 2) 103 = i 103 := by
        unfold uPut
        rw [kupi_cf (by decide), kupi_cf (by decide), wP_o (by decide), wP_o (by decide), rP_hi hf (by decide), rP_hi hf (by decide)]
        exact ⟨rfl, rfl⟩
      rw [this.1, this.2, ← hq]; exact e
    have ag1 : kAg kSc i (wPut (rPut i f s2) 2) := ag_w (ag_stack hf ag_r)
    obtain ⟨d0, d1, d2, d3, d4⟩ := ag_cells ag1
    have eS : pSay (i 8) (i 10 0) (i 10 1) (Int32.ofNat m) (Int32.ofNat a) = pSay (mCo i) (i 96 17) (i 96 18) (Int32.ofNat m) (Int32.ofNat a) := by
      rw [hNow.1, hNow.2.1]; exact pSay_c (fun a ha => (hp a ha).2.2) h8 ha
    have eE : pEag (pVal (i 8) (i 6) (Int32.ofNat m) (nGet i 10) a) (i (f + 1)) n = eR (mCo i) (i 94) (i 96) m (i 100) n2 a := eR_eq (fun a ha => (hp a ha).2.2) (fun a ha => (hp a ha).1) h8 ha hN.1 hr
    obtain ⟨S2, Q2, hM⟩ := (m_next (i := wPut (rPut i f s2) 2) (l := tC l 0 [(pFirst (pSay (i 8) (i 10 0) (i 10 1) (Int32.ofNat m) (Int32.ofNat a))).toInt64, (pEag (pVal (i 8) (i 6) (Int32.ofNat m) (nGet i 10) a) (i (f + 1)) n).toInt64]) (f := f) (t := t) (sp := sp) R.1 h8 R.2.2.1 R.2.2.2.1).2 a ha Mx (by rw [d0, d4]; exact hs)
    rw [d0, d2, d3, d4, ← eS, ← eE] at hM
    exact JJ_q h (Int32.ofNat a) 2 (rPut i f s2) (mS (uPut (wPut (rPut i f s2) 2)) 96 (wPut (rPut i f s2) 2 96, wPut (rPut i f s2) 2 91, S2, Q2)) _ rfl (by decide) (ag_stack hf ag_r) (ag_now96 (ag_uu ag_r) (fun _ _ => rfl)) rfl hC (by rw [d4]; exact hM)
end TC
