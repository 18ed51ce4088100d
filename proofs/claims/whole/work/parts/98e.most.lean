/-! most -/
section TC
variable {sc : Nat × (Nat → Int32)} {d y nx : Nat} {hd : List (Int × Nat)} {L st : List Value} {S : kS} {cu su : Nat} {i : Nat → Nat → Int32} {l : Nat → Nat → Int64} {f t c b m : Nat} {sp : Nat → Nat} {K : Option (Option Value) → kS → Prop}
variable {N M Z S1 Q : Nat → Int32} {i1 i2 i3 : Nat → Nat → Int32} {l2 : Nat → Nat → Int64} {n k x : Nat} {v r : Int32} {zs zs2 : List Int64} {le : Nat → Int32}
theorem pMin_if {v : Int32} : kfo (fun x s => if (v >>> (Int32.ofNat x &&& 31)) &&& 1 = 1 then s + le x else s + 0) 8 0 = pMin le v := by
  unfold pMin
  apply kfo_congr
  intro x hx s
  rcases @pBit_or v 0 x with q | q
  · have q' : (v >>> (Int32.ofNat x &&& 31)) &&& 1 = 0 := q
    rw [q', q, if_neg (by decide), Int32.zero_mul]
  · have q' : (v >>> (Int32.ofNat x &&& 31)) &&& 1 = 1 := q
    rw [q', q, if_pos rfl, Int32.one_mul]
theorem m_longOf {v : Int32} : kCA sc (d + 2) 228 [.ref 91, .int v] y nx hd L st ((120, cu, su), i, l, kR f t sp) K = kWP sc (d + 2) y nx L (.int (pMin (i 93) v) :: st) ((120, cu, su), i, l, kR f t sp) K := by
  refine kCA_of (d := d + 1) (v := some (.int (pMin (i 93) v))) (S2 := ((120, cu, su), i, l, kR f t sp)) (fun K => ?_)
  rw [km_228]
  show kWP sc (d + 1) 228 0 [.ref 91, .int v, .retAddr 0, .retAddr 0] [] ((120, cu, su), i, l, kR f t sp) K = K (some (some (.int (pMin (i 93) v)))) ((120, cu, su), i, l, kR f t sp)
  simp only [e_X11_longOf_0, e_X11_longOf_1, e_X11_longOf_2, e_X11_longOf_3, e_X11_longOf_5, e_X11_longOf_7, e_X11_longOf_10, e_X11_longOf_11, e_X11_longOf_12, e_X11_longOf_13, e_X11_longOf_16, e_X11_longOf_19, e_X11_longOf_20, e_X11_longOf_23, e_X11_longOf_24, e_X11_longOf_25, e_X11_longOf_28, e_X11_longOf_29, e_X11_longOf_30, e_X11_longOf_31, e_X11_longOf_34, e_X11_longOf_37, e_X11_longOf_38, ob_91, rk_91_5, ar_93, kcl_i, kcl_r, kcl_l, kcl_0, kcl_n, true_and, and_true]
  refine (k_for (P := fun x s => kWP sc (d + 1) 228 4 [.ref 91, .int v, .int s, .int (Int32.ofNat x)] [] ((120, cu, su), i, l, kR f t sp) K) (n := 8) (g := fun x s => if (v >>> (Int32.ofNat x &&& 31)) &&& 1 = 1 then s + i 93 x else s + 0) ?_ 0).trans ?_
  · intro x s hx
    refine e_X11_longOf_4.trans ?_
    simp only [e_X11_longOf_0, e_X11_longOf_1, e_X11_longOf_2, e_X11_longOf_3, e_X11_longOf_5, e_X11_longOf_7, e_X11_longOf_10, e_X11_longOf_11, e_X11_longOf_12, e_X11_longOf_13, e_X11_longOf_16, e_X11_longOf_19, e_X11_longOf_20, e_X11_longOf_23, e_X11_longOf_24, e_X11_longOf_25, e_X11_longOf_28, e_X11_longOf_29, e_X11_longOf_30, e_X11_longOf_31, e_X11_longOf_34, e_X11_longOf_37, e_X11_longOf_38, ob_91, rk_91_5, ar_93, kcl_i, kcl_r, kcl_l, kcl_0, kcl_n, true_and, and_true, jp8 hx, if_false, kin8 hx, cl_n (show x < 100000 by omega), m_has, kb_0, tn_s]
    by_cases q : (v >>> (Int32.ofNat x &&& 31)) &&& 1 = 1
    · simp only [q, not_true_eq_false, if_true, if_false]
    · simp only [q, not_false_eq_true, if_true, if_false]
  · refine e_X11_longOf_4.trans ?_
    simp only [e_X11_longOf_0, e_X11_longOf_1, e_X11_longOf_2, e_X11_longOf_3, e_X11_longOf_5, e_X11_longOf_7, e_X11_longOf_10, e_X11_longOf_11, e_X11_longOf_12, e_X11_longOf_13, e_X11_longOf_16, e_X11_longOf_19, e_X11_longOf_20, e_X11_longOf_23, e_X11_longOf_24, e_X11_longOf_25, e_X11_longOf_28, e_X11_longOf_29, e_X11_longOf_30, e_X11_longOf_31, e_X11_longOf_34, e_X11_longOf_37, e_X11_longOf_38, ob_91, rk_91_5, ar_93, kcl_i, kcl_r, kcl_l, kcl_0, kcl_n, true_and, and_true, jp88, if_true, pMin_if]
def pMore (le : Nat → Int32) (a b : Int32) : Prop := 0 < pBC a - pBC b ∨ (pBC a - pBC b = 0 ∧ pMin le a < pMin le b)
def gMost (le : Nat → Int32) (pool v : Int32) (x : Nat) (best : Int32) : Int32 := if Int32.ofNat x &&& (pool ^^^ (-1)) = 0 then (if v < pMin le (Int32.ofNat x) then best else if 0 < pBC (Int32.ofNat x) - pBC best then Int32.ofNat x else if pBC (Int32.ofNat x) - pBC best = 0 then (if pMin le best ≤ pMin le (Int32.ofNat x) then best else Int32.ofNat x) else best) else best
def pIsMore (le : Nat → Int32) (a b : Int32) : Int32 := if 0 < pBC a - pBC b then 1 else if pBC a - pBC b = 0 then (if pMin le b ≤ pMin le a then 0 else 1) else 0
theorem c_isMore {p q : Int32} : kCA sc (d + 2) 144 [.ref 0, .int p, .int q] y nx hd L st ((120, cu, su), i, l, kR f t sp) K = kWP sc (d + 2) y nx L (.int (pIsMore (i 9) p q) :: st) ((120, cu, su), i, l, kR f t sp) K := by
  refine kCA_of (d := d + 1) (v := some (.int (pIsMore (i 9) p q))) (S2 := ((120, cu, su), i, l, kR f t sp)) (fun K => ?_)
  rw [km_144]
  show kWP sc (d + 1) 144 0 [.ref 0, .int p, .int q, .retAddr 0] [] ((120, cu, su), i, l, kR f t sp) K = K (some (some (.int (pIsMore (i 9) p q)))) ((120, cu, su), i, l, kR f t sp)
  simp only [e_X10_isMore_0, e_X10_isMore_1, e_X10_isMore_4, e_X10_isMore_5, e_X10_isMore_8, e_X10_isMore_9, e_X10_isMore_10, e_X10_isMore_11, e_X10_isMore_14, e_X10_isMore_15, e_X10_isMore_18, e_X10_isMore_19, e_X10_isMore_22, e_X10_isMore_23, e_X10_isMore_26, e_X10_isMore_27, e_X10_isMore_30, e_X10_isMore_31, e_X10_isMore_34, e_X10_isMore_37, e_X10_isMore_38, e_X10_isMore_41, e_X10_isMore_42, ob_0, rk_0_2, ob_5, kcl_i, kcl_r, kcl_l, kcl_0, kcl_n, true_and, and_true, c_bitCount, c_minutes, kbool_0, kbool_1]
  unfold pIsMore
  by_cases q1 : 0 < pBC p - pBC q
  · simp only [q1, if_true]
  · by_cases q2 : pBC p - pBC q = 0
    · by_cases q3 : pMin (i 9) q ≤ pMin (i 9) p
      · simp only [q2, q3, Int32.lt_irrefl, if_true, if_false]
      · simp only [q2, q3, Int32.lt_irrefl, if_true, if_false]
    · simp only [q1, q2, if_false]
theorem sub_le {x p : Nat} (hx : x < 256) (hp : p < 256) (h : Int32.ofNat x &&& (Int32.ofNat p ^^^ (-1)) = 0) : x ≤ p := by
  have : x &&& p = x := by
    apply Nat.eq_of_testBit_eq
    intro j
    rw [Nat.testBit_and]
    by_cases hj : j < 32
    · have e : tb (Int32.ofNat x &&& (Int32.ofNat p ^^^ (-1))) j = false := by rw [h]; exact tb_0
      rw [tb_and, tb_not hj, tb_nat (by omega), tb_nat (by omega)] at e
      cases h1 : x.testBit j
      · rfl
      · rw [h1] at e
        cases h2 : p.testBit j
        · rw [h2] at e; exact absurd e (by decide)
        · rfl
    · have : x.testBit j = false := Nat.testBit_lt_two_pow (Nat.lt_of_lt_of_le hx (Nat.pow_le_pow_right (n := 2) (i := 8) (by decide) (show 8 ≤ j by omega)))
      rw [this]; rfl
  have h2 := @Nat.and_le_right x p
  omega
theorem gMost_0 {pool v : Int32} : gMost le pool v 0 0 = 0 := by
  unfold gMost
  split
  · split
    · rfl
    · split
      · rfl
      · split
        · split <;> rfl
        · rfl
  · rfl
theorem most_all {p : Nat} (hp : p < 256) : kfo (fun x => gMost le (Int32.ofNat p) v (x + 1)) 255 0 = kfo (gMost le (Int32.ofNat p) v) (p + 1) 0 := by
  have h1 := kfo_shift (g := gMost le (Int32.ofNat p) v) (n := 255) (a := 0)
  rw [gMost_0] at h1
  rw [← h1]
  have h2 := kfo_tail (g := gMost le (Int32.ofNat p) v) (n := p + 1) (a := 0) (255 - p) (fun x b hx hx2 => by
    unfold gMost
    rw [if_neg (fun e => by have := sub_le (x := x) (by omega) hp e; omega)])
  rw [show p + 1 + (255 - p) = 255 + 1 by omega] at h2
  exact h2
theorem m_most {a p : Nat} (ha : a < m) (h91 : i 91 3 = Int32.ofNat m) (h8 : m ≤ 8) (hv : ¬ v < 0 ∧ ¬ 60 < v) (hp : p < 256) (hpool : mCo i a &&& (i 96 17 ^^^ (-1)) = Int32.ofNat p) : CC 229 [.ref 91, .int (Int32.ofNat a), .int v] i l f t sp (.int (pBC (kfo (gMost (i 93) (Int32.ofNat p) v) (p + 1) 0))) (vPut (uPut i) 1) (tR l 0 [(kfo (gMost (i 93) (Int32.ofNat p) v) (p + 1) 0).toInt64]) f t sp := by
  intro sc d y nx hd L st cu su K
  have hH : pHas (Int32.ofNat m) (Int32.ofNat a) = true := by rw [pHas_iff, tn_n0 (by omega), tn_le (by omega) (by omega)]; exact ⟨id, by omega⟩
  have h91' : uPut i 91 3 = Int32.ofNat m := h91
  have hpool' : pAble (i 93) (i 94 a) (i 95 a) &&& (i 96 17 ^^^ (-1)) = Int32.ofNat p := hpool
  refine kCA_of (d := d + 499) (v := some (.int _)) (fun K => ?_)
  rw [km_229]
  show kWP sc (d + 499) 229 0 [.ref 91, .int (Int32.ofNat a), .int v, .retAddr 0, .retAddr 0, .retAddr 0, .retAddr 0] [] _ K = _
  simp only [e_X11_most_0, e_X11_most_1, e_X11_most_2, e_X11_most_5, e_X11_most_6, e_X11_most_7, e_X11_most_10, e_X11_most_13, e_X11_most_14, e_X11_most_15, e_X11_most_16, e_X11_most_19, e_X11_most_22, e_X11_most_25, e_X11_most_26, e_X11_most_27, e_X11_most_28, e_X11_most_29, e_X11_most_32, e_X11_most_33, e_X11_most_36, e_X11_most_38, e_X11_most_39, e_X11_most_40, e_X11_most_41, e_X11_most_42, e_X11_most_43, e_X11_most_44, e_X11_most_46, e_X11_most_47, e_X11_most_51, e_X11_most_52, e_X11_most_55, e_X11_most_57, e_X11_most_58, e_X11_most_59, e_X11_most_60, e_X11_most_61, e_X11_most_64, e_X11_most_65, e_X11_most_67, e_X11_most_70, e_X11_most_71, e_X11_most_74, e_X11_most_76, e_X11_most_79, e_X11_most_81, e_X11_most_84, e_X11_most_85, e_X11_most_87, e_X11_most_89, e_X11_most_92, e_X11_most_94, e_X11_most_97, e_X11_most_98, e_X11_most_100, e_X11_most_103, e_X11_most_104, e_X11_most_106, e_X11_most_109, e_X11_most_112, e_X11_most_114, e_X11_most_117, e_X11_most_119, e_X11_most_121, e_X11_most_124, e_X11_most_127, e_X11_most_128, e_X11_most_129, e_X11_most_132, e_X11_most_133, e_X11_most_135, e_X11_most_136, e_X11_most_139, e_X11_most_141, e_X11_most_144, ob_91, rk_91_8, ar_96, kcl_i, kcl_r, kcl_l, kcl_0, kcl_n, true_and, and_true, uP_0, m_isMan h91' h8, hH, l0, l60, m_in, m_inI, kb_0, hv, not_true_eq_false, not_false_eq_true, and_self, if_false, if_true, m_able (show a < 8 by omega), u93, u94, u95, u96, ki17, ni17, hpool']
  have E := k_lq (n := p + 1) (Q := fun x (w : Int32 × Value) => kWP sc (d + 499) 229 49 [.ref 91, .int (Int32.ofNat a), .int v, .int (Int32.ofNat p), .int w.1, .int (Int32.ofNat x), w.2] [] ((120, cu, su), uPut i, l, kR f t sp) K) (I := fun x w => w.1 = kfo (gMost (i 93) (Int32.ofNat p) v) x 0) (b0 := (0, .retAddr 0)) ?_ rfl
  · obtain ⟨⟨w, v5⟩, hw, e⟩ := E
    have hw' : w = kfo (gMost (i 93) (Int32.ofNat p) v) (p + 1) 0 := hw
    refine e.trans ?_
    refine e_X11_most_49.trans ?_
    have c1 : (Int32.ofNat p < Int32.ofNat (p + 1)) = True := by rw [tn_lt (by omega) (by omega)]; exact eq_true (by omega)
    simp only [e_X11_most_0, e_X11_most_1, e_X11_most_2, e_X11_most_5, e_X11_most_6, e_X11_most_7, e_X11_most_10, e_X11_most_13, e_X11_most_14, e_X11_most_15, e_X11_most_16, e_X11_most_19, e_X11_most_22, e_X11_most_25, e_X11_most_26, e_X11_most_27, e_X11_most_28, e_X11_most_29, e_X11_most_32, e_X11_most_33, e_X11_most_36, e_X11_most_38, e_X11_most_39, e_X11_most_40, e_X11_most_41, e_X11_most_42, e_X11_most_43, e_X11_most_44, e_X11_most_46, e_X11_most_47, e_X11_most_51, e_X11_most_52, e_X11_most_55, e_X11_most_57, e_X11_most_58, e_X11_most_59, e_X11_most_60, e_X11_most_61, e_X11_most_64, e_X11_most_65, e_X11_most_67, e_X11_most_70, e_X11_most_71, e_X11_most_74, e_X11_most_76, e_X11_most_79, e_X11_most_81, e_X11_most_84, e_X11_most_85, e_X11_most_87, e_X11_most_89, e_X11_most_92, e_X11_most_94, e_X11_most_97, e_X11_most_98, e_X11_most_100, e_X11_most_103, e_X11_most_104, e_X11_most_106, e_X11_most_109, e_X11_most_112, e_X11_most_114, e_X11_most_117, e_X11_most_119, e_X11_most_121, e_X11_most_124, e_X11_most_127, e_X11_most_128, e_X11_most_129, e_X11_most_132, e_X11_most_133, e_X11_most_135, e_X11_most_136, e_X11_most_139, e_X11_most_141, e_X11_most_144, ob_91, rk_91_8, ar_96, kcl_i, kcl_r, kcl_l, kcl_0, kcl_n, true_and, and_true, c1, if_true, vP_0, m_enters (show 0 < 256 by decide), c_bitCount]
    rw [← hw']
    rfl
  · intro x ⟨w, v5⟩ hx hI
    have hI1' : w = kfo (gMost (i 93) (Int32.ofNat p) v) x 0 := hI
    have c1 : (Int32.ofNat p < Int32.ofNat x) = False := by rw [tn_lt (by omega) (by omega)]; exact eq_false (by omega)
    refine ⟨(gMost (i 93) (Int32.ofNat p) v x w, if Int32.ofNat x &&& (Int32.ofNat p ^^^ (-1)) = 0 ∧ ¬ v < pMin (i 93) (Int32.ofNat x) then .int (pBC (Int32.ofNat x) - pBC w) else v5), ?_, ?_⟩
    · show gMost (i 93) (Int32.ofNat p) v x w = gMost (i 93) (Int32.ofNat p) v x (kfo (gMost (i 93) (Int32.ofNat p) v) x 0)
      rw [hI1']
    · refine e_X11_most_49.trans ?_
      simp only [e_X11_most_0, e_X11_most_1, e_X11_most_2, e_X11_most_5, e_X11_most_6, e_X11_most_7, e_X11_most_10, e_X11_most_13, e_X11_most_14, e_X11_most_15, e_X11_most_16, e_X11_most_19, e_X11_most_22, e_X11_most_25, e_X11_most_26, e_X11_most_27, e_X11_most_28, e_X11_most_29, e_X11_most_32, e_X11_most_33, e_X11_most_36, e_X11_most_38, e_X11_most_39, e_X11_most_40, e_X11_most_41, e_X11_most_42, e_X11_most_43, e_X11_most_44, e_X11_most_46, e_X11_most_47, e_X11_most_51, e_X11_most_52, e_X11_most_55, e_X11_most_57, e_X11_most_58, e_X11_most_59, e_X11_most_60, e_X11_most_61, e_X11_most_64, e_X11_most_65, e_X11_most_67, e_X11_most_70, e_X11_most_71, e_X11_most_74, e_X11_most_76, e_X11_most_79, e_X11_most_81, e_X11_most_84, e_X11_most_85, e_X11_most_87, e_X11_most_89, e_X11_most_92, e_X11_most_94, e_X11_most_97, e_X11_most_98, e_X11_most_100, e_X11_most_103, e_X11_most_104, e_X11_most_106, e_X11_most_109, e_X11_most_112, e_X11_most_114, e_X11_most_117, e_X11_most_119, e_X11_most_121, e_X11_most_124, e_X11_most_127, e_X11_most_128, e_X11_most_129, e_X11_most_132, e_X11_most_133, e_X11_most_135, e_X11_most_136, e_X11_most_139, e_X11_most_141, e_X11_most_144, ob_91, rk_91_8, ar_96, kcl_i, kcl_r, kcl_l, kcl_0, kcl_n, true_and, and_true, c1, if_false, m_longOf, u93, c_bitCount, tn_s]
      unfold gMost
      by_cases q1 : Int32.ofNat x &&& (Int32.ofNat p ^^^ (-1)) = 0
      · by_cases q2 : v < pMin (i 93) (Int32.ofNat x)
        · simp only [q1, q2, if_true, not_true_eq_false, and_false, if_false]
        · by_cases q3 : 0 < pBC (Int32.ofNat x) - pBC w
          · simp only [q1, q2, q3, if_true, not_false_eq_true, and_self, if_false]
          · by_cases q4 : pBC (Int32.ofNat x) - pBC w = 0
            · by_cases q5 : pMin (i 93) w ≤ pMin (i 93) (Int32.ofNat x)
              · simp only [q1, q2, q3, q4, q5, Int32.lt_irrefl, if_true, not_false_eq_true, and_self, if_false]
              · simp only [q1, q2, q3, q4, q5, Int32.lt_irrefl, if_true, not_false_eq_true, and_self, if_false]
            · simp only [q1, q2, q3, q4, if_true, not_false_eq_true, and_self, if_false]
      · simp only [q1, if_false, false_and]
theorem J_most (h : IV m i l f t sp) (q v : Int32) : JJ 120 229 [.int q, .int v] i l f t sp := by
  obtain ⟨⟨h5, h91, h8, e9, hle, hp⟩, _⟩ := id h
  have hN := IV_now h
  by_cases hq : pHas (Int32.ofNat m) q = true ∧ ¬ v < 0 ∧ ¬ 60 < v
  · obtain ⟨a, ha, rfl⟩ := kN_has h8 hq.1
    obtain ⟨p, hp256, hpool⟩ := b8_nat (b8_and (w := i 96 17 ^^^ (-1)) (@b8_mCo i a))
    have hpool' : i 8 a &&& (i 96 17 ^^^ (-1)) = Int32.ofNat p := by rw [(hp a ha).2.2]; exact hpool
    refine JJ_q h (pBC (kfo (gMost (i 93) (Int32.ofNat p) v) (p + 1) 0)) 1 i (uPut (wPut i 1)) [(kfo (gMost (i 93) (Int32.ofNat p) v) (p + 1) 0).toInt64] rfl (by decide) ag_r (ag_uu ag_r) rfl ?_ ?_
    · intro sc d y nx hd L st cu su K
      have q60 : v ≤ 60 := Int32.not_lt.1 hq.2.2
      refine kCA_of (d := d + 499) (v := some (.int _)) (fun K => ?_)
      rw [km_120]
      show kWP sc (d + 499) 120 0 [.ref 0, .int (Int32.ofNat a), .int v, .retAddr 0, .retAddr 0, .retAddr 0] [] _ K = _
      simp only [e_X10_most_0, e_X10_most_1, e_X10_most_4, e_X10_most_5, e_X10_most_8, e_X10_most_11, e_X10_most_12, e_X10_most_15, e_X10_most_16, e_X10_most_18, e_X10_most_21, e_X10_most_22, e_X10_most_23, e_X10_most_24, e_X10_most_27, e_X10_most_30, e_X10_most_31, e_X10_most_32, e_X10_most_33, e_X10_most_36, e_X10_most_39, e_X10_most_40, e_X10_most_41, e_X10_most_42, e_X10_most_43, e_X10_most_44, e_X10_most_46, e_X10_most_47, e_X10_most_51, e_X10_most_54, e_X10_most_57, e_X10_most_59, e_X10_most_60, e_X10_most_61, e_X10_most_62, e_X10_most_63, e_X10_most_66, e_X10_most_67, e_X10_most_70, e_X10_most_72, e_X10_most_75, e_X10_most_76, e_X10_most_79, e_X10_most_80, e_X10_most_82, e_X10_most_84, e_X10_most_87, e_X10_most_90, e_X10_most_92, e_X10_most_94, e_X10_most_97, e_X10_most_100, e_X10_most_101, e_X10_most_104, e_X10_most_107, e_X10_most_108, e_X10_most_111, e_X10_most_113, e_X10_most_114, e_X10_most_117, e_X10_most_119, e_X10_most_122, ob_0, rk_0_2, ob_5, rk_5_3, ar_8, rk_0_3, ob_10, ob_13, rk_0_1, ob_3, kcl_i, kcl_r, kcl_l, kcl_0, kcl_n, true_and, and_true, c_has, kb_0, h5, hq.1, hq.2.1, q60, not_true_eq_false, if_false, if_true, kin8 (show a < 8 by omega), cl_n (show a < 100000 by omega), hN.1, hpool']
      refine (k_for (P := fun x (w : Int32) => kWP sc (d + 499) 120 49 [.ref 0, .int (Int32.ofNat a), .int v, .int (Int32.ofNat p), .int w, .int (Int32.ofNat (x + 1))] [] ((120, cu, su), i, l, kR f t sp) K) (n := 255) (g := fun x w => gMost (i 93) (Int32.ofNat p) v (x + 1) w) ?_ 0).trans ?_
      · intro x w hx
        have c1 : ((255 : Int32) < Int32.ofNat (x + 1)) = False := by rw [show (255 : Int32) = Int32.ofNat 255 from rfl, tn_lt (by omega) (by omega)]; exact eq_false (by omega)
        refine e_X10_most_49.trans ?_
        simp only [e_X10_most_0, e_X10_most_1, e_X10_most_4, e_X10_most_5, e_X10_most_8, e_X10_most_11, e_X10_most_12, e_X10_most_15, e_X10_most_16, e_X10_most_18, e_X10_most_21, e_X10_most_22, e_X10_most_23, e_X10_most_24, e_X10_most_27, e_X10_most_30, e_X10_most_31, e_X10_most_32, e_X10_most_33, e_X10_most_36, e_X10_most_39, e_X10_most_40, e_X10_most_41, e_X10_most_42, e_X10_most_43, e_X10_most_44, e_X10_most_46, e_X10_most_47, e_X10_most_51, e_X10_most_54, e_X10_most_57, e_X10_most_59, e_X10_most_60, e_X10_most_61, e_X10_most_62, e_X10_most_63, e_X10_most_66, e_X10_most_67, e_X10_most_70, e_X10_most_72, e_X10_most_75, e_X10_most_76, e_X10_most_79, e_X10_most_80, e_X10_most_82, e_X10_most_84, e_X10_most_87, e_X10_most_90, e_X10_most_92, e_X10_most_94, e_X10_most_97, e_X10_most_100, e_X10_most_101, e_X10_most_104, e_X10_most_107, e_X10_most_108, e_X10_most_111, e_X10_most_113, e_X10_most_114, e_X10_most_117, e_X10_most_119, e_X10_most_122, ob_0, rk_0_2, ob_5, rk_5_3, ar_8, rk_0_3, ob_10, ob_13, rk_0_1, ob_3, kcl_i, kcl_r, kcl_l, kcl_0, kcl_n, true_and, and_true, c1, if_false, c_minutes, c_isMore, e9, tn_s]
        unfold gMost pIsMore
        by_cases q1 : Int32.ofNat (x + 1) &&& (Int32.ofNat p ^^^ (-1)) = 0
        · by_cases q2 : v < pMin (i 93) (Int32.ofNat (x + 1))
          · simp only [q1, q2, if_true]
          · by_cases q3 : 0 < pBC (Int32.ofNat (x + 1)) - pBC w
            · simp only [q1, q2, q3, if_true, if_false, z10]
            · by_cases q4 : pBC (Int32.ofNat (x + 1)) - pBC w = 0
              · by_cases q5 : pMin (i 93) w ≤ pMin (i 93) (Int32.ofNat (x + 1))
                · simp only [q1, q2, q3, q4, q5, Int32.lt_irrefl, if_true, if_false]
                · simp only [q1, q2, q3, q4, q5, Int32.lt_irrefl, if_true, if_false, z10]
              · simp only [q1, q2, q3, q4, if_true, if_false]
        · simp only [q1, if_false]
      · refine e_X10_most_49.trans ?_
        simp only [e_X10_most_0, e_X10_most_1, e_X10_most_4, e_X10_most_5, e_X10_most_8, e_X10_most_11, e_X10_most_12, e_X10_most_15, e_X10_most_16, e_X10_most_18, e_X10_most_21, e_X10_most_22, e_X10_most_23, e_X10_most_24, e_X10_most_27, e_X10_most_30, e_X10_most_31, e_X10_most_32, e_X10_most_33, e_X10_most_36, e_X10_most_39, e_X10_most_40, e_X10_most_41, e_X10_most_42, e_X10_most_43, e_X10_most_44, e_X10_most_46, e_X10_most_47, e_X10_most_51, e_X10_most_54, e_X10_most_57, e_X10_most_59, e_X10_most_60, e_X10_most_61, e_X10_most_62, e_X10_most_63, e_X10_most_66, e_X10_most_67, e_X10_most_70, e_X10_most_72, e_X10_most_75, e_X10_most_76, e_X10_most_79, e_X10_most_80, e_X10_most_82, e_X10_most_84, e_X10_most_87, e_X10_most_90, e_X10_most_92, e_X10_most_94, e_X10_most_97, e_X10_most_100, e_X10_most_101, e_X10_most_104, e_X10_most_107, e_X10_most_108, e_X10_most_111, e_X10_most_113, e_X10_most_114, e_X10_most_117, e_X10_most_119, e_X10_most_122, ob_0, rk_0_2, ob_5, rk_5_3, ar_8, rk_0_3, ob_10, ob_13, rk_0_1, ob_3, kcl_i, kcl_r, kcl_l, kcl_0, kcl_n, true_and, and_true, show ((255 : Int32) < Int32.ofNat (255 + 1)) = True from eq_true (by decide), if_true, c_start, c_radd (show 0 < 128 by decide), c_bitCount, most_all hp256]
        rfl
    · have W := m_most (i := wPut i 1) (l := tC l 0 [(kfo (gMost (i 93) (Int32.ofNat p) v) (p + 1) 0).toInt64]) (f := f) (t := t) (sp := sp) (v := v) ha (by rw [w91]; exact h91) h8 hq.2 hp256 (by rw [mCo_w, w96]; exact hpool)
      rw [w93] at W
      exact W
  · refine JJ_n h (-1) i (uPut i) ag_r (ag_uu ag_r) rfl rfl ?_ ?_
    · intro sc d y nx hd L st cu su K
      refine kCA_of (d := d + 499) (v := some (.int _)) (fun K => ?_)
      rw [km_120]
      show kWP sc (d + 499) 120 0 [.ref 0, .int q, .int v, .retAddr 0, .retAddr 0, .retAddr 0] [] _ K = _
      simp only [e_X10_most_0, e_X10_most_1, e_X10_most_4, e_X10_most_5, e_X10_most_8, e_X10_most_11, e_X10_most_12, e_X10_most_15, e_X10_most_16, e_X10_most_18, e_X10_most_21, e_X10_most_22, e_X10_most_23, e_X10_most_24, e_X10_most_27, e_X10_most_30, e_X10_most_31, e_X10_most_32, e_X10_most_33, e_X10_most_36, e_X10_most_39, e_X10_most_40, e_X10_most_41, e_X10_most_42, e_X10_most_43, e_X10_most_44, e_X10_most_46, e_X10_most_47, e_X10_most_51, e_X10_most_54, e_X10_most_57, e_X10_most_59, e_X10_most_60, e_X10_most_61, e_X10_most_62, e_X10_most_63, e_X10_most_66, e_X10_most_67, e_X10_most_70, e_X10_most_72, e_X10_most_75, e_X10_most_76, e_X10_most_79, e_X10_most_80, e_X10_most_82, e_X10_most_84, e_X10_most_87, e_X10_most_90, e_X10_most_92, e_X10_most_94, e_X10_most_97, e_X10_most_100, e_X10_most_101, e_X10_most_104, e_X10_most_107, e_X10_most_108, e_X10_most_111, e_X10_most_113, e_X10_most_114, e_X10_most_117, e_X10_most_119, e_X10_most_122, ob_0, rk_0_2, ob_5, rk_5_3, ar_8, rk_0_3, ob_10, ob_13, rk_0_1, ob_3, kcl_i, kcl_r, kcl_l, kcl_0, kcl_n, true_and, and_true, c_has, kb_0, h5]
      by_cases q1 : pHas (Int32.ofNat m) q = true
      · by_cases q2 : v < 0
        · simp [q1, q2]
        · have q3 : ¬ v ≤ 60 := fun e => hq ⟨q1, q2, Int32.not_lt.2 e⟩
          simp [q1, q2, q3]
      · simp [q1]
    · intro sc d y nx hd L st cu su K
      have h91' : uPut i 91 3 = Int32.ofNat m := h91
      refine kCA_of (d := d + 499) (v := some (.int _)) (fun K => ?_)
      rw [km_229]
      show kWP sc (d + 499) 229 0 [.ref 91, .int q, .int v, .retAddr 0, .retAddr 0, .retAddr 0, .retAddr 0] [] _ K = _
      simp only [e_X11_most_0, e_X11_most_1, e_X11_most_2, e_X11_most_5, e_X11_most_6, e_X11_most_7, e_X11_most_10, e_X11_most_13, e_X11_most_14, e_X11_most_15, e_X11_most_16, e_X11_most_19, e_X11_most_22, e_X11_most_25, e_X11_most_26, e_X11_most_27, e_X11_most_28, e_X11_most_29, e_X11_most_32, e_X11_most_33, e_X11_most_36, e_X11_most_38, e_X11_most_39, e_X11_most_40, e_X11_most_41, e_X11_most_42, e_X11_most_43, e_X11_most_44, e_X11_most_46, e_X11_most_47, e_X11_most_51, e_X11_most_52, e_X11_most_55, e_X11_most_57, e_X11_most_58, e_X11_most_59, e_X11_most_60, e_X11_most_61, e_X11_most_64, e_X11_most_65, e_X11_most_67, e_X11_most_70, e_X11_most_71, e_X11_most_74, e_X11_most_76, e_X11_most_79, e_X11_most_81, e_X11_most_84, e_X11_most_85, e_X11_most_87, e_X11_most_89, e_X11_most_92, e_X11_most_94, e_X11_most_97, e_X11_most_98, e_X11_most_100, e_X11_most_103, e_X11_most_104, e_X11_most_106, e_X11_most_109, e_X11_most_112, e_X11_most_114, e_X11_most_117, e_X11_most_119, e_X11_most_121, e_X11_most_124, e_X11_most_127, e_X11_most_128, e_X11_most_129, e_X11_most_132, e_X11_most_133, e_X11_most_135, e_X11_most_136, e_X11_most_139, e_X11_most_141, e_X11_most_144, ob_91, rk_91_8, ar_96, kcl_i, kcl_r, kcl_l, kcl_0, kcl_n, true_and, and_true, uP_0, m_isMan h91' h8, l0, l60, m_in, m_inI, kb_0]
      by_cases q1 : pHas (Int32.ofNat m) q = true
      · have q2 : ¬ (¬ v < 0 ∧ ¬ 60 < v) := fun e => hq ⟨q1, e⟩
        simp only [q1, q2, not_true_eq_false, not_false_eq_true, if_true, if_false]
      · simp [q1]
end TC
