/-! the reference's talk -/
section TC
variable {sc : Nat × (Nat → Int32)} {d y nx : Nat} {hd : List (Int × Nat)} {L st : List Value} {S : kS} {cu su : Nat} {i : Nat → Nat → Int32} {l : Nat → Nat → Int64} {f t c b m : Nat} {sp : Nat → Nat} {K : Option (Option Value) → kS → Prop}
variable {M Z S1 Q : Nat → Int32}
theorem and_one (x : Int32) : x &&& 1 = 0 ∨ x &&& 1 = 1 := by
  have h : ∀ v : BitVec 32, v &&& 1#32 = 0#32 ∨ v &&& 1#32 = 1#32 := by
    intro v
    have e : v &&& 1#32 = BitVec.setWidth 32 (BitVec.ofBool (v.getLsbD 0)) := by
      ext k hk
      by_cases z : k = 0
      · subst z; simp
      · simp [z, BitVec.getElem_one]
    rw [e]
    cases v.getLsbD 0
    · left; decide
    · right; decide
  rcases h x.toBitVec with q | q
  · left; exact Int32.toBitVec.inj q
  · right; exact Int32.toBitVec.inj q
theorem and_one_iff {x : Int32} : (x &&& 1 = 1) ↔ ¬ (x &&& 1 = 0) := by
  rcases and_one x with h | h <;> rw [h] <;> decide
def mCo (i : Nat → Nat → Int32) : Nat → Int32 := fun a => pAble (i 93) (i 94 a) (i 95 a)
theorem pSay_nat {co : Nat → Int32} {said hat : Int32} {a : Nat} (ha : a < m) (h8 : m ≤ 8) : pSay co said hat (Int32.ofNat m) (Int32.ofNat a) = if hat = Int32.ofNat a then 0 else co a &&& (said ^^^ (-1)) := by
  unfold pSay
  have q2 : (Int32.ofNat a < 0) = False := tn_n0 (by omega)
  have q3 : (Int32.ofNat a < Int32.ofNat m) = True := by rw [tn_lt (by omega) (by omega)]; exact eq_true ha
  rw [tn_cl (by omega)]
  by_cases e : hat = Int32.ofNat a
  · rw [if_pos e, if_pos (Or.inl e.symm)]
  · rw [if_neg e, if_neg]; intro q; rcases q with q | q | q
    · exact e q.symm
    · rw [q2] at q; exact q
    · rw [q3] at q; exact q trivial
theorem m_canSay {a : Nat} (hb : mRow b = true) (ha : a < m) (h8 : m ≤ 8) : kCA sc (d + 3) 167 [.ref 91, .ref b, .int (Int32.ofNat a)] y nx hd L st ((120, cu, su), i, l, kR f t sp) K = kWP sc (d + 3) y nx L (.int (pSay (mCo i) (i b 17) (i b 18) (Int32.ofNat m) (Int32.ofNat a)) :: st) ((120, cu, su), i, l, kR f t sp) K := by
  refine kCA_of (d := d + 2) (v := some (.int (pSay (mCo i) (i b 17) (i b 18) (Int32.ofNat m) (Int32.ofNat a)))) (S2 := ((120, cu, su), i, l, kR f t sp)) (fun K => ?_)
  rw [km_167]
  show kWP sc (d + 2) 167 0 [.ref 91, .ref b, .int (Int32.ofNat a)] [] ((120, cu, su), i, l, kR f t sp) K = K (some (some (.int (pSay (mCo i) (i b 17) (i b 18) (Int32.ofNat m) (Int32.ofNat a))))) ((120, cu, su), i, l, kR f t sp)
  rw [pSay_nat ha h8]
  simp only [e_X11_canSay_0, e_X11_canSay_1, e_X11_canSay_3, e_X11_canSay_4, e_X11_canSay_5, e_X11_canSay_8, e_X11_canSay_9, e_X11_canSay_12, e_X11_canSay_13, e_X11_canSay_14, e_X11_canSay_17, e_X11_canSay_18, e_X11_canSay_20, e_X11_canSay_21, e_X11_canSay_22, e_X11_canSay_23, e_X11_canSay_24, ob_91, kcl_i, kcl_r, kcl_l, kcl_0, kcl_n, true_and, and_true, ar_b hb, show kin 18 25 = True from eq_true (by decide), show kin 17 25 = True from eq_true (by decide), show Int32.toNatClampNeg 18 = 18 from rfl, show Int32.toNatClampNeg 17 = 17 from rfl, m_able (show a < 8 by omega)]
  by_cases e : i b 18 = Int32.ofNat a
  · simp only [e, if_true]
  · simp only [e, if_false]; rfl
theorem m_isPlainOf {p : Int32} (hb : mRow b = true) : kCA sc (d + 1) 199 [.ref b, .int p] y nx hd L st ((120, cu, su), i, l, kR f t sp) K = kWP sc (d + 1) y nx L (.int (kb (¬ i b 22 < 0 ∧ ¬ i b 22 = p ∧ i b 23 = 0)) :: st) ((120, cu, su), i, l, kR f t sp) K := by
  refine kCA_of (d := d) (v := some (.int (kb (¬ i b 22 < 0 ∧ ¬ i b 22 = p ∧ i b 23 = 0)))) (S2 := ((120, cu, su), i, l, kR f t sp)) (fun K => ?_)
  rw [km_199]
  show kWP sc (d) 199 0 [.ref b, .int p] [] ((120, cu, su), i, l, kR f t sp) K = K (some (some (.int (kb (¬ i b 22 < 0 ∧ ¬ i b 22 = p ∧ i b 23 = 0))))) ((120, cu, su), i, l, kR f t sp)
  simp only [e_X11_isPlainOf_0, e_X11_isPlainOf_1, e_X11_isPlainOf_3, e_X11_isPlainOf_4, e_X11_isPlainOf_7, e_X11_isPlainOf_8, e_X11_isPlainOf_10, e_X11_isPlainOf_11, e_X11_isPlainOf_12, e_X11_isPlainOf_15, e_X11_isPlainOf_16, e_X11_isPlainOf_18, e_X11_isPlainOf_19, e_X11_isPlainOf_22, e_X11_isPlainOf_23, e_X11_isPlainOf_26, e_X11_isPlainOf_27, kcl_i, kcl_r, kcl_l, kcl_0, kcl_n, true_and, and_true, ar_b hb, show kin 22 25 = True from eq_true (by decide), show kin 23 25 = True from eq_true (by decide), show Int32.toNatClampNeg 22 = 22 from rfl, show Int32.toNatClampNeg 23 = 23 from rfl, kbool_0, kbool_1]
  by_cases q1 : i b 22 < 0 <;> by_cases q2 : i b 22 = p <;> by_cases q3 : i b 23 = 0 <;> simp [kb, q1, q2, q3]
def pPm (M : Nat → Int32) : Int32 := if ¬ M 22 < 0 ∧ M 23 = 0 then M 22 else -1
def pPt (M : Nat → Int32) : Int32 := if ¬ M 22 < 0 ∧ M 23 = 0 then M 24 else -1
theorem pPm_ne {p : Int32} : (¬ pPm M = -1 ∧ ¬ pPm M = p) ↔ (¬ M 22 < 0 ∧ ¬ M 22 = p ∧ M 23 = 0) := by
  unfold pPm
  by_cases h : ¬ M 22 < 0 ∧ M 23 = 0
  · rw [if_pos h]
    constructor
    · intro q; exact ⟨h.1, q.2, h.2⟩
    · intro q; exact ⟨fun e => q.1 (by rw [e]; decide), q.2.1⟩
  · rw [if_neg h]
    constructor
    · intro q; exact absurd rfl q.1
    · intro q; exact absurd ⟨q.1, q.2.2⟩ h
theorem p7_iff {q : Int32} : (¬ q < 0 ∧ ¬ 7 ≤ q) ↔ ((¬ q < 0 ∧ ¬ 8 ≤ q) ∧ (¬ q + 1 < 0 ∧ ¬ 8 ≤ q + 1)) := by
  constructor
  · intro h
    obtain ⟨a, ha, rfl⟩ := tn_ex (m := 7) (by decide) (Int32.not_lt.1 h.1) (Int32.not_le.1 h.2)
    rw [tn_s]
    refine ⟨⟨h.1, ?_⟩, ?_, ?_⟩
    · rw [show (8 : Int32) = Int32.ofNat 8 from rfl, tn_le (by omega) (by omega)]; omega
    · rw [tn_n0 (by omega)]; exact id
    · rw [show (8 : Int32) = Int32.ofNat 8 from rfl, tn_le (by omega) (by omega)]; omega
  · intro h
    obtain ⟨a, ha, rfl⟩ := tn_ex (m := 8) (by decide) (Int32.not_lt.1 h.1.1) (Int32.not_le.1 h.1.2)
    refine ⟨h.1.1, ?_⟩
    have w := h.2.2
    rw [tn_s, show (8 : Int32) = Int32.ofNat 8 from rfl, tn_le (by omega) (by omega)] at w
    rw [show (7 : Int32) = Int32.ofNat 7 from rfl, tn_le (by omega) (by omega)]; omega
theorem z01 : ((0 : Int32) = 1) = False := eq_false (by decide)
theorem z02 : ((0 : Int32) = 2) = False := eq_false (by decide)
theorem z03 : ((0 : Int32) = 3) = False := eq_false (by decide)
theorem z04 : ((0 : Int32) = 4) = False := eq_false (by decide)
theorem z10 : ((1 : Int32) = 0) = False := eq_false (by decide)
theorem z12 : ((1 : Int32) = 2) = False := eq_false (by decide)
theorem z13 : ((1 : Int32) = 3) = False := eq_false (by decide)
theorem z14 : ((1 : Int32) = 4) = False := eq_false (by decide)
theorem z20 : ((2 : Int32) = 0) = False := eq_false (by decide)
theorem z21 : ((2 : Int32) = 1) = False := eq_false (by decide)
theorem z23 : ((2 : Int32) = 3) = False := eq_false (by decide)
theorem z24 : ((2 : Int32) = 4) = False := eq_false (by decide)
theorem z30 : ((3 : Int32) = 0) = False := eq_false (by decide)
theorem z31 : ((3 : Int32) = 1) = False := eq_false (by decide)
theorem z32 : ((3 : Int32) = 2) = False := eq_false (by decide)
theorem z34 : ((3 : Int32) = 4) = False := eq_false (by decide)
theorem z40 : ((4 : Int32) = 0) = False := eq_false (by decide)
theorem z41 : ((4 : Int32) = 1) = False := eq_false (by decide)
theorem z42 : ((4 : Int32) = 2) = False := eq_false (by decide)
theorem z43 : ((4 : Int32) = 3) = False := eq_false (by decide)
theorem k5_of {k : Int32} (k0 : ¬ k < 0) (k4 : ¬ 4 < k) : k = 0 ∨ k = 1 ∨ k = 2 ∨ k = 3 ∨ k = 4 := by
  obtain ⟨n, hn, rfl⟩ := tn_ex (m := 5) (by decide) (Int32.not_lt.1 k0) (by
    rw [Int32.lt_iff_toInt_lt]; rw [Int32.lt_iff_toInt_lt] at k4
    rw [show (4 : Int32).toInt = 4 from by decide] at k4; rw [show (Int32.ofNat 5).toInt = 5 from by decide]; omega)
  have : n = 0 ∨ n = 1 ∨ n = 2 ∨ n = 3 ∨ n = 4 := by omega
  rcases this with rfl | rfl | rfl | rfl | rfl
  · exact Or.inl rfl
  · exact Or.inr (Or.inl rfl)
  · exact Or.inr (Or.inr (Or.inl rfl))
  · exact Or.inr (Or.inr (Or.inr (Or.inl rfl)))
  · exact Or.inr (Or.inr (Or.inr (Or.inr rfl)))
theorem pCanSay_iff {co : Nat → Int32} {said hat M p q : Int32} : pCanSay co said hat M p q = true ↔ (¬ q < 0 ∧ ¬ 8 ≤ q) ∧ (pSay co said hat M p >>> (q &&& 31)) &&& 1 = 1 := by
  rw [and_one_iff]; simp [pCanSay]
theorem m_canTalk {a : Nat} {k q : Int32} (hb : mRow b = true) (hm : i 91 3 = Int32.ofNat m) (ha : a < m) (h8 : m ≤ 8) (k0 : ¬ k < 0) (k4 : ¬ 4 < k) : kCA sc (d + 4) 200 [.ref 91, .ref b, .int (Int32.ofNat a), .int k, .int q] y nx hd L st ((120, cu, su), i, l, kR f t sp) K = kWP sc (d + 4) y nx L (.int (pCanTalk (mCo i) (i b 17) (i b 18) (pPm (i b)) (Int32.ofNat m) (Int32.ofNat a) k q) :: st) ((120, cu, su), i, l, kR f t sp) K := by
  refine kCA_of (d := d + 3) (v := some (.int (pCanTalk (mCo i) (i b 17) (i b 18) (pPm (i b)) (Int32.ofNat m) (Int32.ofNat a) k q))) (S2 := ((120, cu, su), i, l, kR f t sp)) (fun K => ?_)
  rw [km_200]
  show kWP sc (d + 3) 200 0 [.ref 91, .ref b, .int (Int32.ofNat a), .int k, .int q, .retAddr 0] [] ((120, cu, su), i, l, kR f t sp) K = K (some (some (.int (pCanTalk (mCo i) (i b 17) (i b 18) (pPm (i b)) (Int32.ofNat m) (Int32.ofNat a) k q)))) ((120, cu, su), i, l, kR f t sp)
  have hHa : pHas (Int32.ofNat m) (Int32.ofNat a) = true := by
    rw [pHas_iff, tn_n0 (by omega), tn_le (by omega) (by omega)]; exact ⟨id, by omega⟩
  simp only [e_X11_canTalk_0, e_X11_canTalk_1, e_X11_canTalk_2, e_X11_canTalk_3, e_X11_canTalk_6, e_X11_canTalk_8, e_X11_canTalk_9, e_X11_canTalk_40, e_X11_canTalk_42, e_X11_canTalk_45, e_X11_canTalk_48, e_X11_canTalk_50, e_X11_canTalk_52, e_X11_canTalk_55, e_X11_canTalk_58, e_X11_canTalk_59, e_X11_canTalk_62, e_X11_canTalk_63, e_X11_canTalk_64, e_X11_canTalk_65, e_X11_canTalk_66, e_X11_canTalk_67, e_X11_canTalk_69, e_X11_canTalk_72, e_X11_canTalk_75, e_X11_canTalk_77, e_X11_canTalk_78, e_X11_canTalk_81, e_X11_canTalk_82, e_X11_canTalk_84, e_X11_canTalk_85, e_X11_canTalk_87, e_X11_canTalk_90, e_X11_canTalk_91, e_X11_canTalk_94, e_X11_canTalk_95, e_X11_canTalk_96, e_X11_canTalk_98, e_X11_canTalk_99, e_X11_canTalk_100, e_X11_canTalk_103, e_X11_canTalk_106, e_X11_canTalk_109, e_X11_canTalk_111, e_X11_canTalk_113, e_X11_canTalk_116, e_X11_canTalk_119, e_X11_canTalk_121, e_X11_canTalk_123, e_X11_canTalk_124, e_X11_canTalk_125, e_X11_canTalk_128, e_X11_canTalk_131, e_X11_canTalk_132, e_X11_canTalk_135, e_X11_canTalk_136, e_X11_canTalk_137, e_X11_canTalk_139, e_X11_canTalk_142, e_X11_canTalk_145, e_X11_canTalk_147, e_X11_canTalk_149, e_X11_canTalk_152, e_X11_canTalk_155, e_X11_canTalk_156, e_X11_canTalk_157, e_X11_canTalk_160, e_X11_canTalk_163, e_X11_canTalk_164, e_X11_canTalk_167, e_X11_canTalk_168, ob_91, kcl_i, kcl_r, kcl_l, kcl_0, kcl_n, true_and, and_true, ar_b hb, show kin 18 25 = True from eq_true (by decide), show Int32.toNatClampNeg 18 = 18 from rfl, m_canSay hb ha h8, m_isThing, m_has, m_isMan hm h8, l0, l6, m_in, m_isPlainOf hb, kb_0, kbool_0, kbool_1, m_inI]
  unfold pCanTalk
  rcases k5_of k0 k4 with rfl | rfl | rfl | rfl | rfl
  · simp only [if_true]
    rw [kb_c pCanSay_iff]
    by_cases q1 : q < 0 <;> by_cases q2 : 8 ≤ q <;> by_cases q3 : (pSay (mCo i) (i b 17) (i b 18) (Int32.ofNat m) (Int32.ofNat a) >>> (q &&& 31)) &&& 1 = 1 <;> simp [kb, q1, q2, q3]
  · simp only [z10, if_true, if_false]
  · simp only [z20, z21, if_true, if_false]
    rw [kb_c (show ((pHas (Int32.ofNat m) (Int32.ofNat a) = true ∧ pHas (Int32.ofNat m) q = true ∧ ¬ Int32.ofNat a = q) ∧ ¬ q = i b 18) ↔ (pHas (Int32.ofNat m) q = true ∧ ¬ q = Int32.ofNat a ∧ ¬ i b 18 = q) from by
      constructor
      · intro h; exact ⟨h.1.2.1, fun e => h.1.2.2 e.symm, fun e => h.2 e.symm⟩
      · intro h; exact ⟨⟨hHa, h.1, fun e => h.2.1 e.symm⟩, fun e => h.2.2 e.symm⟩)]
    by_cases q1 : pHas (Int32.ofNat m) q = true
    · by_cases q2 : q = Int32.ofNat a
      · simp only [q1, eq_true q2, kb, not_true_eq_false, if_true, if_false, and_false, false_and]
      · by_cases q3 : i b 18 = q
        · simp only [q1, eq_false q2, eq_true q3, kb, not_true_eq_false, if_true, if_false, and_false, false_and]
        · simp only [q1, eq_false q2, eq_false q3, kb, not_true_eq_false, not_false_eq_true, if_true, if_false, and_self]
    · simp [q1, kb]
  · simp only [z30, z31, z32, if_true, if_false]
    rw [kb_c (show (pCanSay (mCo i) (i b 17) (i b 18) (Int32.ofNat m) (Int32.ofNat a) q = true ∧ pCanSay (mCo i) (i b 17) (i b 18) (Int32.ofNat m) (Int32.ofNat a) (q + 1) = true) ↔ ((¬ q < 0 ∧ ¬ 6 < q) ∧ (pSay (mCo i) (i b 17) (i b 18) (Int32.ofNat m) (Int32.ofNat a) >>> (q &&& 31)) &&& 1 = 1 ∧ (pSay (mCo i) (i b 17) (i b 18) (Int32.ofNat m) (Int32.ofNat a) >>> ((q + 1) &&& 31)) &&& 1 = 1) from by
      rw [pCanSay_iff, pCanSay_iff, six_lt, p7_iff]
      constructor
      · intro h; exact ⟨⟨h.1.1, h.2.1⟩, h.1.2, h.2.2⟩
      · intro h; exact ⟨⟨h.1.1, h.2.1⟩, h.1.2, h.2.2⟩)]
    by_cases q1 : q < 0 <;> by_cases q2 : 6 < q <;> by_cases q3 : (pSay (mCo i) (i b 17) (i b 18) (Int32.ofNat m) (Int32.ofNat a) >>> (q &&& 31)) &&& 1 = 1 <;> by_cases q4 : (pSay (mCo i) (i b 17) (i b 18) (Int32.ofNat m) (Int32.ofNat a) >>> ((q + 1) &&& 31)) &&& 1 = 1 <;> simp [kb, q1, q2, q3, q4]
  · simp only [z40, z41, z42, z43, if_true, if_false]
    rw [kb_c (show (¬ pPm (i b) = -1 ∧ ¬ pPm (i b) = Int32.ofNat a ∧ pCanSay (mCo i) (i b 17) (i b 18) (Int32.ofNat m) (Int32.ofNat a) q = true) ↔ ((¬ i b 22 < 0 ∧ ¬ i b 22 = Int32.ofNat a ∧ i b 23 = 0) ∧ (¬ q < 0 ∧ ¬ 8 ≤ q) ∧ (pSay (mCo i) (i b 17) (i b 18) (Int32.ofNat m) (Int32.ofNat a) >>> (q &&& 31)) &&& 1 = 1) from by
      rw [pCanSay_iff, ← and_assoc, pPm_ne])]
    by_cases q1 : q < 0 <;> by_cases q2 : 8 ≤ q <;> by_cases q3 : (pSay (mCo i) (i b 17) (i b 18) (Int32.ofNat m) (Int32.ofNat a) >>> (q &&& 31)) &&& 1 = 1 <;> by_cases q4 : i b 22 < 0 <;> by_cases q5 : i b 22 = Int32.ofNat a <;> by_cases q6 : i b 23 = 0 <;> simp [kb, q1, q2, q3, q4, q5, q6]
def rMore (x : Int32) : Int32 := if x + 1 < 999 then x + 1 else 999
def rPaid (M : Nat → Int32) : Nat → Int32 := if M 18 < 0 then M else kuf M (8 + (M 18).toNatClampNeg) (rMore (M (8 + (M 18).toNatClampNeg)))
def rStrike (M : Nat → Int32) : Nat → Int32 := kuf (kuf (kuf (kuf (kuf (rPaid M) 18 (-1)) 17 0) 19 0) 22 (-1)) 21 (rPaid M 21 + 1)
def rPass (M : Nat → Int32) (x : Int32) : Nat → Int32 := if M 19 + x < M 20 then kuf M 19 (M 19 + x) else rStrike (kuf M 19 (M 19 + x))
def zPass (M Z : Nat → Int32) (x : Int32) : Nat → Int32 := if M 19 + x < M 20 then Z else kuf (kuf (kuf Z 25 (Z 25 + 1)) 27 (M 18)) 28 (M 17)
theorem ke {k j : Nat} {v : Int32} (h : j ≠ k) : kuf M k v j = M j := kuf_n h
theorem m_passes {x : Int32} (hb : mRow b = true) (hh : M 18 = -1 ∨ ∃ a, a < 8 ∧ M 18 = Int32.ofNat a) : kCA sc (d + 1) 198 [.ref 91, .ref b, .int x] y nx hd L st ((120, cu, su), mPut i b M Z S1 Q, l, kR f t sp) K = kWP sc (d + 1) y nx L st ((120, cu, su), mPut i b (rPass M x) (zPass M Z x) S1 Q, l, kR f t sp) K := by
  refine kCA_of (d := d) (v := none) (S2 := ((120, cu, su), mPut i b (rPass M x) (zPass M Z x) S1 Q, l, kR f t sp)) (fun K => ?_)
  rw [km_198]
  show kWP sc (d) 198 0 [.ref 91, .ref b, .int x, .retAddr 0] [] ((120, cu, su), mPut i b M Z S1 Q, l, kR f t sp) K = K (some (none)) ((120, cu, su), mPut i b (rPass M x) (zPass M Z x) S1 Q, l, kR f t sp)
  have F : ∀ k : Nat, k < 25 → kin (Int32.ofNat k) 25 = True := fun k hk => by rw [tn_kin (by omega)]; exact eq_true hk
  have k19 : kin 19 25 = True := F 19 (by decide)
  have k20 : kin 20 25 = True := F 20 (by decide)
  have k18 : kin 18 25 = True := F 18 (by decide)
  have k17 : kin 17 25 = True := F 17 (by decide)
  have k22 : kin 22 25 = True := F 22 (by decide)
  have k21 : kin 21 25 = True := F 21 (by decide)
  simp only [e_X11_passes_0, e_X11_passes_1, e_X11_passes_3, e_X11_passes_4, e_X11_passes_5, e_X11_passes_6, e_X11_passes_7, e_X11_passes_8, e_X11_passes_9, e_X11_passes_11, e_X11_passes_12, e_X11_passes_13, e_X11_passes_15, e_X11_passes_16, e_X11_passes_19, e_X11_passes_20, e_X11_passes_21, e_X11_passes_24, e_X11_passes_25, e_X11_passes_26, e_X11_passes_29, e_X11_passes_30, e_X11_passes_31, e_X11_passes_33, e_X11_passes_34, e_X11_passes_37, e_X11_passes_38, e_X11_passes_39, e_X11_passes_41, e_X11_passes_42, e_X11_passes_45, e_X11_passes_46, e_X11_passes_48, e_X11_passes_49, e_X11_passes_52, e_X11_passes_54, e_X11_passes_55, e_X11_passes_57, e_X11_passes_58, e_X11_passes_59, e_X11_passes_60, e_X11_passes_61, e_X11_passes_62, e_X11_passes_65, e_X11_passes_66, e_X11_passes_67, e_X11_passes_68, e_X11_passes_69, e_X11_passes_70, e_X11_passes_73, e_X11_passes_74, e_X11_passes_75, e_X11_passes_77, e_X11_passes_78, e_X11_passes_79, e_X11_passes_80, e_X11_passes_82, e_X11_passes_83, e_X11_passes_84, e_X11_passes_85, e_X11_passes_87, e_X11_passes_88, e_X11_passes_89, e_X11_passes_90, e_X11_passes_92, e_X11_passes_93, e_X11_passes_94, e_X11_passes_95, e_X11_passes_97, e_X11_passes_98, e_X11_passes_99, e_X11_passes_100, e_X11_passes_101, e_X11_passes_102, ob_91, kcl_i, kcl_r, kcl_l, kcl_0, kcl_n, true_and, and_true, ar_b hb, k19, k20, k18, k17, k22, k21, show Int32.toNatClampNeg 19 = 19 from rfl, show Int32.toNatClampNeg 20 = 20 from rfl, show Int32.toNatClampNeg 18 = 18 from rfl, show Int32.toNatClampNeg 17 = 17 from rfl, show Int32.toNatClampNeg 22 = 22 from rfl, show Int32.toNatClampNeg 21 = 21 from rfl, mP_r (show 19 < 25 by decide), mP_r (show 20 < 25 by decide), mP_r (show 18 < 25 by decide), mP_r (show 17 < 25 by decide), mP_r (show 21 < 25 by decide), mW_r (show 19 < 25 by decide), mW_r (show 18 < 25 by decide), mW_r (show 17 < 25 by decide), mW_r (show 22 < 25 by decide), mW_r (show 21 < 25 by decide), kuf_s, ke (show 20 ≠ 19 by decide), ke (show 18 ≠ 19 by decide), ke (show 17 ≠ 19 by decide), ke (show 21 ≠ 19 by decide), ke (show 21 ≠ 18 by decide), ke (show 21 ≠ 17 by decide), ke (show 21 ≠ 22 by decide), mP_z hb (show 25 ≤ 25 by decide) (show 25 < 29 by decide), mW_z hb (show 25 ≤ 25 by decide) (show 25 < 29 by decide), mW_z hb (show 25 ≤ 27 by decide) (show 27 < 29 by decide), mW_z hb (show 25 ≤ 28 by decide) (show 28 < 29 by decide)]
  unfold rPass zPass
  by_cases q0 : M 19 + x < M 20
  · simp only [q0, if_true]
  · simp only [q0, if_false]
    unfold rStrike rPaid
    simp only [ke (show 18 ≠ 19 by decide)]
    rcases hh with h | ⟨a, ha, h⟩
    · have e : M 18 < 0 := by rw [h]; decide
      simp only [e, if_true, ke (show 21 ≠ 19 by decide)]
    · have e : ¬ M 18 < 0 := by rw [h, tn_n0 (by omega)]; exact id
      have e2 : 8 + M 18 = Int32.ofNat (8 + a) := by rw [h]; exact (Int32.ofNat_add 8 a).symm
      have e3 : kin (Int32.ofNat (8 + a)) 25 = True := F _ (by omega)
      have e4 : (M 18).toNatClampNeg = a := by rw [h]; exact tn_cl (by omega)
      simp only [e, if_false, e2, e3, e4, tn_cl (show 8 + a < 2147483648 by omega), mP_r (show 8 + a < 25 by omega), mW_r (show 8 + a < 25 by omega), mP_r (show 21 < 25 by decide), mW_r (show 18 < 25 by decide), mW_r (show 17 < 25 by decide), mW_r (show 19 < 25 by decide), mW_r (show 22 < 25 by decide), mW_r (show 21 < 25 by decide), ke (show 21 ≠ 18 by decide), ke (show 21 ≠ 17 by decide), ke (show 21 ≠ 19 by decide), ke (show 21 ≠ 22 by decide), true_and, e_X11_passes_0, e_X11_passes_1, e_X11_passes_3, e_X11_passes_4, e_X11_passes_5, e_X11_passes_6, e_X11_passes_7, e_X11_passes_8, e_X11_passes_9, e_X11_passes_11, e_X11_passes_12, e_X11_passes_13, e_X11_passes_15, e_X11_passes_16, e_X11_passes_19, e_X11_passes_20, e_X11_passes_21, e_X11_passes_24, e_X11_passes_25, e_X11_passes_26, e_X11_passes_29, e_X11_passes_30, e_X11_passes_31, e_X11_passes_33, e_X11_passes_34, e_X11_passes_37, e_X11_passes_38, e_X11_passes_39, e_X11_passes_41, e_X11_passes_42, e_X11_passes_45, e_X11_passes_46, e_X11_passes_48, e_X11_passes_49, e_X11_passes_52, e_X11_passes_54, e_X11_passes_55, e_X11_passes_57, e_X11_passes_58, e_X11_passes_59, e_X11_passes_60, e_X11_passes_61, e_X11_passes_62, e_X11_passes_65, e_X11_passes_66, e_X11_passes_67, e_X11_passes_68, e_X11_passes_69, e_X11_passes_70, e_X11_passes_73, e_X11_passes_74, e_X11_passes_75, e_X11_passes_77, e_X11_passes_78, e_X11_passes_79, e_X11_passes_80, e_X11_passes_82, e_X11_passes_83, e_X11_passes_84, e_X11_passes_85, e_X11_passes_87, e_X11_passes_88, e_X11_passes_89, e_X11_passes_90, e_X11_passes_92, e_X11_passes_93, e_X11_passes_94, e_X11_passes_95, e_X11_passes_97, e_X11_passes_98, e_X11_passes_99, e_X11_passes_100, e_X11_passes_101, e_X11_passes_102, ob_91, kcl_i, kcl_r, kcl_l, kcl_0, kcl_n, true_and, and_true, ar_b hb, k19, k18, k17, k22, k21, show Int32.toNatClampNeg 19 = 19 from rfl, show Int32.toNatClampNeg 18 = 18 from rfl, show Int32.toNatClampNeg 17 = 17 from rfl, show Int32.toNatClampNeg 22 = 22 from rfl, show Int32.toNatClampNeg 21 = 21 from rfl, ke (show 8 + a ≠ 19 by omega), ke (show 21 ≠ 8 + a by omega)]
      rfl
end TC
