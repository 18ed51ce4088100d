/-! cover, most -/
section TC
variable {sc : Nat × (Nat → Int32)} {d y nx : Nat} {hd : List (Int × Nat)} {L st : List Value} {S : kS} {cu su : Nat} {i : Nat → Nat → Int32} {l : Nat → Nat → Int64} {f t c b m : Nat} {sp : Nat → Nat} {K : Option (Option Value) → kS → Prop}
variable {N M Z S1 Q : Nat → Int32} {i1 i2 i3 : Nat → Nat → Int32} {l2 : Nat → Nat → Int64} {n k x : Nat} {v r : Int32} {zs zs2 : List Int64}
theorem shl_m : ∀ m, m ≤ 8 → (1 : Int32) <<< (Int32.ofNat m &&& 31) = Int32.ofNat (2 ^ m) := by decide +kernel
theorem pow_m : ∀ m, m ≤ 8 → 2 ^ m ≤ 256 := by decide
theorem l255 : (255 : Int64) = (255 : Int32).toInt64 := by decide
theorem l60 : (60 : Int64) = (60 : Int32).toInt64 := by decide
theorem bit_if {s : Int32} (hx : x < 32) {a b : Int32} : (if (s >>> (Int32.ofNat x &&& 31)) &&& 1 = 1 then a else b) = if pBit s x = 0 then b else a := by
  rcases @pBit_or s 0 x with q | q
  · have q' : (s >>> (Int32.ofNat x &&& 31)) &&& 1 = 0 := q
    rw [q', q, if_neg (by decide), if_pos rfl]
  · have q' : (s >>> (Int32.ofNat x &&& 31)) &&& 1 = 1 := q
    rw [q', q, if_pos rfl, if_neg (by decide)]
theorem m_isFewer {p q : Int32} : kCA sc (d + 2) 224 [.int p, .int q] y nx hd L st ((120, cu, su), i, l, kR f t sp) K = kWP sc (d + 2) y nx L (.int (kb (q < 0 ∨ pBC p < pBC q)) :: st) ((120, cu, su), i, l, kR f t sp) K := by
  refine kCA_of (d := d + 1) (v := some (.int (kb (q < 0 ∨ pBC p < pBC q)))) (S2 := ((120, cu, su), i, l, kR f t sp)) (fun K => ?_)
  rw [km_224]
  show kWP sc (d + 1) 224 0 [.int p, .int q] [] ((120, cu, su), i, l, kR f t sp) K = K (some (some (.int (kb (q < 0 ∨ pBC p < pBC q))))) ((120, cu, su), i, l, kR f t sp)
  simp only [e_X11_isFewer_0, e_X11_isFewer_1, e_X11_isFewer_4, e_X11_isFewer_5, e_X11_isFewer_8, e_X11_isFewer_9, e_X11_isFewer_12, e_X11_isFewer_15, e_X11_isFewer_16, e_X11_isFewer_19, e_X11_isFewer_20, kcl_i, kcl_r, kcl_l, kcl_0, kcl_n, true_and, and_true, c_bitCount, kbool_0, kbool_1]
  by_cases q1 : q < 0
  · simp [q1, kb]
  · by_cases q2 : pBC q ≤ pBC p
    · have q3 : ¬ pBC p < pBC q := Int32.not_lt.2 q2
      simp [q1, q2, q3, kb]
    · have q3 : pBC p < pBC q := Int32.not_le.1 q2
      simp [q1, q2, q3, kb]
def gCov (co : Nat → Int32) (s : Int32) (m x : Nat) (best : Int32) : Int32 := if (best = -1 ∨ pBC (Int32.ofNat x) < pBC best) ∧ s &&& (pTog co (Int32.ofNat x) m ^^^ (-1)) = 0 then Int32.ofNat x else best
def pCov (co : Nat → Int32) (s : Int32) (m : Nat) : Int32 := kfo (gCov co s m) (2 ^ m) (-1)
theorem gCov_ok {co : Nat → Int32} {s best : Int32} (hx : x < 2 ^ m) (h : best = -1 ∨ ∃ z, z < 2 ^ m ∧ best = Int32.ofNat z) : gCov co s m x best = -1 ∨ ∃ z, z < 2 ^ m ∧ gCov co s m x best = Int32.ofNat z := by
  unfold gCov; split
  · exact Or.inr ⟨x, hx, rfl⟩
  · exact h
theorem pCov_ok {co : Nat → Int32} {s : Int32} : pCov co s m = -1 ∨ ∃ z, z < 2 ^ m ∧ pCov co s m = Int32.ofNat z := by
  unfold pCov
  exact kfo_inv (I := fun _ best => best = -1 ∨ ∃ z, z < 2 ^ m ∧ best = Int32.ofNat z) (fun x best hx h => gCov_ok hx h) (Or.inl rfl)
theorem m_cover {p : Int32} (hp : ¬ p < 0 ∧ ¬ 255 < p) (h91 : i 91 3 = Int32.ofNat m) (h8 : m ≤ 8) : CC 225 [.ref 91, .int p] i l f t sp (.int (if pCov (mCo i) p m = -1 then -2 else pBC (pCov (mCo i) p m))) (if pCov (mCo i) p m = -1 then uPut i else vPut (uPut i) 1) (if pCov (mCo i) p m = -1 then l else tR l 0 [(pCov (mCo i) p m).toInt64]) f t sp := by
  intro sc d y nx hd L st cu su K
  refine kCA_of (d := d + 499) (v := some (.int _)) (fun K => ?_)
  rw [km_225]
  show kWP sc (d + 499) 225 0 [.ref 91, .int p, .retAddr 0, .retAddr 0, .retAddr 0, .retAddr 0] [] _ K = _
  have hm256 := pow_m m h8
  simp only [e_X11_cover_0, e_X11_cover_1, e_X11_cover_2, e_X11_cover_5, e_X11_cover_6, e_X11_cover_7, e_X11_cover_8, e_X11_cover_11, e_X11_cover_14, e_X11_cover_17, e_X11_cover_18, e_X11_cover_19, e_X11_cover_20, e_X11_cover_21, e_X11_cover_22, e_X11_cover_24, e_X11_cover_25, e_X11_cover_26, e_X11_cover_29, e_X11_cover_30, e_X11_cover_33, e_X11_cover_34, e_X11_cover_36, e_X11_cover_37, e_X11_cover_41, e_X11_cover_42, e_X11_cover_45, e_X11_cover_48, e_X11_cover_50, e_X11_cover_51, e_X11_cover_53, e_X11_cover_56, e_X11_cover_59, e_X11_cover_60, e_X11_cover_62, e_X11_cover_65, e_X11_cover_68, e_X11_cover_69, e_X11_cover_70, e_X11_cover_72, e_X11_cover_75, e_X11_cover_78, e_X11_cover_79, e_X11_cover_80, e_X11_cover_83, e_X11_cover_86, e_X11_cover_87, e_X11_cover_89, e_X11_cover_90, e_X11_cover_91, e_X11_cover_92, e_X11_cover_95, e_X11_cover_96, e_X11_cover_99, e_X11_cover_100, e_X11_cover_101, e_X11_cover_104, e_X11_cover_107, e_X11_cover_108, e_X11_cover_111, e_X11_cover_113, e_X11_cover_114, e_X11_cover_115, e_X11_cover_116, e_X11_cover_119, e_X11_cover_120, e_X11_cover_121, e_X11_cover_122, e_X11_cover_125, e_X11_cover_126, e_X11_cover_129, ob_91, kcl_i, kcl_r, kcl_l, kcl_0, kcl_n, true_and, and_true, uP_0, l0, l255, m_in, m_inI, kb_0, hp, not_true_eq_false, not_false_eq_true, and_self, if_false, if_true]
  have E := k_lq (n := 2 ^ m) (Q := fun x (w : Int32 × Value × Value) => kWP sc (d + 499) 225 23 [.ref 91, .int p, .int w.1, .int (Int32.ofNat x), w.2.1, w.2.2] [] ((120, cu, su), uPut i, l, kR f t sp) K) (I := fun x w => w.1 = kfo (gCov (mCo i) p m) x (-1) ∧ (w.1 = -1 ∨ ∃ z, z < 2 ^ m ∧ w.1 = Int32.ofNat z)) (b0 := (-1, .retAddr 0, .retAddr 0)) ?_ ⟨rfl, Or.inl rfl⟩
  · obtain ⟨⟨w, v5, v6⟩, ⟨hw, hok⟩, e⟩ := E
    have hw' : w = pCov (mCo i) p m := hw
    have hok' : w = -1 ∨ ∃ z, z < 2 ^ m ∧ w = Int32.ofNat z := hok
    refine e.trans ?_
    refine e_X11_cover_23.trans ?_
    simp only [e_X11_cover_0, e_X11_cover_1, e_X11_cover_2, e_X11_cover_5, e_X11_cover_6, e_X11_cover_7, e_X11_cover_8, e_X11_cover_11, e_X11_cover_14, e_X11_cover_17, e_X11_cover_18, e_X11_cover_19, e_X11_cover_20, e_X11_cover_21, e_X11_cover_22, e_X11_cover_24, e_X11_cover_25, e_X11_cover_26, e_X11_cover_29, e_X11_cover_30, e_X11_cover_33, e_X11_cover_34, e_X11_cover_36, e_X11_cover_37, e_X11_cover_41, e_X11_cover_42, e_X11_cover_45, e_X11_cover_48, e_X11_cover_50, e_X11_cover_51, e_X11_cover_53, e_X11_cover_56, e_X11_cover_59, e_X11_cover_60, e_X11_cover_62, e_X11_cover_65, e_X11_cover_68, e_X11_cover_69, e_X11_cover_70, e_X11_cover_72, e_X11_cover_75, e_X11_cover_78, e_X11_cover_79, e_X11_cover_80, e_X11_cover_83, e_X11_cover_86, e_X11_cover_87, e_X11_cover_89, e_X11_cover_90, e_X11_cover_91, e_X11_cover_92, e_X11_cover_95, e_X11_cover_96, e_X11_cover_99, e_X11_cover_100, e_X11_cover_101, e_X11_cover_104, e_X11_cover_107, e_X11_cover_108, e_X11_cover_111, e_X11_cover_113, e_X11_cover_114, e_X11_cover_115, e_X11_cover_116, e_X11_cover_119, e_X11_cover_120, e_X11_cover_121, e_X11_cover_122, e_X11_cover_125, e_X11_cover_126, e_X11_cover_129, ob_91, kcl_i, kcl_r, kcl_l, kcl_0, kcl_n, true_and, and_true, u3, h91, shl_m m h8, Int32.le_refl, if_true]
    rw [← hw']
    rcases hok' with q | ⟨z, hz, q⟩
    · subst q
      simp only [show ((0 : Int32) ≤ -1) = False from eq_false (by decide), if_true, if_false]
    · have q1 : ¬ w = -1 := by rw [q]; exact m1_ne (by omega)
      have q2 : (0 ≤ w) = True := by rw [q]; exact tn_0 (by omega)
      simp only [q1, q2, if_true, if_false, vP_0, m_enters (show 0 < 256 by decide), c_bitCount, e_X11_cover_0, e_X11_cover_1, e_X11_cover_2, e_X11_cover_5, e_X11_cover_6, e_X11_cover_7, e_X11_cover_8, e_X11_cover_11, e_X11_cover_14, e_X11_cover_17, e_X11_cover_18, e_X11_cover_19, e_X11_cover_20, e_X11_cover_21, e_X11_cover_22, e_X11_cover_24, e_X11_cover_25, e_X11_cover_26, e_X11_cover_29, e_X11_cover_30, e_X11_cover_33, e_X11_cover_34, e_X11_cover_36, e_X11_cover_37, e_X11_cover_41, e_X11_cover_42, e_X11_cover_45, e_X11_cover_48, e_X11_cover_50, e_X11_cover_51, e_X11_cover_53, e_X11_cover_56, e_X11_cover_59, e_X11_cover_60, e_X11_cover_62, e_X11_cover_65, e_X11_cover_68, e_X11_cover_69, e_X11_cover_70, e_X11_cover_72, e_X11_cover_75, e_X11_cover_78, e_X11_cover_79, e_X11_cover_80, e_X11_cover_83, e_X11_cover_86, e_X11_cover_87, e_X11_cover_89, e_X11_cover_90, e_X11_cover_91, e_X11_cover_92, e_X11_cover_95, e_X11_cover_96, e_X11_cover_99, e_X11_cover_100, e_X11_cover_101, e_X11_cover_104, e_X11_cover_107, e_X11_cover_108, e_X11_cover_111, e_X11_cover_113, e_X11_cover_114, e_X11_cover_115, e_X11_cover_116, e_X11_cover_119, e_X11_cover_120, e_X11_cover_121, e_X11_cover_122, e_X11_cover_125, e_X11_cover_126, e_X11_cover_129, ob_91, kcl_i, kcl_r, kcl_l, kcl_0, kcl_n, true_and, and_true]
      rfl
  · intro x ⟨w, v5, v6⟩ hx hI
    obtain ⟨hI1, hI2⟩ := hI
    have hI1' : w = kfo (gCov (mCo i) p m) x (-1) := hI1
    have hI2' : w = -1 ∨ ∃ z, z < 2 ^ m ∧ w = Int32.ofNat z := hI2
    refine ⟨(gCov (mCo i) p m x w, .int (pTog (mCo i) (Int32.ofNat x) m), .int (Int32.ofNat m)), ⟨?_, gCov_ok hx hI2'⟩, ?_⟩
    · show gCov (mCo i) p m x w = gCov (mCo i) p m x (kfo (gCov (mCo i) p m) x (-1))
      rw [hI1']
    · refine e_X11_cover_23.trans ?_
      simp only [e_X11_cover_0, e_X11_cover_1, e_X11_cover_2, e_X11_cover_5, e_X11_cover_6, e_X11_cover_7, e_X11_cover_8, e_X11_cover_11, e_X11_cover_14, e_X11_cover_17, e_X11_cover_18, e_X11_cover_19, e_X11_cover_20, e_X11_cover_21, e_X11_cover_22, e_X11_cover_24, e_X11_cover_25, e_X11_cover_26, e_X11_cover_29, e_X11_cover_30, e_X11_cover_33, e_X11_cover_34, e_X11_cover_36, e_X11_cover_37, e_X11_cover_41, e_X11_cover_42, e_X11_cover_45, e_X11_cover_48, e_X11_cover_50, e_X11_cover_51, e_X11_cover_53, e_X11_cover_56, e_X11_cover_59, e_X11_cover_60, e_X11_cover_62, e_X11_cover_65, e_X11_cover_68, e_X11_cover_69, e_X11_cover_70, e_X11_cover_72, e_X11_cover_75, e_X11_cover_78, e_X11_cover_79, e_X11_cover_80, e_X11_cover_83, e_X11_cover_86, e_X11_cover_87, e_X11_cover_89, e_X11_cover_90, e_X11_cover_91, e_X11_cover_92, e_X11_cover_95, e_X11_cover_96, e_X11_cover_99, e_X11_cover_100, e_X11_cover_101, e_X11_cover_104, e_X11_cover_107, e_X11_cover_108, e_X11_cover_111, e_X11_cover_113, e_X11_cover_114, e_X11_cover_115, e_X11_cover_116, e_X11_cover_119, e_X11_cover_120, e_X11_cover_121, e_X11_cover_122, e_X11_cover_125, e_X11_cover_126, e_X11_cover_129, ob_91, kcl_i, kcl_r, kcl_l, kcl_0, kcl_n, true_and, and_true, u3, h91, shl_m m h8, jpF hx (by omega), if_false]
      refine (k_for (P := fun z (b : Int32) => kWP sc (d + 499) 225 39 [.ref 91, .int p, .int w, .int (Int32.ofNat x), .int b, .int (Int32.ofNat z)] [] ((120, cu, su), uPut i, l, kR f t sp) K) (n := m) (g := fun z b => if pBit (Int32.ofNat x) z = 0 then b else b ||| mCo i z) ?_ 0).trans ?_
      · intro z b hz
        refine e_X11_cover_39.trans ?_
        simp only [e_X11_cover_0, e_X11_cover_1, e_X11_cover_2, e_X11_cover_5, e_X11_cover_6, e_X11_cover_7, e_X11_cover_8, e_X11_cover_11, e_X11_cover_14, e_X11_cover_17, e_X11_cover_18, e_X11_cover_19, e_X11_cover_20, e_X11_cover_21, e_X11_cover_22, e_X11_cover_24, e_X11_cover_25, e_X11_cover_26, e_X11_cover_29, e_X11_cover_30, e_X11_cover_33, e_X11_cover_34, e_X11_cover_36, e_X11_cover_37, e_X11_cover_41, e_X11_cover_42, e_X11_cover_45, e_X11_cover_48, e_X11_cover_50, e_X11_cover_51, e_X11_cover_53, e_X11_cover_56, e_X11_cover_59, e_X11_cover_60, e_X11_cover_62, e_X11_cover_65, e_X11_cover_68, e_X11_cover_69, e_X11_cover_70, e_X11_cover_72, e_X11_cover_75, e_X11_cover_78, e_X11_cover_79, e_X11_cover_80, e_X11_cover_83, e_X11_cover_86, e_X11_cover_87, e_X11_cover_89, e_X11_cover_90, e_X11_cover_91, e_X11_cover_92, e_X11_cover_95, e_X11_cover_96, e_X11_cover_99, e_X11_cover_100, e_X11_cover_101, e_X11_cover_104, e_X11_cover_107, e_X11_cover_108, e_X11_cover_111, e_X11_cover_113, e_X11_cover_114, e_X11_cover_115, e_X11_cover_116, e_X11_cover_119, e_X11_cover_120, e_X11_cover_121, e_X11_cover_122, e_X11_cover_125, e_X11_cover_126, e_X11_cover_129, ob_91, kcl_i, kcl_r, kcl_l, kcl_0, kcl_n, true_and, and_true, u3, h91, jpF hz (by omega), if_false, m_has, kb_0, m_able (show z < 8 by omega), u93, u94, u95, tn_s]
        rcases @pBit_or (Int32.ofNat x) 0 z with q | q
        · have q' : (Int32.ofNat x >>> (Int32.ofNat z &&& 31)) &&& 1 = 0 := q
          simp only [q', q, z01, not_false_eq_true, if_true, or_0]
        · have q' : (Int32.ofNat x >>> (Int32.ofNat z &&& 31)) &&& 1 = 1 := q
          simp only [q', q, z10, not_true_eq_false, if_false]
          rfl
      · refine e_X11_cover_39.trans ?_
        simp only [e_X11_cover_0, e_X11_cover_1, e_X11_cover_2, e_X11_cover_5, e_X11_cover_6, e_X11_cover_7, e_X11_cover_8, e_X11_cover_11, e_X11_cover_14, e_X11_cover_17, e_X11_cover_18, e_X11_cover_19, e_X11_cover_20, e_X11_cover_21, e_X11_cover_22, e_X11_cover_24, e_X11_cover_25, e_X11_cover_26, e_X11_cover_29, e_X11_cover_30, e_X11_cover_33, e_X11_cover_34, e_X11_cover_36, e_X11_cover_37, e_X11_cover_41, e_X11_cover_42, e_X11_cover_45, e_X11_cover_48, e_X11_cover_50, e_X11_cover_51, e_X11_cover_53, e_X11_cover_56, e_X11_cover_59, e_X11_cover_60, e_X11_cover_62, e_X11_cover_65, e_X11_cover_68, e_X11_cover_69, e_X11_cover_70, e_X11_cover_72, e_X11_cover_75, e_X11_cover_78, e_X11_cover_79, e_X11_cover_80, e_X11_cover_83, e_X11_cover_86, e_X11_cover_87, e_X11_cover_89, e_X11_cover_90, e_X11_cover_91, e_X11_cover_92, e_X11_cover_95, e_X11_cover_96, e_X11_cover_99, e_X11_cover_100, e_X11_cover_101, e_X11_cover_104, e_X11_cover_107, e_X11_cover_108, e_X11_cover_111, e_X11_cover_113, e_X11_cover_114, e_X11_cover_115, e_X11_cover_116, e_X11_cover_119, e_X11_cover_120, e_X11_cover_121, e_X11_cover_122, e_X11_cover_125, e_X11_cover_126, e_X11_cover_129, ob_91, kcl_i, kcl_r, kcl_l, kcl_0, kcl_n, true_and, and_true, u3, h91, Int32.le_refl, if_true, m_isFewer, kb_0, tn_s]
        show _ = kWP sc (d + 499) 225 23 [.ref 91, .int p, .int (gCov (mCo i) p m x w), .int (Int32.ofNat (x + 1)), .int (pTog (mCo i) (Int32.ofNat x) m), .int (Int32.ofNat m)] [] _ K
        have eT : kfo (fun z b => if pBit (Int32.ofNat x) z = 0 then b else b ||| mCo i z) m 0 = pTog (mCo i) (Int32.ofNat x) m := rfl
        rw [eT]
        have eL : (w < 0) ↔ w = -1 := by
          rcases hI2' with q | ⟨z, hz, q⟩
          · rw [q]; decide
          · rw [q]
            exact ⟨fun z' => absurd z' (tn_nn (by omega)), fun z' => absurd z' (m1_ne (by omega))⟩
        unfold gCov
        by_cases q1 : w = -1 ∨ pBC (Int32.ofNat x) < pBC w
        · have q1' : w < 0 ∨ pBC (Int32.ofNat x) < pBC w := by rw [eL]; exact q1
          by_cases q2 : p &&& (pTog (mCo i) (Int32.ofNat x) m ^^^ (-1)) = 0
          · simp only [eq_true q1, eq_true q1', q2, not_true_eq_false, if_true, if_false, and_self]
          · simp only [eq_true q1, eq_true q1', q2, not_true_eq_false, if_true, if_false, and_false]
        · have q1' : ¬ (w < 0 ∨ pBC (Int32.ofNat x) < pBC w) := by rw [eL]; exact q1
          simp only [eq_false q1, eq_false q1', not_false_eq_true, if_true, if_false, false_and]
theorem J_cover (h : IV m i l f t sp) (p : Int32) : JJ 118 225 [.int p] i l f t sp := by
  obtain ⟨⟨h5, h91, h8, e9, hle, hp⟩, _⟩ := id h
  have hm256 := pow_m m h8
  by_cases hq : ¬ p < 0 ∧ ¬ 255 < p
  · have hT : ∀ v, pTog (i 8) v m = pTog (mCo i) v m := fun v => kfo_congr (fun x hx b => by rw [(hp x hx).2.2]; rfl)
    have hCl : ∀ (sc : Nat × (Nat → Int32)) (d y nx : Nat) (hd : List (Int × Nat)) (L st : List Value) (cu su : Nat) (K : Option (Option Value) → kS → Prop), kCA sc (d + 500) 118 [.ref 0, .int p] y nx hd L st ((120, cu, su), i, l, kR f t sp) K = kWP sc (d + 500) y nx L (.int (if pCov (mCo i) p m = -1 then -2 else pBC (pCov (mCo i) p m)) :: st) ((120, cu, su), if pCov (mCo i) p m = -1 then i else wPut i 1, if pCov (mCo i) p m = -1 then l else tC l 0 [(pCov (mCo i) p m).toInt64], kR f t sp) K := by
      intro sc d y nx hd L st cu su K
      refine kCA_of (d := d + 499) (v := some (.int _)) (fun K => ?_)
      rw [km_118]
      show kWP sc (d + 499) 118 0 [.ref 0, .int p, .retAddr 0, .retAddr 0, .retAddr 0] [] _ K = _
      simp only [e_X10_cover_0, e_X10_cover_1, e_X10_cover_4, e_X10_cover_7, e_X10_cover_8, e_X10_cover_9, e_X10_cover_10, e_X10_cover_11, e_X10_cover_12, e_X10_cover_14, e_X10_cover_15, e_X10_cover_16, e_X10_cover_19, e_X10_cover_22, e_X10_cover_23, e_X10_cover_26, e_X10_cover_27, e_X10_cover_28, e_X10_cover_31, e_X10_cover_32, e_X10_cover_35, e_X10_cover_36, e_X10_cover_39, e_X10_cover_42, e_X10_cover_43, e_X10_cover_46, e_X10_cover_47, e_X10_cover_49, e_X10_cover_51, e_X10_cover_54, e_X10_cover_55, e_X10_cover_56, e_X10_cover_59, e_X10_cover_60, e_X10_cover_63, e_X10_cover_64, e_X10_cover_65, e_X10_cover_66, e_X10_cover_69, e_X10_cover_70, e_X10_cover_71, e_X10_cover_74, e_X10_cover_77, e_X10_cover_78, e_X10_cover_79, e_X10_cover_82, e_X10_cover_84, e_X10_cover_85, e_X10_cover_86, e_X10_cover_89, e_X10_cover_92, e_X10_cover_93, e_X10_cover_96, e_X10_cover_97, e_X10_cover_98, e_X10_cover_101, e_X10_cover_102, e_X10_cover_105, ob_0, rk_0_2, ob_5, rk_0_1, ob_3, kcl_i, kcl_r, kcl_l, kcl_0, kcl_n, true_and, and_true, c_areThings, kb_0, hq, not_true_eq_false, not_false_eq_true, and_self, if_false]
      have E := k_lq (n := 2 ^ m) (Q := fun x (w : Int32 × Value) => kWP sc (d + 499) 118 13 [.ref 0, .int p, .int w.1, .int (Int32.ofNat x), w.2] [] ((120, cu, su), i, l, kR f t sp) K) (I := fun x w => w.1 = kfo (gCov (mCo i) p m) x (-1)) (b0 := (-1, .retAddr 0)) ?_ rfl
      · obtain ⟨⟨w, v5⟩, hw, e⟩ := E
        have hw' : w = pCov (mCo i) p m := hw
        refine e.trans ?_
        refine e_X10_cover_13.trans ?_
        simp only [e_X10_cover_0, e_X10_cover_1, e_X10_cover_4, e_X10_cover_7, e_X10_cover_8, e_X10_cover_9, e_X10_cover_10, e_X10_cover_11, e_X10_cover_12, e_X10_cover_14, e_X10_cover_15, e_X10_cover_16, e_X10_cover_19, e_X10_cover_22, e_X10_cover_23, e_X10_cover_26, e_X10_cover_27, e_X10_cover_28, e_X10_cover_31, e_X10_cover_32, e_X10_cover_35, e_X10_cover_36, e_X10_cover_39, e_X10_cover_42, e_X10_cover_43, e_X10_cover_46, e_X10_cover_47, e_X10_cover_49, e_X10_cover_51, e_X10_cover_54, e_X10_cover_55, e_X10_cover_56, e_X10_cover_59, e_X10_cover_60, e_X10_cover_63, e_X10_cover_64, e_X10_cover_65, e_X10_cover_66, e_X10_cover_69, e_X10_cover_70, e_X10_cover_71, e_X10_cover_74, e_X10_cover_77, e_X10_cover_78, e_X10_cover_79, e_X10_cover_82, e_X10_cover_84, e_X10_cover_85, e_X10_cover_86, e_X10_cover_89, e_X10_cover_92, e_X10_cover_93, e_X10_cover_96, e_X10_cover_97, e_X10_cover_98, e_X10_cover_101, e_X10_cover_102, e_X10_cover_105, ob_0, rk_0_2, ob_5, rk_0_1, ob_3, kcl_i, kcl_r, kcl_l, kcl_0, kcl_n, true_and, and_true, h5, shl_m m h8, Int32.le_refl, if_true]
        rw [← hw']
        by_cases q : w = -1
        · simp only [q, if_true]
        · simp only [q, if_false, c_start, c_radd (show 0 < 128 by decide), c_bitCount, e_X10_cover_0, e_X10_cover_1, e_X10_cover_4, e_X10_cover_7, e_X10_cover_8, e_X10_cover_9, e_X10_cover_10, e_X10_cover_11, e_X10_cover_12, e_X10_cover_14, e_X10_cover_15, e_X10_cover_16, e_X10_cover_19, e_X10_cover_22, e_X10_cover_23, e_X10_cover_26, e_X10_cover_27, e_X10_cover_28, e_X10_cover_31, e_X10_cover_32, e_X10_cover_35, e_X10_cover_36, e_X10_cover_39, e_X10_cover_42, e_X10_cover_43, e_X10_cover_46, e_X10_cover_47, e_X10_cover_49, e_X10_cover_51, e_X10_cover_54, e_X10_cover_55, e_X10_cover_56, e_X10_cover_59, e_X10_cover_60, e_X10_cover_63, e_X10_cover_64, e_X10_cover_65, e_X10_cover_66, e_X10_cover_69, e_X10_cover_70, e_X10_cover_71, e_X10_cover_74, e_X10_cover_77, e_X10_cover_78, e_X10_cover_79, e_X10_cover_82, e_X10_cover_84, e_X10_cover_85, e_X10_cover_86, e_X10_cover_89, e_X10_cover_92, e_X10_cover_93, e_X10_cover_96, e_X10_cover_97, e_X10_cover_98, e_X10_cover_101, e_X10_cover_102, e_X10_cover_105, ob_0, rk_0_2, ob_5, rk_0_1, ob_3, kcl_i, kcl_r, kcl_l, kcl_0, kcl_n, true_and, and_true]
          rfl
      · intro x ⟨w, v5⟩ hx hI
        have hI1' : w = kfo (gCov (mCo i) p m) x (-1) := hI
        refine ⟨(gCov (mCo i) p m x w, .int (kb (w = -1 ∨ pBC (Int32.ofNat x) < pBC w))), ?_, ?_⟩
        · show gCov (mCo i) p m x w = gCov (mCo i) p m x (kfo (gCov (mCo i) p m) x (-1))
          rw [hI1']
        · refine e_X10_cover_13.trans ?_
          simp only [e_X10_cover_0, e_X10_cover_1, e_X10_cover_4, e_X10_cover_7, e_X10_cover_8, e_X10_cover_9, e_X10_cover_10, e_X10_cover_11, e_X10_cover_12, e_X10_cover_14, e_X10_cover_15, e_X10_cover_16, e_X10_cover_19, e_X10_cover_22, e_X10_cover_23, e_X10_cover_26, e_X10_cover_27, e_X10_cover_28, e_X10_cover_31, e_X10_cover_32, e_X10_cover_35, e_X10_cover_36, e_X10_cover_39, e_X10_cover_42, e_X10_cover_43, e_X10_cover_46, e_X10_cover_47, e_X10_cover_49, e_X10_cover_51, e_X10_cover_54, e_X10_cover_55, e_X10_cover_56, e_X10_cover_59, e_X10_cover_60, e_X10_cover_63, e_X10_cover_64, e_X10_cover_65, e_X10_cover_66, e_X10_cover_69, e_X10_cover_70, e_X10_cover_71, e_X10_cover_74, e_X10_cover_77, e_X10_cover_78, e_X10_cover_79, e_X10_cover_82, e_X10_cover_84, e_X10_cover_85, e_X10_cover_86, e_X10_cover_89, e_X10_cover_92, e_X10_cover_93, e_X10_cover_96, e_X10_cover_97, e_X10_cover_98, e_X10_cover_101, e_X10_cover_102, e_X10_cover_105, ob_0, rk_0_2, ob_5, rk_0_1, ob_3, kcl_i, kcl_r, kcl_l, kcl_0, kcl_n, true_and, and_true, h5, shl_m m h8, jpF hx (by omega), if_false, c_bitCount, c_couldTogether h5 h8, hT, tn_s]
          unfold gCov
          by_cases q0 : w = -1
          · by_cases q2 : p &&& (pTog (mCo i) (Int32.ofNat x) m ^^^ (-1)) = 0
            · simp only [q0, q2, kb, if_true, true_or, true_and, z10, if_false]
            · simp only [q0, q2, kb, if_true, true_or, true_and, z10, if_false]
          · by_cases q1 : pBC w ≤ pBC (Int32.ofNat x)
            · have q3 : ¬ pBC (Int32.ofNat x) < pBC w := Int32.not_lt.2 q1
              simp only [q0, q1, q3, kb, if_true, if_false, or_self, false_and]
            · have q3 : pBC (Int32.ofNat x) < pBC w := Int32.not_le.1 q1
              by_cases q2 : p &&& (pTog (mCo i) (Int32.ofNat x) m ^^^ (-1)) = 0
              · simp only [q0, q1, q3, q2, kb, if_true, or_true, true_and, z10, if_false]
              · simp only [q0, q1, q3, q2, kb, if_true, or_true, true_and, z10, if_false]
    by_cases qc : pCov (mCo i) p m = -1
    · refine JJ_n h (-2) i (uPut i) ag_r (ag_uu ag_r) rfl rfl ?_ ?_
      · intro sc d y nx hd L st cu su K
        rw [hCl]; simp only [qc, if_true]
      · have W := m_cover (l := l) (f := f) (t := t) (sp := sp) hq h91 h8
        simp only [qc, if_true] at W
        exact W
    · refine JJ_q h (pBC (pCov (mCo i) p m)) 1 i (uPut (wPut i 1)) [(pCov (mCo i) p m).toInt64] rfl (by decide) ag_r (ag_uu ag_r) rfl ?_ ?_
      · intro sc d y nx hd L st cu su K
        rw [hCl]; simp only [qc, if_false]
      · have W := m_cover (i := wPut i 1) (l := tC l 0 [(pCov (mCo i) p m).toInt64]) (f := f) (t := t) (sp := sp) hq (by rw [w91]; exact h91) h8
        rw [mCo_w] at W
        simp only [qc, if_false] at W
        exact W
  · refine JJ_n h (-1) i (uPut i) ag_r (ag_uu ag_r) rfl rfl ?_ ?_
    · intro sc d y nx hd L st cu su K
      refine kCA_of (d := d + 499) (v := some (.int _)) (fun K => ?_)
      rw [km_118]
      show kWP sc (d + 499) 118 0 [.ref 0, .int p, .retAddr 0, .retAddr 0, .retAddr 0] [] _ K = _
      simp only [e_X10_cover_0, e_X10_cover_1, e_X10_cover_4, e_X10_cover_7, e_X10_cover_8, e_X10_cover_9, e_X10_cover_10, e_X10_cover_11, e_X10_cover_12, e_X10_cover_14, e_X10_cover_15, e_X10_cover_16, e_X10_cover_19, e_X10_cover_22, e_X10_cover_23, e_X10_cover_26, e_X10_cover_27, e_X10_cover_28, e_X10_cover_31, e_X10_cover_32, e_X10_cover_35, e_X10_cover_36, e_X10_cover_39, e_X10_cover_42, e_X10_cover_43, e_X10_cover_46, e_X10_cover_47, e_X10_cover_49, e_X10_cover_51, e_X10_cover_54, e_X10_cover_55, e_X10_cover_56, e_X10_cover_59, e_X10_cover_60, e_X10_cover_63, e_X10_cover_64, e_X10_cover_65, e_X10_cover_66, e_X10_cover_69, e_X10_cover_70, e_X10_cover_71, e_X10_cover_74, e_X10_cover_77, e_X10_cover_78, e_X10_cover_79, e_X10_cover_82, e_X10_cover_84, e_X10_cover_85, e_X10_cover_86, e_X10_cover_89, e_X10_cover_92, e_X10_cover_93, e_X10_cover_96, e_X10_cover_97, e_X10_cover_98, e_X10_cover_101, e_X10_cover_102, e_X10_cover_105, ob_0, rk_0_2, ob_5, rk_0_1, ob_3, kcl_i, kcl_r, kcl_l, kcl_0, kcl_n, true_and, and_true, c_areThings, kb_0, hq, not_false_eq_true, if_true]
    · intro sc d y nx hd L st cu su K
      refine kCA_of (d := d + 499) (v := some (.int _)) (fun K => ?_)
      rw [km_225]
      show kWP sc (d + 499) 225 0 [.ref 91, .int p, .retAddr 0, .retAddr 0, .retAddr 0, .retAddr 0] [] _ K = _
      simp only [e_X11_cover_0, e_X11_cover_1, e_X11_cover_2, e_X11_cover_5, e_X11_cover_6, e_X11_cover_7, e_X11_cover_8, e_X11_cover_11, e_X11_cover_14, e_X11_cover_17, e_X11_cover_18, e_X11_cover_19, e_X11_cover_20, e_X11_cover_21, e_X11_cover_22, e_X11_cover_24, e_X11_cover_25, e_X11_cover_26, e_X11_cover_29, e_X11_cover_30, e_X11_cover_33, e_X11_cover_34, e_X11_cover_36, e_X11_cover_37, e_X11_cover_41, e_X11_cover_42, e_X11_cover_45, e_X11_cover_48, e_X11_cover_50, e_X11_cover_51, e_X11_cover_53, e_X11_cover_56, e_X11_cover_59, e_X11_cover_60, e_X11_cover_62, e_X11_cover_65, e_X11_cover_68, e_X11_cover_69, e_X11_cover_70, e_X11_cover_72, e_X11_cover_75, e_X11_cover_78, e_X11_cover_79, e_X11_cover_80, e_X11_cover_83, e_X11_cover_86, e_X11_cover_87, e_X11_cover_89, e_X11_cover_90, e_X11_cover_91, e_X11_cover_92, e_X11_cover_95, e_X11_cover_96, e_X11_cover_99, e_X11_cover_100, e_X11_cover_101, e_X11_cover_104, e_X11_cover_107, e_X11_cover_108, e_X11_cover_111, e_X11_cover_113, e_X11_cover_114, e_X11_cover_115, e_X11_cover_116, e_X11_cover_119, e_X11_cover_120, e_X11_cover_121, e_X11_cover_122, e_X11_cover_125, e_X11_cover_126, e_X11_cover_129, ob_91, kcl_i, kcl_r, kcl_l, kcl_0, kcl_n, true_and, and_true, uP_0, l0, l255, m_in, m_inI, kb_0, hq, not_false_eq_true, if_true]
end TC
