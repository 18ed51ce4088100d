/-! what was heard -/
section TC
variable {sc : Nat × (Nat → Int32)} {d y nx : Nat} {hd : List (Int × Nat)} {L st : List Value} {S : kS} {cu su : Nat} {i : Nat → Nat → Int32} {l : Nat → Nat → Int64} {f t c b m : Nat} {sp : Nat → Nat} {K : Option (Option Value) → kS → Prop}
variable {N M Z S1 Q : Nat → Int32} {i1 i2 i3 : Nat → Nat → Int32} {l2 : Nat → Nat → Int64} {n k x : Nat} {v r : Int32} {zs zs2 : List Int64} {le : Nat → Int32}
theorem night_c (e : ∀ c, 20 ≤ c → c < 74 → i2 c = i c) (h1 : 20 ≤ c) (h2 : c < 72) : nGet i2 c = nGet i c := nGet_c (e c h1 (by omega)) (e (c + 1) (by omega) (by omega)) (e (c + 2) (by omega) (by omega))
theorem IU_c {a b : Int32} {r104 : Nat → Int32} (hS : IS sp) (h : IU m a b (fun j => nGet i (sp j)) r104) (e : ∀ c, 20 ≤ c → c < 74 → i2 c = i c) : IU m a b (fun j => nGet i2 (sp j)) r104 := by
  obtain ⟨n, h1, h2, h3, h4⟩ := h
  refine ⟨n, h1, h2, h3, fun j hj => ?_⟩
  have w := hS.1 j (by omega)
  show NR m (nGet i2 (sp j)) _
  rw [night_c e (by omega) (by omega)]; exact h4 j hj
theorem IK_c {a : Int32} {r19 r116 r117 r118 : Nat → Int32} (h : IK m a r19 r116 r117 r118 (fun j => nGet i (65 + 3 * j))) (e : ∀ c, 20 ≤ c → c < 74 → i2 c = i c) : IK m a r19 r116 r117 r118 (fun j => nGet i2 (65 + 3 * j)) := by
  obtain ⟨ch, h1, h2, h3⟩ := h
  refine ⟨ch, h1, h2, fun j hj => ?_⟩
  show _ ∧ _ ∧ _ ∧ (_ → NR m (nGet i2 (65 + 3 * j)) _)
  rw [night_c e (by omega) (by omega)]; exact h3 j hj
theorem IR_c {a : Int32} {r100 : Nat → Int32} (hF : IF f t) (h : IR (i f 2) a (i (f + 1)) r100) (e2 : i2 85 2 = i 85 2) (e3 : i2 88 2 = i 88 2) (e4 : i2 86 = i 86) (e5 : i2 89 = i 89) : IR (i2 f 2) a (i2 (f + 1)) r100 := by
  rcases hF with ⟨rfl, _⟩ | ⟨rfl, _⟩
  · rw [e2, e4]; exact h
  · rw [e3, e5]; exact h
def hLo (w : Int32) : Int32 := if w = 1 then 1 else 0
def hHi (w : Int32) : Int32 := if w = 0 then 7 else if w = 1 then 9 else if w = 3 then 1 else 999
theorem canBe_iff {w v : Int32} : ¬ pCanBe w v = 0 ↔ (¬ w < 0 ∧ ¬ 4 < w) ∧ (¬ v < hLo w ∧ ¬ hHi w < v) := by
  by_cases q : ¬ w < 0 ∧ ¬ 4 < w
  · rcases k5_of q.1 q.2 with rfl | rfl | rfl | rfl | rfl
    · unfold pCanBe hLo hHi
      rw [if_pos rfl, kb_0, if_neg (by decide), if_pos rfl, Classical.not_not, seven_lt]
      exact ⟨fun h => ⟨q, h⟩, fun h => h.2⟩
    · unfold pCanBe hLo hHi
      rw [if_neg (by decide), if_pos rfl, kb_0, if_pos rfl, if_neg (by decide), if_pos rfl, Classical.not_not]
      exact ⟨fun h => ⟨q, h⟩, fun h => h.2⟩
    · unfold pCanBe hLo hHi
      rw [if_neg (by decide), if_neg (by decide), if_pos rfl, kb_0, if_neg (by decide), if_neg (by decide), if_neg (by decide), if_neg (by decide), Classical.not_not]
      exact ⟨fun h => ⟨q, h⟩, fun h => h.2⟩
    · unfold pCanBe hLo hHi
      rw [if_neg (by decide), if_neg (by decide), if_neg (by decide), if_pos rfl, kb_0, if_neg (by decide), if_neg (by decide), if_neg (by decide), if_pos rfl, Classical.not_not]
      constructor
      · intro h
        refine ⟨q, ?_⟩
        rcases h with rfl | rfl <;> decide
      · intro h
        obtain ⟨z, hz, e⟩ := tn_exle (m := 1) (by decide) (Int32.not_lt.1 h.2.1) (Int32.not_lt.1 h.2.2)
        have : z = 0 ∨ z = 1 := by omega
        rcases this with rfl | rfl
        · exact Or.inl e
        · exact Or.inr e
    · unfold pCanBe hLo hHi
      rw [if_neg (by decide), if_neg (by decide), if_neg (by decide), if_neg (by decide), if_pos rfl, kb_0, if_neg (by decide), if_neg (by decide), if_neg (by decide), if_neg (by decide), Classical.not_not]
      exact ⟨fun h => ⟨q, h⟩, fun h => h.2⟩
  · constructor
    · intro h
      have : pCanBe w v = 0 := by
        unfold pCanBe
        by_cases w0 : w = 0
        · exact absurd (by rw [w0]; decide) q
        by_cases w1 : w = 1
        · exact absurd (by rw [w1]; decide) q
        by_cases w2 : w = 2
        · exact absurd (by rw [w2]; decide) q
        by_cases w3 : w = 3
        · exact absurd (by rw [w3]; decide) q
        by_cases w4 : w = 4
        · exact absurd (by rw [w4]; decide) q
        rw [if_neg w0, if_neg w1, if_neg w2, if_neg w3, if_neg w4]
      exact absurd this h
    · intro h; exact absurd h.1 q
theorem ar_113' {j : Int32} : kar (120, cu, su) 113 0 j = kin j 12 := ar_113
theorem m_heard {w v : Int32} (hn : i 91 39 = Int32.ofNat n) (h12 : n ≤ 12) : CC 239 [.ref 91, .int w, .int v] i l f t sp (.int (if n < 12 ∧ ¬ pCanBe w v = 0 then Int32.ofNat (n + 1) else -1)) (if n < 12 ∧ ¬ pCanBe w v = 0 then kupi (kupi (kupi (uPut i) 113 n w) 114 n v) 91 39 (Int32.ofNat (n + 1)) else uPut i) l f t sp := by
  intro sc d y nx hd L st cu su K
  have hn' : uPut i 91 39 = Int32.ofNat n := hn
  have e12 : (Int32.ofNat n = 12) = (n = 12) := tn_eq (b := 12) (by omega) (by decide)
  refine kCA_of (d := d + 499) (v := some (.int _)) (fun K => ?_)
  rw [km_239]
  show kWP sc (d + 499) 239 0 [.ref 91, .int w, .int v, .retAddr 0, .retAddr 0] [] _ K = _
  have key : kWP sc (d + 499) 239 52 [.ref 91, .int w, .int v, .int (hLo w), .int (hHi w)] [] ((120, cu, su), uPut i, l, kR f t sp) K = K (some (some (.int (if n < 12 ∧ ¬ pCanBe w v = 0 then Int32.ofNat (n + 1) else -1)))) ((120, cu, su), (if n < 12 ∧ ¬ pCanBe w v = 0 then kupi (kupi (kupi (uPut i) 113 n w) 114 n v) 91 39 (Int32.ofNat (n + 1)) else uPut i), l, kR f t sp) := by
    simp only [e_X11_heard_0, e_X11_heard_1, e_X11_heard_2, e_X11_heard_5, e_X11_heard_6, e_X11_heard_7, e_X11_heard_10, e_X11_heard_11, e_X11_heard_14, e_X11_heard_15, e_X11_heard_18, e_X11_heard_19, e_X11_heard_20, e_X11_heard_23, e_X11_heard_25, e_X11_heard_28, e_X11_heard_29, e_X11_heard_30, e_X11_heard_33, e_X11_heard_35, e_X11_heard_38, e_X11_heard_39, e_X11_heard_40, e_X11_heard_43, e_X11_heard_44, e_X11_heard_47, e_X11_heard_50, e_X11_heard_52, e_X11_heard_53, e_X11_heard_54, e_X11_heard_55, e_X11_heard_58, e_X11_heard_61, e_X11_heard_64, e_X11_heard_65, e_X11_heard_66, e_X11_heard_67, e_X11_heard_68, e_X11_heard_70, e_X11_heard_71, e_X11_heard_74, e_X11_heard_77, e_X11_heard_78, e_X11_heard_81, e_X11_heard_83, e_X11_heard_86, e_X11_heard_87, e_X11_heard_88, e_X11_heard_89, e_X11_heard_92, e_X11_heard_93, e_X11_heard_96, e_X11_heard_97, e_X11_heard_98, e_X11_heard_99, e_X11_heard_102, e_X11_heard_103, e_X11_heard_106, e_X11_heard_107, e_X11_heard_108, e_X11_heard_109, e_X11_heard_110, e_X11_heard_113, e_X11_heard_114, e_X11_heard_115, e_X11_heard_118, e_X11_heard_119, e_X11_heard_122, ob_91, rk_91_40, ar_113, rk_91_41, ar_114, kcl_i, kcl_r, kcl_l, kcl_0, kcl_n, true_and, and_true, l0, l4, m_in, m_inI, kb_0, hn', e12]
    simp only [canBe_iff]
    by_cases q1 : ¬ w < 0 ∧ ¬ 4 < w
    · by_cases q2 : ¬ v < hLo w ∧ ¬ hHi w < v
      · by_cases q3 : n = 12
        · simp only [q1, q2, q3, not_true_eq_false, not_false_eq_true, if_true, if_false, Nat.lt_irrefl, false_and, and_self]
        · have q4 : n < 12 := by omega
          have c2 : kin (Int32.ofNat n) 12 = True := by rw [tn_kin (by omega)]; exact eq_true q4
          have g1 : kupi (uPut i) 113 n w 91 39 = Int32.ofNat n := by rw [kupi_c (by decide)]; exact hn'
          have g2 : kupi (kupi (uPut i) 113 n w) 114 n v 91 39 = Int32.ofNat n := by rw [kupi_c (by decide)]; exact g1
          simp only [q1, q2, q3, q4, not_true_eq_false, not_false_eq_true, if_true, if_false, true_and, and_self, c2, cl_n (show n < 100000 by omega), g1, g2, tn_s, kupi_s]
      · simp only [q1, q2, not_true_eq_false, not_false_eq_true, if_true, if_false, and_false, and_self]
    · simp only [q1, not_false_eq_true, if_true, if_false, false_and, and_false]
  simp only [e_X11_heard_0, e_X11_heard_1, e_X11_heard_2, e_X11_heard_5, e_X11_heard_6, e_X11_heard_7, e_X11_heard_10, e_X11_heard_11, e_X11_heard_14, e_X11_heard_15, e_X11_heard_18, e_X11_heard_19, e_X11_heard_20, e_X11_heard_23, e_X11_heard_25, e_X11_heard_28, e_X11_heard_29, e_X11_heard_30, e_X11_heard_33, e_X11_heard_35, e_X11_heard_38, e_X11_heard_39, e_X11_heard_40, e_X11_heard_43, e_X11_heard_44, e_X11_heard_47, e_X11_heard_50, e_X11_heard_53, e_X11_heard_54, e_X11_heard_55, e_X11_heard_58, e_X11_heard_61, e_X11_heard_64, e_X11_heard_65, e_X11_heard_66, e_X11_heard_67, e_X11_heard_68, e_X11_heard_70, e_X11_heard_71, e_X11_heard_74, e_X11_heard_77, e_X11_heard_78, e_X11_heard_81, e_X11_heard_83, e_X11_heard_86, e_X11_heard_87, e_X11_heard_88, e_X11_heard_89, e_X11_heard_92, e_X11_heard_93, e_X11_heard_96, e_X11_heard_97, e_X11_heard_98, e_X11_heard_99, e_X11_heard_102, e_X11_heard_103, e_X11_heard_106, e_X11_heard_107, e_X11_heard_108, e_X11_heard_109, e_X11_heard_110, e_X11_heard_113, e_X11_heard_114, e_X11_heard_115, e_X11_heard_118, e_X11_heard_119, e_X11_heard_122, ob_91, rk_91_40, ar_113, rk_91_41, ar_114, kcl_i, kcl_r, kcl_l, kcl_0, kcl_n, true_and, and_true, uP_0, m_flag]
  have : ∀ (a b : Int32), a = hLo w → b = hHi w → kWP sc (d + 499) 239 52 [.ref 91, .int w, .int v, .int a, .int b] [] ((120, cu, su), uPut i, l, kR f t sp) K = K (some (some (.int (if n < 12 ∧ ¬ pCanBe w v = 0 then Int32.ofNat (n + 1) else -1)))) ((120, cu, su), (if n < 12 ∧ ¬ pCanBe w v = 0 then kupi (kupi (kupi (uPut i) 113 n w) 114 n v) 91 39 (Int32.ofNat (n + 1)) else uPut i), l, kR f t sp) := by
    intro a b ha hb; subst ha; subst hb; exact key
  by_cases w1 : w = 1
  · subst w1
    simp only [z10, if_true, if_false]
    exact this _ _ (by decide) (by decide)
  · by_cases w0 : w = 0
    · subst w0
      simp only [z01, if_true, if_false]
      exact this _ _ (by decide) (by decide)
    · by_cases w3 : w = 3
      · subst w3
        simp only [z31, z30, if_true, if_false]
        exact this _ _ (by decide) (by decide)
      · simp only [w0, w1, w3, if_true, if_false]
        refine this _ _ ?_ ?_
        · unfold hLo; rw [if_neg w1]
        · unfold hHi; rw [if_neg w0, if_neg w1, if_neg w3]
theorem J_heard (h : IV m i l f t sp) (w v : Int32) : JJ 126 239 [.int w, .int v] i l f t sp := by
  obtain ⟨hP, hX, hW, hN, hU, hS, hK, hH, hR, hF⟩ := id h
  obtain ⟨n, h12, e74, e91, hh⟩ := hH
  have hc : CC 126 [.ref 0, .int w, .int v] i l f t sp (.int (if n < 12 ∧ ¬ pCanBe w v = 0 then Int32.ofNat (n + 1) else -1)) (if n < 12 ∧ ¬ pCanBe w v = 0 then kupi (kupi (kupi i 75 n w) 76 n v) 74 2 (Int32.ofNat (n + 1)) else i) l f t sp := by
    intro sc d y nx hd L st cu su K
    refine kCA_of (d := d + 499) (v := some (.int _)) (fun K => ?_)
    rw [km_126]
    show kWP sc (d + 499) 126 0 [.ref 0, .int w, .int v] [] _ K = _
    simp only [e_X10_heard_0, e_X10_heard_1, e_X10_heard_4, e_X10_heard_5, e_X10_heard_6, e_X10_heard_9, ob_0, rk_0_6, ob_74, kcl_i, kcl_r, kcl_l, kcl_0, kcl_n, true_and, and_true, c_ruadd e74 h12]
  by_cases q : n < 12 ∧ ¬ pCanBe w v = 0
  · rw [if_pos q, if_pos q] at hc
    have hm := m_heard (i := kupi (kupi (kupi i 75 n w) 76 n v) 74 2 (Int32.ofNat (n + 1))) (l := l) (f := f) (t := t) (sp := sp) (w := w) (v := v) (n := n) e91 h12
    rw [if_pos q, if_pos q] at hm
    refine ⟨_, _, _, _, _, _, _, _, m, hc, hm, ?_⟩
    have e : ∀ c, 20 ≤ c → c < 74 → kupi (kupi (kupi (uPut (kupi (kupi (kupi i 75 n w) 76 n v) 74 2 (Int32.ofNat (n + 1)))) 113 n w) 114 n v) 91 39 (Int32.ofNat (n + 1)) c = i c := by
      intro c h1 h2
      unfold uPut
      rw [kupi_cf (by omega), kupi_cf (by omega), kupi_cf (by omega), kupi_cf (by omega), kupi_cf (by omega), kupi_cf (by omega), kupi_cf (by omega)]
    refine ⟨hP, hX, hW, hN, IU_c hS hU e, hS, IK_c hK e, ⟨n + 1, by omega, rfl, rfl, ?_⟩, IR_c hF hR rfl rfl rfl rfl, hF⟩
    intro x hx
    unfold uPut
    rw [kupi_c (show 75 ≠ 91 by decide), kupi_c (show 75 ≠ 114 by decide), kupi_c (show 75 ≠ 113 by decide), kupi_c (show 75 ≠ 91 by decide), kupi_c (show 75 ≠ 74 by decide), kupi_c (show 75 ≠ 76 by decide), kupi_c (show 76 ≠ 91 by decide), kupi_c (show 76 ≠ 114 by decide), kupi_c (show 76 ≠ 113 by decide), kupi_c (show 76 ≠ 91 by decide), kupi_c (show 76 ≠ 74 by decide), kupi_c (show 113 ≠ 91 by decide), kupi_c (show 113 ≠ 114 by decide), kupi_c (show 114 ≠ 91 by decide)]
    by_cases e0 : x = n
    · subst e0; rw [kupi_s, kupi_s, kupi_s, kupi_s]; exact ⟨rfl, rfl⟩
    · have w0 := hh x (by omega)
      simp [kupi, e0, w0.1, w0.2]
  · rw [if_neg q, if_neg q] at hc
    have hm := m_heard (i := i) (l := l) (f := f) (t := t) (sp := sp) (w := w) (v := v) (n := n) e91 h12
    rw [if_neg q, if_neg q] at hm
    exact JJ_n h (-1) i (uPut i) ag_r (ag_uu ag_r) rfl rfl hc hm
theorem J_forget (h : IV m i l f t sp) : JJ 127 240 [] i l f t sp := by
  obtain ⟨hP, hX, hW, hN, hU, hS, hK, hH, hR, hF⟩ := id h
  obtain ⟨n, h12, e74, e91, hh⟩ := hH
  refine ⟨Int32.ofNat n, kupi i 74 2 0, l, f, t, sp, kupi (uPut (kupi i 74 2 0)) 91 39 0, l, m, ?_, ?_, ?_⟩
  · intro sc d y nx hd L st cu su K
    refine kCA_of (d := d + 499) (v := some (.int _)) (fun K => ?_)
    rw [km_127]
    show kWP sc (d + 499) 127 0 [.ref 0] [] _ K = _
    simp only [e_X10_forget_0, e_X10_forget_1, e_X10_forget_4, e_X10_forget_7, ob_0, rk_0_6, ob_74, kcl_i, kcl_r, kcl_l, kcl_0, kcl_n, true_and, and_true, c_ruclear, e74]
  · intro sc d y nx hd L st cu su K
    have e91' : uPut (kupi i 74 2 0) 91 39 = Int32.ofNat n := e91
    refine kCA_of (d := d + 499) (v := some (.int _)) (fun K => ?_)
    rw [km_240]
    show kWP sc (d + 499) 240 0 [.ref 91, .retAddr 0] [] _ K = _
    simp only [e_X11_forget_0, e_X11_forget_1, e_X11_forget_2, e_X11_forget_5, e_X11_forget_6, e_X11_forget_9, e_X11_forget_10, e_X11_forget_11, e_X11_forget_12, e_X11_forget_15, e_X11_forget_16, ob_91, kcl_i, kcl_r, kcl_l, kcl_0, kcl_n, true_and, and_true, uP_0, e91']
  · have e : ∀ c, 20 ≤ c → c < 74 → kupi (uPut (kupi i 74 2 0)) 91 39 0 c = i c := by
      intro c h1 h2
      unfold uPut
      rw [kupi_cf (by omega), kupi_cf (by omega), kupi_cf (by omega)]
    exact ⟨hP, hX, hW, hN, IU_c hS hU e, hS, IK_c hK e, ⟨0, by decide, rfl, rfl, fun x hx => absurd hx (Nat.not_lt_zero x)⟩, IR_c hF hR rfl rfl rfl rfl, hF⟩
end TC
