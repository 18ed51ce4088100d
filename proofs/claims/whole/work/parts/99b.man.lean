/-! man, thing, row: calls that may throw, in the law's wrappers -/
section TC
variable {sc : Nat × (Nat → Int32)} {d y nx : Nat} {hd : List (Int × Nat)} {L st : List Value} {S : kS} {cu su : Nat} {i : Nat → Nat → Int32} {l : Nat → Nat → Int64} {f t c b m : Nat} {sp : Nat → Nat} {K : Option (Option Value) → kS → Prop}
variable {N M Z S1 Q A : Nat → Int32} {i1 i2 i3 j : Nat → Nat → Int32} {l2 : Nat → Nat → Int64} {n n2 k x a o g : Nat} {v r p q : Int32} {zs zs2 : List Int64} {s : Nat × (Nat → Int32)} {w : WN} {u : WM}
/-- a call after which da more objects, db more fields have been made -/
def LC (z : Nat) (args : List Value) (i : Nat → Nat → Int32) (l : Nat → Nat → Int64) (f t : Nat) (sp : Nat → Nat) (r : Value) (da db : Nat) (i1 : Nat → Nat → Int32) (l1 : Nat → Nat → Int64) : Prop :=
  ∀ (sc : Nat × (Nat → Int32)) (d y nx : Nat) (hd : List (Int × Nat)) (L st : List Value) (cu su : Nat) (K : Option (Option Value) → kS → Prop), kCA sc (d + 500) z args y nx hd L st ((120, cu, su), i, l, kR f t sp) K = kWP sc (d + 500) y nx L (r :: st) ((120, cu + da, su + db), i1, l1, kR f t sp) K
/-- a wrapped call of the class, then the reference's: both throw, or both answer the same -/
def LJ (zl zb : Nat) (args : List Value) (F : Value → Int64 → Prop) (i : Nat → Nat → Int32) (l : Nat → Nat → Int64) (f t : Nat) (sp : Nat → Nat) : Prop :=
  (∃ (r : Int64) (b : Value) (i1 i2 : Nat → Nat → Int32) (m2 : Nat), F b r ∧ LC zl (.ref 0 :: (args ++ [.ref 119])) i l f t sp (.int 0) 0 0 i1 (kupl l 119 0 r) ∧ CC zb (.ref 91 :: args) i1 (kupl l 119 0 r) f t sp b i2 (kupl l 119 0 r) f t sp ∧ i2 91 0 = 0 ∧ IV m2 i2 (kupl l 119 0 r) f t sp) ∨
  (∃ (b : Value) (i2 : Nat → Nat → Int32) (m2 : Nat) (r0 : Int64), F b r0 ∧ LC zl (.ref 0 :: (args ++ [.ref 119])) i l f t sp (.int 1) 1 6 i l ∧ CC zb (.ref 91 :: args) i l f t sp b i2 l f t sp ∧ i2 91 0 = 1 ∧ IV m2 i2 l f t sp)
def Fi (b : Value) (r : Int64) : Prop := ∃ x : Int32, b = .int x ∧ r = x.toInt64
def Fl (b : Value) (r : Int64) : Prop := b = .long r
theorem IW_119 {c3 c91 : Int32} {r : Int64} (h : IW c3 c91 (l 4) (l 92)) : IW c3 c91 (kupl l 119 0 r 4) (kupl l 119 0 r 92) := by
  rw [kupl_cf (by decide), kupl_cf (by decide)]; exact h
theorem k0_1 : kin 0 1 = True := eq_true (by decide)
theorem nc0 : Int32.toNatClampNeg 0 = 0 := rfl
theorem z61 : ((6 : Int32) = 1) = False := eq_false (by decide)
theorem m_refuse  : kCA sc (d + 1) 156 [.ref 91] y nx hd L st ((120, cu, su), i, l, kR f t sp) K = kWP sc (d + 1) y nx L (.int 0 :: st) ((120, cu, su), kupi i 91 0 1, l, kR f t sp) K := by
  refine kCA_of (d := d) (v := some (.int 0)) (S2 := ((120, cu, su), kupi i 91 0 1, l, kR f t sp)) (fun K => ?_)
  rw [km_156]
  show kWP sc (d) 156 0 [.ref 91] [] ((120, cu, su), i, l, kR f t sp) K = K (some (some (.int 0))) ((120, cu, su), kupi i 91 0 1, l, kR f t sp)
  simp only [e_X11_refuse_0, e_X11_refuse_1, e_X11_refuse_2, e_X11_refuse_5, e_X11_refuse_6, ob_91, kcl_i, kcl_r, kcl_l, kcl_0, kcl_n, true_and, and_true]
def pMan (q v0 v1 v2 v3 v4 v5 v6 : Int32) : Int32 := if q = 0 then v0 else if q = 1 then v1 else if q = 2 then v2 else if q = 3 then v3 else if q = 4 then v4 else if q = 5 then v5 else v6
theorem in7 {q : Int32} (h : ¬ q < 0 ∧ ¬ 6 < q) : q = 0 ∨ q = 1 ∨ q = 2 ∨ q = 3 ∨ q = 4 ∨ q = 5 ∨ q = 6 := by
  obtain ⟨z, hz, rfl⟩ := tn_exle (m := 6) (by decide) (Int32.not_lt.1 h.1) (Int32.not_lt.1 h.2)
  have : z = 0 ∨ z = 1 ∨ z = 2 ∨ z = 3 ∨ z = 4 ∨ z = 5 ∨ z = 6 := by omega
  rcases this with rfl | rfl | rfl | rfl | rfl | rfl | rfl
  · exact Or.inl rfl
  · exact Or.inr (Or.inl rfl)
  · exact Or.inr (Or.inr (Or.inl rfl))
  · exact Or.inr (Or.inr (Or.inr (Or.inl rfl)))
  · exact Or.inr (Or.inr (Or.inr (Or.inr (Or.inl rfl))))
  · exact Or.inr (Or.inr (Or.inr (Or.inr (Or.inr (Or.inl rfl)))))
  · exact Or.inr (Or.inr (Or.inr (Or.inr (Or.inr (Or.inr rfl)))))
/-- the wrapper, once the class's method is known -/
theorem L_manN {p q v : Int32} (h : ∀ (sc : Nat × (Nat → Int32)) (d cu su : Nat) (K : Option (Option Value) → kS → Prop), kWP sc (d + 498) 100 0 [.ref 0, .int p, .int q] [] ((120, cu, su), i, l, kR f t sp) K = K (some (some (.int v))) ((120, cu, su), i1, l, kR f t sp)) : LC 257 [.ref 0, .int p, .int q, .ref 119] i l f t sp (.int 0) 0 0 i1 (kupl l 119 0 v.toInt64) := by
  intro sc d y nx hd L st cu su K
  refine kCA_of (d := d + 499) (v := some (.int _)) (fun K => ?_)
  rw [km_257]
  show kWP sc (d + 499) 257 0 [.ref 0, .int p, .int q, .ref 119, .retAddr 0] [] _ K = _
  have P := fun (y nx : Nat) (L st : List Value) (hd : List (Int × Nat)) (K : Option (Option Value) → kS → Prop) => kCA_of (sc := sc) (d := d + 498) (z := 100) (as := [.ref 0, .int p, .int q]) (y := y) (nx := nx) (hd := hd) (L := L) (st := st) (S := ((120, cu, su), i, l, kR f t sp)) (S2 := ((120, cu, su), i1, l, kR f t sp)) (v := some (.int v)) (K := K) (fun K => by rw [km_100]; exact h sc d cu su K)
  simp only [e_L_man_0, e_L_man_1, e_L_man_2, e_L_man_3, e_L_man_4, e_L_man_5, e_L_man_8, e_L_man_9, e_L_man_10, e_L_man_15, e_L_man_16, e_L_man_17, e_L_man_18, ob_0, kcl_i, kcl_r, kcl_l, kcl_0, kcl_n, true_and, and_true, ob_0, show d + 499 = d + 498 + 1 from rfl, P, true_and]
  show kWP sc (d + 498 + 1) 257 8 _ [.int v, .int 0, .ref 119] _ K = _
  simp only [e_L_man_0, e_L_man_1, e_L_man_2, e_L_man_3, e_L_man_4, e_L_man_5, e_L_man_8, e_L_man_9, e_L_man_10, e_L_man_15, e_L_man_16, e_L_man_17, e_L_man_18, ob_0, kcl_i, kcl_r, kcl_l, kcl_0, kcl_n, true_and, and_true, ar_119, k0_1, nc0, true_and]
  rfl
theorem L_manT {p q : Int32} (h : ∀ (sc : Nat × (Nat → Int32)) (d cu su : Nat) (K : Option (Option Value) → kS → Prop), kWP sc (d + 498) 100 0 [.ref 0, .int p, .int q] [] ((120, cu, su), i, l, kR f t sp) K = K none ((120, cu + 1, su + 6), i, l, kR f t sp)) : LC 257 [.ref 0, .int p, .int q, .ref 119] i l f t sp (.int 1) 1 6 i l := by
  intro sc d y nx hd L st cu su K
  refine kCA_of (d := d + 499) (v := some (.int _)) (fun K => ?_)
  rw [km_257]
  show kWP sc (d + 499) 257 0 [.ref 0, .int p, .int q, .ref 119, .retAddr 0] [] _ K = _
  have P := fun (y nx : Nat) (L L2 st : List Value) (i0 : Int) (h0 : Nat) (K : Option (Option Value) → kS → Prop) (hL : kset (kclr L i0.toNat) i0.toNat (.retAddr 0) = L2) => kCA_thrown (sc := sc) (d := d + 498) (z := 100) (as := [.ref 0, .int p, .int q]) (y := y) (nx := nx) (h0 := h0) (t := []) (i0 := i0) (L := L) (L2 := L2) (st := st) (S := ((120, cu, su), i, l, kR f t sp)) (S2 := ((120, cu + 1, su + 6), i, l, kR f t sp)) (K := K) (fun K => by rw [km_100]; exact h sc d cu su K) hL
  simp only [e_L_man_0, e_L_man_1, e_L_man_2, e_L_man_3, e_L_man_4, e_L_man_5, e_L_man_8, e_L_man_9, e_L_man_10, e_L_man_15, e_L_man_16, e_L_man_17, e_L_man_18, ob_0, kcl_i, kcl_r, kcl_l, kcl_0, kcl_n, true_and, and_true, ob_0, show d + 499 = d + 498 + 1 from rfl, true_and]
  rw [P _ _ _ [.ref 0, .int p, .int q, .ref 119, .retAddr 0] _ _ _ _ rfl]
  simp only [e_L_man_0, e_L_man_1, e_L_man_2, e_L_man_3, e_L_man_4, e_L_man_5, e_L_man_8, e_L_man_9, e_L_man_10, e_L_man_15, e_L_man_16, e_L_man_17, e_L_man_18, ob_0, kcl_i, kcl_r, kcl_l, kcl_0, kcl_n, true_and, and_true]
theorem J_man (h : IV m i l f t sp) (p q : Int32) : LJ 257 191 [.int p, .int q] Fi i l f t sp := by
  obtain ⟨⟨h5, h91, h8, e9, hle, hp⟩, hX, hW, hN, _⟩ := id h
  obtain ⟨n, n2, e2, h40, e19, hr, hf⟩ := IV_rule h
  have hNow := IV_now h
  by_cases h0 : pHas (Int32.ofNat m) p = true ∧ ¬ q < 0 ∧ ¬ 6 < q
  · obtain ⟨a, ha, rfl⟩ := kN_has h8 h0.1
    have a8 : a < 8 := by omega
    -- the answer
    obtain ⟨v, hv⟩ : ∃ v, v = pMan q (i 94 a) (i 95 a) (i 96 a) (i 96 (8 + a)) (kb ((i 96 16 >>> (Int32.ofNat a &&& 31)) &&& 1 = 1)) (pSay (mCo i) (i 96 17) (i 96 18) (Int32.ofNat m) (Int32.ofNat a)) (eR (mCo i) (i 94) (i 96) m (i 100) n2 a) := ⟨_, rfl⟩
    have eE : pEag (pVal (i 8) (i 6) (Int32.ofNat m) (nGet i 10) a) (i (f + 1)) n = eR (mCo i) (i 94) (i 96) m (i 100) n2 a := eR_eq (fun a ha => (hp a ha).2.2) (fun a ha => (hp a ha).1) h8 ha hN.1 hr
    have eS : pSay (i 8) (i 10 0) (i 10 1) (i 5 0) (Int32.ofNat a) = pSay (mCo i) (i 96 17) (i 96 18) (Int32.ofNat m) (Int32.ofNat a) := by
      rw [hNow.1, hNow.2.1, h5]; exact pSay_c (fun a ha => (hp a ha).2.2) h8 ha
    have eH : (i 96 16 >>> (Int32.ofNat a &&& 31)) &&& 1 = kb ((i 96 16 >>> (Int32.ofNat a &&& 31)) &&& 1 = 1) := bit_kb
    obtain ⟨s2, hs2⟩ : ∃ s2, s2 = if q = 6 then pPop (gEagS (pVal (i 8) (i 6) (Int32.ofNat m) (nGet i 10) a) (i (f + 1)) n (rGet i f).2) else rGet i f := ⟨_, rfl⟩
    have C : ∀ (sc : Nat × (Nat → Int32)) (d cu su : Nat) (K : Option (Option Value) → kS → Prop), kWP sc (d + 498) 100 0 [.ref 0, .int (Int32.ofNat a), .int q] [] ((120, cu, su), i, l, kR f t sp) K = K (some (some (.int v))) ((120, cu, su), rPut i f s2, l, kR f t sp) := by
      intro sc d cu su K
      have E := fun (y nx : Nat) (L st : List Value) (hd : List (Int × Nat)) (K : Option (Option Value) → kS → Prop) => c_eagerI (sc := sc) (d := d + 495) (y := y) (nx := nx) (hd := hd) (L := L) (st := st) (cu := cu) (su := su) (i := i) (l := l) (f := f) (t := t) (sp := sp) (K := K) (s := rGet i f) (a := a) (n := n) hf c10 h5 h8 ha e2 h40
      rw [rP_g] at E
      simp only [e_X10_man_0, e_X10_man_1, e_X10_man_4, e_X10_man_5, e_X10_man_8, e_X10_man_21, e_X10_man_22, e_X10_man_64, e_X10_man_65, e_X10_man_68, e_X10_man_71, e_X10_man_72, e_X10_man_73, e_X10_man_74, e_X10_man_75, e_X10_man_78, e_X10_man_81, e_X10_man_82, e_X10_man_83, e_X10_man_84, e_X10_man_85, e_X10_man_88, e_X10_man_91, e_X10_man_92, e_X10_man_93, e_X10_man_94, e_X10_man_95, e_X10_man_98, e_X10_man_101, e_X10_man_102, e_X10_man_103, e_X10_man_104, e_X10_man_105, e_X10_man_108, e_X10_man_109, e_X10_man_112, e_X10_man_113, e_X10_man_114, e_X10_man_117, e_X10_man_118, e_X10_man_121, e_X10_man_122, e_X10_man_125, e_X10_man_126, e_X10_man_127, e_X10_man_130, e_X10_man_131, e_X10_man_134, e_X10_man_135, e_X10_man_138, e_X10_man_139, e_X10_man_142, ob_0, rk_0_2, ob_5, rk_5_1, ar_6, rk_5_2, ar_7, rk_0_3, ob_10, ob_13, rk_10_8, ar_11, rk_13_8, ar_14, rk_10_9, ar_12, rk_13_9, ar_15, rk_0_10, ob_r hf, kcl_i, kcl_r, kcl_l, kcl_0, kcl_n, true_and, and_true, c_has, kb_0, h5, h0.1, not_true_eq_false, if_false]
      rw [hv, hs2]
      unfold pMan
      rcases in7 h0.2 with rfl | rfl | rfl | rfl | rfl | rfl | rfl
      · simp only [if_true, show ((0 : Int32) = 6) = False from eq_false (by decide), if_false, rP_g, kin8 a8, cl_n (show a < 100000 by omega), (hp a ha).1, true_and]
      · simp only [z10, if_true, show ((1 : Int32) = 6) = False from eq_false (by decide), if_false, rP_g, kin8 a8, cl_n (show a < 100000 by omega), (hp a ha).2.1, true_and]
      · simp only [z20, z21, if_true, show ((2 : Int32) = 6) = False from eq_false (by decide), if_false, rP_g, kin8 a8, cl_n (show a < 100000 by omega), hNow.2.2.2.2.2.2.1 a a8, true_and]
      · simp only [z30, z31, z32, if_true, show ((3 : Int32) = 6) = False from eq_false (by decide), if_false, rP_g, kin8 a8, cl_n (show a < 100000 by omega), hNow.2.2.2.2.2.2.2 a a8, true_and]
      · simp only [z40, z41, z42, z43, if_true, show ((4 : Int32) = 6) = False from eq_false (by decide), if_false, rP_g, c_hadHat c10, hNow.2.2.2.2.2.1, ← eH, e_X10_man_0, e_X10_man_1, e_X10_man_4, e_X10_man_5, e_X10_man_8, e_X10_man_21, e_X10_man_22, e_X10_man_64, e_X10_man_65, e_X10_man_68, e_X10_man_71, e_X10_man_72, e_X10_man_73, e_X10_man_74, e_X10_man_75, e_X10_man_78, e_X10_man_81, e_X10_man_82, e_X10_man_83, e_X10_man_84, e_X10_man_85, e_X10_man_88, e_X10_man_91, e_X10_man_92, e_X10_man_93, e_X10_man_94, e_X10_man_95, e_X10_man_98, e_X10_man_101, e_X10_man_102, e_X10_man_103, e_X10_man_104, e_X10_man_105, e_X10_man_108, e_X10_man_109, e_X10_man_112, e_X10_man_113, e_X10_man_114, e_X10_man_117, e_X10_man_118, e_X10_man_121, e_X10_man_122, e_X10_man_125, e_X10_man_126, e_X10_man_127, e_X10_man_130, e_X10_man_131, e_X10_man_134, e_X10_man_135, e_X10_man_138, e_X10_man_139, e_X10_man_142, ob_0, rk_0_2, ob_5, rk_5_1, ar_6, rk_5_2, ar_7, rk_0_3, ob_10, ob_13, rk_10_8, ar_11, rk_13_8, ar_14, rk_10_9, ar_12, rk_13_9, ar_15, rk_0_10, ob_r hf, kcl_i, kcl_r, kcl_l, kcl_0, kcl_n, true_and, and_true]
      · simp only [show ((5 : Int32) = 0) = False from eq_false (by decide), show ((5 : Int32) = 1) = False from eq_false (by decide), show ((5 : Int32) = 2) = False from eq_false (by decide), show ((5 : Int32) = 3) = False from eq_false (by decide), show ((5 : Int32) = 4) = False from eq_false (by decide), if_true, show ((5 : Int32) = 6) = False from eq_false (by decide), if_false, rP_g, c_sayable c10 h5 h8, eS, e_X10_man_0, e_X10_man_1, e_X10_man_4, e_X10_man_5, e_X10_man_8, e_X10_man_21, e_X10_man_22, e_X10_man_64, e_X10_man_65, e_X10_man_68, e_X10_man_71, e_X10_man_72, e_X10_man_73, e_X10_man_74, e_X10_man_75, e_X10_man_78, e_X10_man_81, e_X10_man_82, e_X10_man_83, e_X10_man_84, e_X10_man_85, e_X10_man_88, e_X10_man_91, e_X10_man_92, e_X10_man_93, e_X10_man_94, e_X10_man_95, e_X10_man_98, e_X10_man_101, e_X10_man_102, e_X10_man_103, e_X10_man_104, e_X10_man_105, e_X10_man_108, e_X10_man_109, e_X10_man_112, e_X10_man_113, e_X10_man_114, e_X10_man_117, e_X10_man_118, e_X10_man_121, e_X10_man_122, e_X10_man_125, e_X10_man_126, e_X10_man_127, e_X10_man_130, e_X10_man_131, e_X10_man_134, e_X10_man_135, e_X10_man_138, e_X10_man_139, e_X10_man_142, ob_0, rk_0_2, ob_5, rk_5_1, ar_6, rk_5_2, ar_7, rk_0_3, ob_10, ob_13, rk_10_8, ar_11, rk_13_8, ar_14, rk_10_9, ar_12, rk_13_9, ar_15, rk_0_10, ob_r hf, kcl_i, kcl_r, kcl_l, kcl_0, kcl_n, true_and, and_true]
      · simp only [show ((6 : Int32) = 0) = False from eq_false (by decide), show ((6 : Int32) = 1) = False from eq_false (by decide), show ((6 : Int32) = 2) = False from eq_false (by decide), show ((6 : Int32) = 3) = False from eq_false (by decide), show ((6 : Int32) = 4) = False from eq_false (by decide), show ((6 : Int32) = 5) = False from eq_false (by decide), if_true, if_false]
        rw [show d + 498 = d + 495 + 3 from rfl, E]
        simp only [e_X10_man_0, e_X10_man_1, e_X10_man_4, e_X10_man_5, e_X10_man_8, e_X10_man_21, e_X10_man_22, e_X10_man_64, e_X10_man_65, e_X10_man_68, e_X10_man_71, e_X10_man_72, e_X10_man_73, e_X10_man_74, e_X10_man_75, e_X10_man_78, e_X10_man_81, e_X10_man_82, e_X10_man_83, e_X10_man_84, e_X10_man_85, e_X10_man_88, e_X10_man_91, e_X10_man_92, e_X10_man_93, e_X10_man_94, e_X10_man_95, e_X10_man_98, e_X10_man_101, e_X10_man_102, e_X10_man_103, e_X10_man_104, e_X10_man_105, e_X10_man_108, e_X10_man_109, e_X10_man_112, e_X10_man_113, e_X10_man_114, e_X10_man_117, e_X10_man_118, e_X10_man_121, e_X10_man_122, e_X10_man_125, e_X10_man_126, e_X10_man_127, e_X10_man_130, e_X10_man_131, e_X10_man_134, e_X10_man_135, e_X10_man_138, e_X10_man_139, e_X10_man_142, ob_0, rk_0_2, ob_5, rk_5_1, ar_6, rk_5_2, ar_7, rk_0_3, ob_10, ob_13, rk_10_8, ar_11, rk_13_8, ar_14, rk_10_9, ar_12, rk_13_9, ar_15, rk_0_10, ob_r hf, kcl_i, kcl_r, kcl_l, kcl_0, kcl_n, true_and, and_true, eE]
    have agC : kAg kSc i (rPut i f s2) := ag_stack hf ag_r
    have agU : kAg kSc i (uPut (rPut i f s2)) := ag_uu agC
    obtain ⟨c0, c1, c2, c3, c4⟩ := ag_cells agC
    have R := RF_of h e19 hr agU
    have hiC : ∀ c, 91 ≤ c → rPut i f s2 c = i c := fun c hc => rP_hi hf hc
    left
    generalize hX1 : rPut i f s2 = X at C agC agU c0 c1 c2 c3 c4 R hiC
    have coU : mCo (uPut X) = mCo i := by rw [mCo_u, c0]
    have hz : ∃ i2, (∀ l', CC 191 [.ref 91, .int (Int32.ofNat a), .int q] X l' f t sp (.int v) i2 l' f t sp) ∧ i2 91 0 = 0 ∧ kAg kSc i i2 ∧ i2 3 1 = i 3 1 ∧ i2 91 1 = i 91 1 := by
      obtain ⟨u6, hu6⟩ : ∃ u6 : WM, u6 = (i 96, i 91, sRul (uPut X 100) (qAsk (mCo (uPut X)) (uPut X 94) (i 96) (i 103) m a) n2 (i 102), qAsk (mCo (uPut X)) (uPut X 94) (i 96) (i 103) m a) := ⟨_, rfl⟩
      refine ⟨if q = 6 then mS (uPut X) 96 u6 else uPut X, ?_, ?_, ?_, ?_, ?_⟩
      · intro l' sc d y nx hd L st cu su K
        have e0 : mS (uPut X) 96 (i 96, i 91, i 102, i 103) = uPut X := by
          have := @uS0 X
          rw [hiC 96 (by decide), hiC 91 (by decide), hiC 102 (by decide), hiC 103 (by decide)] at this; exact this
        have E := fun (y nx : Nat) (L st : List Value) (hd : List (Int × Nat)) (K : Option (Option Value) → kS → Prop) => m_eager (sc := sc) (d := d + 495) (y := y) (nx := nx) (hd := hd) (L := L) (st := st) (cu := cu) (su := su) (l := l') (f := f) (t := t) (sp := sp) (K := K) (i := uPut X) (M := i 96) (Z := i 91) (S1 := i 102) (Q := i 103) (n := n2) (a := a) (m := m) b96 h8 ha R.2.2.1 R.2.2.2.1.1 R.2.2.2.1.2.1
        have e0' : mPut (uPut X) 96 (i 96) (i 91) (i 102) (i 103) = uPut X := e0
        rw [e0', eRef_eq R.2.2.2.1.2.1 R.2.2.2.1.2.2.1, coU] at E
        rw [coU] at hu6
        have eX96 : uPut X 96 = i 96 := by rw [u96, c4]
        have eX94 : uPut X 94 = i 94 := by rw [u94, c2]
        have eX100 : uPut X 100 = i 100 := by rw [uP_o (by decide), c3]
        have eX95 : uPut X 95 = i 95 := by rw [u95, hiC 95 (by decide)]
        have r3 : uPut X 91 3 = Int32.ofNat m := R.1
        refine kCA_of (d := d + 499) (v := some (.int _)) (fun K => ?_)
        rw [km_191]
        show kWP sc (d + 499) 191 0 [.ref 91, .int (Int32.ofNat a), .int q] [] _ K = _
        simp only [e_X11_man_0, e_X11_man_1, e_X11_man_2, e_X11_man_5, e_X11_man_6, e_X11_man_7, e_X11_man_10, e_X11_man_13, e_X11_man_14, e_X11_man_15, e_X11_man_16, e_X11_man_19, e_X11_man_22, e_X11_man_25, e_X11_man_26, e_X11_man_29, e_X11_man_30, e_X11_man_31, e_X11_man_68, e_X11_man_69, e_X11_man_72, e_X11_man_73, e_X11_man_74, e_X11_man_75, e_X11_man_76, e_X11_man_79, e_X11_man_80, e_X11_man_81, e_X11_man_82, e_X11_man_83, e_X11_man_86, e_X11_man_87, e_X11_man_88, e_X11_man_89, e_X11_man_90, e_X11_man_93, e_X11_man_95, e_X11_man_96, e_X11_man_97, e_X11_man_98, e_X11_man_99, e_X11_man_100, e_X11_man_103, e_X11_man_105, e_X11_man_106, e_X11_man_107, e_X11_man_110, e_X11_man_113, e_X11_man_114, e_X11_man_115, e_X11_man_116, e_X11_man_119, e_X11_man_120, e_X11_man_123, e_X11_man_124, e_X11_man_125, e_X11_man_126, e_X11_man_129, e_X11_man_130, e_X11_man_133, ob_91, rk_91_6, ar_94, rk_91_7, ar_95, rk_91_8, ar_96, kcl_i, kcl_r, kcl_l, kcl_0, kcl_n, true_and, and_true, uP_0, m_isMan r3 h8, kb_0, h0.1, l0, l6, m_in, m_inI, h0.2, not_true_eq_false, not_false_eq_true, and_self, if_false]
        rw [hv]
        unfold pMan
        rcases in7 h0.2 with rfl | rfl | rfl | rfl | rfl | rfl | rfl
        · simp only [if_true, show ((0 : Int32) = 6) = False from eq_false (by decide), if_false, kin8 a8, cl_n (show a < 100000 by omega), eX94, true_and]
        · simp only [z10, if_true, show ((1 : Int32) = 6) = False from eq_false (by decide), if_false, kin8 a8, cl_n (show a < 100000 by omega), eX95, true_and]
        · simp only [z20, z21, if_true, show ((2 : Int32) = 6) = False from eq_false (by decide), if_false, kin25 (show a < 25 by omega), cl_n (show a < 100000 by omega), eX96, true_and]
        · simp only [z30, z31, z32, if_true, show ((3 : Int32) = 6) = False from eq_false (by decide), if_false, tn_8, kin25 (show 8 + a < 25 by omega), cl_n (show 8 + a < 100000 by omega), eX96, true_and]
        · simp only [z40, z41, z42, z43, if_true, show ((4 : Int32) = 6) = False from eq_false (by decide), if_false, ki16, ni16, eX96, m_has, m_flag, m_flagkb, e_X11_man_0, e_X11_man_1, e_X11_man_2, e_X11_man_5, e_X11_man_6, e_X11_man_7, e_X11_man_10, e_X11_man_13, e_X11_man_14, e_X11_man_15, e_X11_man_16, e_X11_man_19, e_X11_man_22, e_X11_man_25, e_X11_man_26, e_X11_man_29, e_X11_man_30, e_X11_man_31, e_X11_man_68, e_X11_man_69, e_X11_man_72, e_X11_man_73, e_X11_man_74, e_X11_man_75, e_X11_man_76, e_X11_man_79, e_X11_man_80, e_X11_man_81, e_X11_man_82, e_X11_man_83, e_X11_man_86, e_X11_man_87, e_X11_man_88, e_X11_man_89, e_X11_man_90, e_X11_man_93, e_X11_man_95, e_X11_man_96, e_X11_man_97, e_X11_man_98, e_X11_man_99, e_X11_man_100, e_X11_man_103, e_X11_man_105, e_X11_man_106, e_X11_man_107, e_X11_man_110, e_X11_man_113, e_X11_man_114, e_X11_man_115, e_X11_man_116, e_X11_man_119, e_X11_man_120, e_X11_man_123, e_X11_man_124, e_X11_man_125, e_X11_man_126, e_X11_man_129, e_X11_man_130, e_X11_man_133, ob_91, rk_91_6, ar_94, rk_91_7, ar_95, rk_91_8, ar_96, kcl_i, kcl_r, kcl_l, kcl_0, kcl_n, true_and, and_true]
        · simp only [show ((5 : Int32) = 0) = False from eq_false (by decide), show ((5 : Int32) = 1) = False from eq_false (by decide), show ((5 : Int32) = 2) = False from eq_false (by decide), show ((5 : Int32) = 3) = False from eq_false (by decide), show ((5 : Int32) = 4) = False from eq_false (by decide), if_true, show ((5 : Int32) = 6) = False from eq_false (by decide), if_false, m_canSay b96 ha h8, coU, eX96, e_X11_man_0, e_X11_man_1, e_X11_man_2, e_X11_man_5, e_X11_man_6, e_X11_man_7, e_X11_man_10, e_X11_man_13, e_X11_man_14, e_X11_man_15, e_X11_man_16, e_X11_man_19, e_X11_man_22, e_X11_man_25, e_X11_man_26, e_X11_man_29, e_X11_man_30, e_X11_man_31, e_X11_man_68, e_X11_man_69, e_X11_man_72, e_X11_man_73, e_X11_man_74, e_X11_man_75, e_X11_man_76, e_X11_man_79, e_X11_man_80, e_X11_man_81, e_X11_man_82, e_X11_man_83, e_X11_man_86, e_X11_man_87, e_X11_man_88, e_X11_man_89, e_X11_man_90, e_X11_man_93, e_X11_man_95, e_X11_man_96, e_X11_man_97, e_X11_man_98, e_X11_man_99, e_X11_man_100, e_X11_man_103, e_X11_man_105, e_X11_man_106, e_X11_man_107, e_X11_man_110, e_X11_man_113, e_X11_man_114, e_X11_man_115, e_X11_man_116, e_X11_man_119, e_X11_man_120, e_X11_man_123, e_X11_man_124, e_X11_man_125, e_X11_man_126, e_X11_man_129, e_X11_man_130, e_X11_man_133, ob_91, rk_91_6, ar_94, rk_91_7, ar_95, rk_91_8, ar_96, kcl_i, kcl_r, kcl_l, kcl_0, kcl_n, true_and, and_true]
        · simp only [show ((6 : Int32) = 0) = False from eq_false (by decide), show ((6 : Int32) = 1) = False from eq_false (by decide), show ((6 : Int32) = 2) = False from eq_false (by decide), show ((6 : Int32) = 3) = False from eq_false (by decide), show ((6 : Int32) = 4) = False from eq_false (by decide), show ((6 : Int32) = 5) = False from eq_false (by decide), if_true, if_false]
          rw [show d + 499 = d + 495 + 4 from rfl, E]
          simp only [e_X11_man_0, e_X11_man_1, e_X11_man_2, e_X11_man_5, e_X11_man_6, e_X11_man_7, e_X11_man_10, e_X11_man_13, e_X11_man_14, e_X11_man_15, e_X11_man_16, e_X11_man_19, e_X11_man_22, e_X11_man_25, e_X11_man_26, e_X11_man_29, e_X11_man_30, e_X11_man_31, e_X11_man_68, e_X11_man_69, e_X11_man_72, e_X11_man_73, e_X11_man_74, e_X11_man_75, e_X11_man_76, e_X11_man_79, e_X11_man_80, e_X11_man_81, e_X11_man_82, e_X11_man_83, e_X11_man_86, e_X11_man_87, e_X11_man_88, e_X11_man_89, e_X11_man_90, e_X11_man_93, e_X11_man_95, e_X11_man_96, e_X11_man_97, e_X11_man_98, e_X11_man_99, e_X11_man_100, e_X11_man_103, e_X11_man_105, e_X11_man_106, e_X11_man_107, e_X11_man_110, e_X11_man_113, e_X11_man_114, e_X11_man_115, e_X11_man_116, e_X11_man_119, e_X11_man_120, e_X11_man_123, e_X11_man_124, e_X11_man_125, e_X11_man_126, e_X11_man_129, e_X11_man_130, e_X11_man_133, ob_91, rk_91_6, ar_94, rk_91_7, ar_95, rk_91_8, ar_96, kcl_i, kcl_r, kcl_l, kcl_0, kcl_n, true_and, and_true]
          rw [hu6, eX94, eX100]
          rfl
      · by_cases q6 : q = 6
        · rw [if_pos q6, mS_f b96 (by decide)]; rfl
        · rw [if_neg q6]; rfl
      · by_cases q6 : q = 6
        · rw [if_pos q6, hu6]; exact ag_now96 agU (fun j _ => by rw [u96, c4])
        · rw [if_neg q6]; exact agU
      · have e3 : uPut X 3 1 = i 3 1 := by rw [uP_o (by decide), ← hX1, rP_lo hf (by decide)]
        by_cases q6 : q = 6
        · rw [if_pos q6, mS_o (by decide) (by decide) (by decide) (by decide)]; exact e3
        · rw [if_neg q6]; exact e3
      · have e1 : uPut X 91 1 = i 91 1 := by rw [uP_f (by decide), hiC 91 (by decide)]
        by_cases q6 : q = 6
        · rw [if_pos q6, mS_f b96 (by decide)]; exact e1
        · rw [if_neg q6]; exact e1
    obtain ⟨i2, W, w0, wa, w3, w91⟩ := hz
    refine ⟨v.toInt64, .int v, X, i2, m, ⟨v, rfl, rfl⟩, L_manN C, W _, w0, kIV_q h wa ?_⟩
    rw [w3, w91]; exact IW_119 hW
  · right
    have T : ∀ (sc : Nat × (Nat → Int32)) (d cu su : Nat) (K : Option (Option Value) → kS → Prop), kWP sc (d + 498) 100 0 [.ref 0, .int p, .int q] [] ((120, cu, su), i, l, kR f t sp) K = K none ((120, cu + 1, su + 6), i, l, kR f t sp) := by
      intro sc d cu su K
      simp only [e_X10_man_0, e_X10_man_1, e_X10_man_4, e_X10_man_5, e_X10_man_8, e_X10_man_11, e_X10_man_21, e_X10_man_22, e_X10_man_64, e_X10_man_65, e_X10_man_68, e_X10_man_71, e_X10_man_72, e_X10_man_73, e_X10_man_74, e_X10_man_75, e_X10_man_78, e_X10_man_81, e_X10_man_82, e_X10_man_83, e_X10_man_84, e_X10_man_85, e_X10_man_88, e_X10_man_91, e_X10_man_92, e_X10_man_93, e_X10_man_94, e_X10_man_95, e_X10_man_98, e_X10_man_101, e_X10_man_102, e_X10_man_103, e_X10_man_104, e_X10_man_105, e_X10_man_108, e_X10_man_109, e_X10_man_112, e_X10_man_113, e_X10_man_114, e_X10_man_117, e_X10_man_118, e_X10_man_121, e_X10_man_122, e_X10_man_125, e_X10_man_126, e_X10_man_127, e_X10_man_130, e_X10_man_131, e_X10_man_134, e_X10_man_135, e_X10_man_138, e_X10_man_139, e_X10_man_142, e_X10_man_143, ob_0, rk_0_2, ob_5, rk_5_1, ar_6, rk_5_2, ar_7, rk_0_3, ob_10, ob_13, rk_10_8, ar_11, rk_13_8, ar_14, rk_10_9, ar_12, rk_13_9, ar_15, rk_0_10, ob_r hf, kcl_i, kcl_r, kcl_l, kcl_0, kcl_n, true_and, and_true, c_has, kb_0, h5]
      by_cases q1 : pHas (Int32.ofNat m) p = true
      · have q2 : ¬ (¬ q < 0 ∧ ¬ 6 < q) := fun e => h0 ⟨q1, e⟩
        have n : ∀ z : Int32, (¬ z < 0 ∧ ¬ 6 < z) → ¬ q = z := fun z hz e => q2 (by rw [e]; exact hz)
        simp only [q1, not_true_eq_false, if_false, n 0 (by decide), n 1 (by decide), n 2 (by decide), n 3 (by decide), n 4 (by decide), n 5 (by decide), n 6 (by decide)]
      · simp [q1]
    have W : CC 191 [.ref 91, .int p, .int q] i l f t sp (.int 0) (kupi (uPut i) 91 0 1) l f t sp := by
      intro sc d y nx hd L st cu su K
      have h91' : uPut i 91 3 = Int32.ofNat m := h91
      refine kCA_of (d := d + 499) (v := some (.int _)) (fun K => ?_)
      rw [km_191]
      show kWP sc (d + 499) 191 0 [.ref 91, .int p, .int q] [] _ K = _
      simp only [e_X11_man_0, e_X11_man_1, e_X11_man_2, e_X11_man_5, e_X11_man_6, e_X11_man_7, e_X11_man_10, e_X11_man_13, e_X11_man_14, e_X11_man_15, e_X11_man_16, e_X11_man_19, e_X11_man_22, e_X11_man_25, e_X11_man_26, e_X11_man_29, e_X11_man_30, e_X11_man_31, e_X11_man_68, e_X11_man_69, e_X11_man_72, e_X11_man_73, e_X11_man_74, e_X11_man_75, e_X11_man_76, e_X11_man_79, e_X11_man_80, e_X11_man_81, e_X11_man_82, e_X11_man_83, e_X11_man_86, e_X11_man_87, e_X11_man_88, e_X11_man_89, e_X11_man_90, e_X11_man_93, e_X11_man_95, e_X11_man_96, e_X11_man_97, e_X11_man_98, e_X11_man_99, e_X11_man_100, e_X11_man_103, e_X11_man_105, e_X11_man_106, e_X11_man_107, e_X11_man_110, e_X11_man_113, e_X11_man_114, e_X11_man_115, e_X11_man_116, e_X11_man_119, e_X11_man_120, e_X11_man_123, e_X11_man_124, e_X11_man_125, e_X11_man_126, e_X11_man_129, e_X11_man_130, e_X11_man_133, ob_91, rk_91_6, ar_94, rk_91_7, ar_95, rk_91_8, ar_96, kcl_i, kcl_r, kcl_l, kcl_0, kcl_n, true_and, and_true, uP_0, m_isMan h91' h8, kb_0, l0, l6, m_in, m_inI]
      by_cases q1 : pHas (Int32.ofNat m) p = true
      · have q2 : ¬ (¬ q < 0 ∧ ¬ 6 < q) := fun e => h0 ⟨q1, e⟩
        simp only [q1, q2, not_true_eq_false, not_false_eq_true, if_true, if_false, m_refuse, e_X11_man_0, e_X11_man_1, e_X11_man_2, e_X11_man_5, e_X11_man_6, e_X11_man_7, e_X11_man_10, e_X11_man_13, e_X11_man_14, e_X11_man_15, e_X11_man_16, e_X11_man_19, e_X11_man_22, e_X11_man_25, e_X11_man_26, e_X11_man_29, e_X11_man_30, e_X11_man_31, e_X11_man_68, e_X11_man_69, e_X11_man_72, e_X11_man_73, e_X11_man_74, e_X11_man_75, e_X11_man_76, e_X11_man_79, e_X11_man_80, e_X11_man_81, e_X11_man_82, e_X11_man_83, e_X11_man_86, e_X11_man_87, e_X11_man_88, e_X11_man_89, e_X11_man_90, e_X11_man_93, e_X11_man_95, e_X11_man_96, e_X11_man_97, e_X11_man_98, e_X11_man_99, e_X11_man_100, e_X11_man_103, e_X11_man_105, e_X11_man_106, e_X11_man_107, e_X11_man_110, e_X11_man_113, e_X11_man_114, e_X11_man_115, e_X11_man_116, e_X11_man_119, e_X11_man_120, e_X11_man_123, e_X11_man_124, e_X11_man_125, e_X11_man_126, e_X11_man_129, e_X11_man_130, e_X11_man_133, ob_91, rk_91_6, ar_94, rk_91_7, ar_95, rk_91_8, ar_96, kcl_i, kcl_r, kcl_l, kcl_0, kcl_n, true_and, and_true]
      · simp [q1, m_refuse, e_X11_man_29]
    refine ⟨.int 0, kupi (uPut i) 91 0 1, m, 0, ⟨0, rfl, by decide⟩, L_manT T, W, kupi_s, kIV_q h (ag_0 (ag_uu ag_r)) hW⟩
theorem L_thingN {p q v : Int32} (h : ∀ (sc : Nat × (Nat → Int32)) (d cu su : Nat) (K : Option (Option Value) → kS → Prop), kWP sc (d + 498) 101 0 [.ref 0, .int p, .int q] [] ((120, cu, su), i, l, kR f t sp) K = K (some (some (.int v))) ((120, cu, su), i1, l, kR f t sp)) : LC 258 [.ref 0, .int p, .int q, .ref 119] i l f t sp (.int 0) 0 0 i1 (kupl l 119 0 v.toInt64) := by
  intro sc d y nx hd L st cu su K
  refine kCA_of (d := d + 499) (v := some (.int _)) (fun K => ?_)
  rw [km_258]
  show kWP sc (d + 499) 258 0 [.ref 0, .int p, .int q, .ref 119, .retAddr 0] [] _ K = _
  have P := fun (y nx : Nat) (L st : List Value) (hd : List (Int × Nat)) (K : Option (Option Value) → kS → Prop) => kCA_of (sc := sc) (d := d + 498) (z := 101) (as := [.ref 0, .int p, .int q]) (y := y) (nx := nx) (hd := hd) (L := L) (st := st) (S := ((120, cu, su), i, l, kR f t sp)) (S2 := ((120, cu, su), i1, l, kR f t sp)) (v := some (.int v)) (K := K) (fun K => by rw [km_101]; exact h sc d cu su K)
  simp only [e_L_thing_0, e_L_thing_1, e_L_thing_2, e_L_thing_3, e_L_thing_4, e_L_thing_5, e_L_thing_8, e_L_thing_9, e_L_thing_10, e_L_thing_15, e_L_thing_16, e_L_thing_17, e_L_thing_18, ob_0, kcl_i, kcl_r, kcl_l, kcl_0, kcl_n, true_and, and_true, ob_0, show d + 499 = d + 498 + 1 from rfl, P, true_and]
  show kWP sc (d + 498 + 1) 258 8 _ [.int v, .int 0, .ref 119] _ K = _
  simp only [e_L_thing_0, e_L_thing_1, e_L_thing_2, e_L_thing_3, e_L_thing_4, e_L_thing_5, e_L_thing_8, e_L_thing_9, e_L_thing_10, e_L_thing_15, e_L_thing_16, e_L_thing_17, e_L_thing_18, ob_0, kcl_i, kcl_r, kcl_l, kcl_0, kcl_n, true_and, and_true, ar_119, k0_1, nc0, true_and]
  rfl
theorem L_thingT {p q : Int32} (h : ∀ (sc : Nat × (Nat → Int32)) (d cu su : Nat) (K : Option (Option Value) → kS → Prop), kWP sc (d + 498) 101 0 [.ref 0, .int p, .int q] [] ((120, cu, su), i, l, kR f t sp) K = K none ((120, cu + 1, su + 6), i, l, kR f t sp)) : LC 258 [.ref 0, .int p, .int q, .ref 119] i l f t sp (.int 1) 1 6 i l := by
  intro sc d y nx hd L st cu su K
  refine kCA_of (d := d + 499) (v := some (.int _)) (fun K => ?_)
  rw [km_258]
  show kWP sc (d + 499) 258 0 [.ref 0, .int p, .int q, .ref 119, .retAddr 0] [] _ K = _
  have P := fun (y nx : Nat) (L L2 st : List Value) (i0 : Int) (h0 : Nat) (K : Option (Option Value) → kS → Prop) (hL : kset (kclr L i0.toNat) i0.toNat (.retAddr 0) = L2) => kCA_thrown (sc := sc) (d := d + 498) (z := 101) (as := [.ref 0, .int p, .int q]) (y := y) (nx := nx) (h0 := h0) (t := []) (i0 := i0) (L := L) (L2 := L2) (st := st) (S := ((120, cu, su), i, l, kR f t sp)) (S2 := ((120, cu + 1, su + 6), i, l, kR f t sp)) (K := K) (fun K => by rw [km_101]; exact h sc d cu su K) hL
  simp only [e_L_thing_0, e_L_thing_1, e_L_thing_2, e_L_thing_3, e_L_thing_4, e_L_thing_5, e_L_thing_8, e_L_thing_9, e_L_thing_10, e_L_thing_15, e_L_thing_16, e_L_thing_17, e_L_thing_18, ob_0, kcl_i, kcl_r, kcl_l, kcl_0, kcl_n, true_and, and_true, ob_0, show d + 499 = d + 498 + 1 from rfl, true_and]
  rw [P _ _ _ [.ref 0, .int p, .int q, .ref 119, .retAddr 0] _ _ _ _ rfl]
  simp only [e_L_thing_0, e_L_thing_1, e_L_thing_2, e_L_thing_3, e_L_thing_4, e_L_thing_5, e_L_thing_8, e_L_thing_9, e_L_thing_10, e_L_thing_15, e_L_thing_16, e_L_thing_17, e_L_thing_18, ob_0, kcl_i, kcl_r, kcl_l, kcl_0, kcl_n, true_and, and_true]
theorem in3 {q : Int32} (h : ¬ q < 0 ∧ ¬ 2 < q) : q = 0 ∨ q = 1 ∨ q = 2 := by
  obtain ⟨z, hz, rfl⟩ := tn_exle (m := 2) (by decide) (Int32.not_lt.1 h.1) (Int32.not_lt.1 h.2)
  have : z = 0 ∨ z = 1 ∨ z = 2 := by omega
  rcases this with rfl | rfl | rfl
  · exact Or.inl rfl
  · exact Or.inr (Or.inl rfl)
  · exact Or.inr (Or.inr rfl)
theorem J_thing (h : IV m i l f t sp) (p q : Int32) : LJ 258 192 [.int p, .int q] Fi i l f t sp := by
  obtain ⟨⟨h5, h91, h8, e9, hle, hp⟩, hX, hW, hN, _⟩ := id h
  have hNow := IV_now h
  by_cases h0 : (¬ p < 0 ∧ ¬ 8 ≤ p) ∧ ¬ q < 0 ∧ ¬ 2 < q
  · obtain ⟨a, ha, rfl⟩ := tn_ex (m := 8) (by decide) (Int32.not_lt.1 h0.1.1) (Int32.not_le.1 h0.1.2)
    obtain ⟨B, hB⟩ : ∃ B, B = pSayers (mCo i) (i 96 17) (i 96 18) (Int32.ofNat m) (Int32.ofNat a) m := ⟨_, rfl⟩
    obtain ⟨v, hv⟩ : ∃ v, v = if q = 0 then i 93 a else if q = 1 then kb ((i 96 17 >>> (Int32.ofNat a &&& 31)) &&& 1 = 1) else B := ⟨_, rfl⟩
    have eB : pSayers (i 8) (i 10 0) (i 10 1) (i 5 0) (Int32.ofNat a) m = B := by
      rw [hB, hNow.1, hNow.2.1, h5]
      exact kfo_congr (fun x hx b => by rw [pSay_c (co2 := mCo i) (fun a ha => (hp a ha).2.2) h8 hx])
    have eH : (i 96 17 >>> (Int32.ofNat a &&& 31)) &&& 1 = kb ((i 96 17 >>> (Int32.ofNat a &&& 31)) &&& 1 = 1) := bit_kb
    have C : ∀ (sc : Nat × (Nat → Int32)) (d cu su : Nat) (K : Option (Option Value) → kS → Prop), kWP sc (d + 498) 101 0 [.ref 0, .int (Int32.ofNat a), .int q] [] ((120, cu, su), i, l, kR f t sp) K = K (some (some (.int v))) ((120, cu, su), i, l, kR f t sp) := by
      intro sc d cu su K
      simp only [e_X10_thing_0, e_X10_thing_1, e_X10_thing_4, e_X10_thing_17, e_X10_thing_18, e_X10_thing_44, e_X10_thing_45, e_X10_thing_48, e_X10_thing_51, e_X10_thing_52, e_X10_thing_53, e_X10_thing_54, e_X10_thing_55, e_X10_thing_58, e_X10_thing_61, e_X10_thing_62, e_X10_thing_63, e_X10_thing_64, e_X10_thing_65, e_X10_thing_66, e_X10_thing_67, e_X10_thing_70, e_X10_thing_71, e_X10_thing_74, e_X10_thing_75, e_X10_thing_78, ob_0, rk_0_2, ob_5, rk_5_4, ar_9, rk_0_3, ob_10, ob_13, kcl_i, kcl_r, kcl_l, kcl_0, kcl_n, true_and, and_true, c_isThing, kb_0, h0.1, not_true_eq_false, not_false_eq_true, and_self, if_false]
      rw [hv]
      rcases in3 h0.2 with rfl | rfl | rfl
      · simp only [if_true, kin8 ha, cl_n (show a < 100000 by omega), e9, true_and]
      · simp only [z10, if_true, if_false, hNow.1, ← eH]
      · simp only [z20, z21, if_true, if_false, c_sayers c10 h5 h8, eB, e_X10_thing_0, e_X10_thing_1, e_X10_thing_4, e_X10_thing_17, e_X10_thing_18, e_X10_thing_44, e_X10_thing_45, e_X10_thing_48, e_X10_thing_51, e_X10_thing_52, e_X10_thing_53, e_X10_thing_54, e_X10_thing_55, e_X10_thing_58, e_X10_thing_61, e_X10_thing_62, e_X10_thing_63, e_X10_thing_64, e_X10_thing_65, e_X10_thing_66, e_X10_thing_67, e_X10_thing_70, e_X10_thing_71, e_X10_thing_74, e_X10_thing_75, e_X10_thing_78, ob_0, rk_0_2, ob_5, rk_5_4, ar_9, rk_0_3, ob_10, ob_13, kcl_i, kcl_r, kcl_l, kcl_0, kcl_n, true_and, and_true]
    have W : ∀ l', CC 192 [.ref 91, .int (Int32.ofNat a), .int q] i l' f t sp (.int v) (uPut i) l' f t sp := by
      intro l' sc d y nx hd L st cu su K
      have h91' : uPut i 91 3 = Int32.ofNat m := h91
      have n7 : (Int32.ofNat a < 0) = False := tn_n0 (by omega)
      refine kCA_of (d := d + 499) (v := some (.int _)) (fun K => ?_)
      rw [km_192]
      show kWP sc (d + 499) 192 0 [.ref 91, .int (Int32.ofNat a), .int q, .retAddr 0, .retAddr 0] [] _ K = _
      simp only [e_X11_thing_0, e_X11_thing_1, e_X11_thing_2, e_X11_thing_5, e_X11_thing_6, e_X11_thing_9, e_X11_thing_12, e_X11_thing_13, e_X11_thing_14, e_X11_thing_15, e_X11_thing_18, e_X11_thing_21, e_X11_thing_24, e_X11_thing_25, e_X11_thing_28, e_X11_thing_29, e_X11_thing_30, e_X11_thing_31, e_X11_thing_32, e_X11_thing_36, e_X11_thing_37, e_X11_thing_40, e_X11_thing_43, e_X11_thing_44, e_X11_thing_45, e_X11_thing_46, e_X11_thing_49, e_X11_thing_51, e_X11_thing_54, e_X11_thing_55, e_X11_thing_58, e_X11_thing_61, e_X11_thing_62, e_X11_thing_64, e_X11_thing_65, e_X11_thing_68, e_X11_thing_69, e_X11_thing_70, e_X11_thing_71, e_X11_thing_74, e_X11_thing_77, e_X11_thing_78, e_X11_thing_81, e_X11_thing_82, e_X11_thing_85, e_X11_thing_86, e_X11_thing_87, e_X11_thing_90, e_X11_thing_91, e_X11_thing_92, e_X11_thing_95, e_X11_thing_96, e_X11_thing_99, e_X11_thing_101, e_X11_thing_102, e_X11_thing_103, e_X11_thing_106, e_X11_thing_109, e_X11_thing_112, e_X11_thing_113, ob_91, rk_91_8, ar_96, rk_91_5, ar_93, kcl_i, kcl_r, kcl_l, kcl_0, kcl_n, true_and, and_true, uP_0, m_isThing, kb_0, h0.1, l0, l2', m_in, m_inI, h0.2, not_true_eq_false, not_false_eq_true, and_self, if_false]
      refine (k_for (P := fun x (b : Int32) => kWP sc (d + 499) 192 34 [.ref 91, .int (Int32.ofNat a), .int q, .int b, .int (Int32.ofNat x)] [] ((120, cu, su), uPut i, l', kR f t sp) K) (n := m) (g := fun x b => b ||| (((pSay (mCo i) (i 96 17) (i 96 18) (Int32.ofNat m) (Int32.ofNat x) >>> (Int32.ofNat a &&& 31)) &&& 1) <<< (Int32.ofNat x &&& 31))) ?_ 0).trans ?_
      · intro x b hx
        refine e_X11_thing_34.trans ?_
        simp only [e_X11_thing_0, e_X11_thing_1, e_X11_thing_2, e_X11_thing_5, e_X11_thing_6, e_X11_thing_9, e_X11_thing_12, e_X11_thing_13, e_X11_thing_14, e_X11_thing_15, e_X11_thing_18, e_X11_thing_21, e_X11_thing_24, e_X11_thing_25, e_X11_thing_28, e_X11_thing_29, e_X11_thing_30, e_X11_thing_31, e_X11_thing_32, e_X11_thing_36, e_X11_thing_37, e_X11_thing_40, e_X11_thing_43, e_X11_thing_44, e_X11_thing_45, e_X11_thing_46, e_X11_thing_49, e_X11_thing_51, e_X11_thing_54, e_X11_thing_55, e_X11_thing_58, e_X11_thing_61, e_X11_thing_62, e_X11_thing_64, e_X11_thing_65, e_X11_thing_68, e_X11_thing_69, e_X11_thing_70, e_X11_thing_71, e_X11_thing_74, e_X11_thing_77, e_X11_thing_78, e_X11_thing_81, e_X11_thing_82, e_X11_thing_85, e_X11_thing_86, e_X11_thing_87, e_X11_thing_90, e_X11_thing_91, e_X11_thing_92, e_X11_thing_95, e_X11_thing_96, e_X11_thing_99, e_X11_thing_101, e_X11_thing_102, e_X11_thing_103, e_X11_thing_106, e_X11_thing_109, e_X11_thing_112, e_X11_thing_113, ob_91, rk_91_8, ar_96, rk_91_5, ar_93, kcl_i, kcl_r, kcl_l, kcl_0, kcl_n, true_and, and_true, h91', jpF hx (by omega), if_false, m_canSay b96 hx h8, mCo_u, u96, m_has, kb_0, tn_s]
        rw [sh_one (and_one _)]
        rcases and_one (pSay (mCo i) (i 96 17) (i 96 18) (Int32.ofNat m) (Int32.ofNat x) >>> (Int32.ofNat a &&& 31)) with z | z
        · simp only [z, z01, not_false_eq_true, if_true, or_0]
        · simp only [z, z10, not_true_eq_false, if_false]
      · have eB2 : kfo (fun x b => b ||| (((pSay (mCo i) (i 96 17) (i 96 18) (Int32.ofNat m) (Int32.ofNat x) >>> (Int32.ofNat a &&& 31)) &&& 1) <<< (Int32.ofNat x &&& 31))) m 0 = B := hB.symm
        rw [eB2]
        refine e_X11_thing_34.trans ?_
        simp only [e_X11_thing_0, e_X11_thing_1, e_X11_thing_2, e_X11_thing_5, e_X11_thing_6, e_X11_thing_9, e_X11_thing_12, e_X11_thing_13, e_X11_thing_14, e_X11_thing_15, e_X11_thing_18, e_X11_thing_21, e_X11_thing_24, e_X11_thing_25, e_X11_thing_28, e_X11_thing_29, e_X11_thing_30, e_X11_thing_31, e_X11_thing_32, e_X11_thing_36, e_X11_thing_37, e_X11_thing_40, e_X11_thing_43, e_X11_thing_44, e_X11_thing_45, e_X11_thing_46, e_X11_thing_49, e_X11_thing_51, e_X11_thing_54, e_X11_thing_55, e_X11_thing_58, e_X11_thing_61, e_X11_thing_62, e_X11_thing_64, e_X11_thing_65, e_X11_thing_68, e_X11_thing_69, e_X11_thing_70, e_X11_thing_71, e_X11_thing_74, e_X11_thing_77, e_X11_thing_78, e_X11_thing_81, e_X11_thing_82, e_X11_thing_85, e_X11_thing_86, e_X11_thing_87, e_X11_thing_90, e_X11_thing_91, e_X11_thing_92, e_X11_thing_95, e_X11_thing_96, e_X11_thing_99, e_X11_thing_101, e_X11_thing_102, e_X11_thing_103, e_X11_thing_106, e_X11_thing_109, e_X11_thing_112, e_X11_thing_113, ob_91, rk_91_8, ar_96, rk_91_5, ar_93, kcl_i, kcl_r, kcl_l, kcl_0, kcl_n, true_and, and_true, h91', Int32.le_refl, if_true]
        rw [hv]
        rcases in3 h0.2 with rfl | rfl | rfl
        · simp only [if_true, kin8 ha, cl_n (show a < 100000 by omega), u93, true_and]
        · simp only [z10, if_true, if_false, u96, ki17, ni17, m_has, m_flag, m_flagkb, e_X11_thing_0, e_X11_thing_1, e_X11_thing_2, e_X11_thing_5, e_X11_thing_6, e_X11_thing_9, e_X11_thing_12, e_X11_thing_13, e_X11_thing_14, e_X11_thing_15, e_X11_thing_18, e_X11_thing_21, e_X11_thing_24, e_X11_thing_25, e_X11_thing_28, e_X11_thing_29, e_X11_thing_30, e_X11_thing_31, e_X11_thing_32, e_X11_thing_36, e_X11_thing_37, e_X11_thing_40, e_X11_thing_43, e_X11_thing_44, e_X11_thing_45, e_X11_thing_46, e_X11_thing_49, e_X11_thing_51, e_X11_thing_54, e_X11_thing_55, e_X11_thing_58, e_X11_thing_61, e_X11_thing_62, e_X11_thing_64, e_X11_thing_65, e_X11_thing_68, e_X11_thing_69, e_X11_thing_70, e_X11_thing_71, e_X11_thing_74, e_X11_thing_77, e_X11_thing_78, e_X11_thing_81, e_X11_thing_82, e_X11_thing_85, e_X11_thing_86, e_X11_thing_87, e_X11_thing_90, e_X11_thing_91, e_X11_thing_92, e_X11_thing_95, e_X11_thing_96, e_X11_thing_99, e_X11_thing_101, e_X11_thing_102, e_X11_thing_103, e_X11_thing_106, e_X11_thing_109, e_X11_thing_112, e_X11_thing_113, ob_91, rk_91_8, ar_96, rk_91_5, ar_93, kcl_i, kcl_r, kcl_l, kcl_0, kcl_n, true_and, and_true]
        · simp only [z20, z21, if_false]
    left
    refine ⟨v.toInt64, .int v, i, uPut i, m, ⟨v, rfl, rfl⟩, L_thingN C, W _, rfl, kIV_q h (ag_uu ag_r) ?_⟩
    exact IW_119 hW
  · right
    have T : ∀ (sc : Nat × (Nat → Int32)) (d cu su : Nat) (K : Option (Option Value) → kS → Prop), kWP sc (d + 498) 101 0 [.ref 0, .int p, .int q] [] ((120, cu, su), i, l, kR f t sp) K = K none ((120, cu + 1, su + 6), i, l, kR f t sp) := by
      intro sc d cu su K
      simp only [e_X10_thing_0, e_X10_thing_1, e_X10_thing_4, e_X10_thing_7, e_X10_thing_17, e_X10_thing_18, e_X10_thing_44, e_X10_thing_45, e_X10_thing_48, e_X10_thing_51, e_X10_thing_52, e_X10_thing_53, e_X10_thing_54, e_X10_thing_55, e_X10_thing_58, e_X10_thing_61, e_X10_thing_62, e_X10_thing_63, e_X10_thing_64, e_X10_thing_65, e_X10_thing_66, e_X10_thing_67, e_X10_thing_70, e_X10_thing_71, e_X10_thing_74, e_X10_thing_75, e_X10_thing_78, e_X10_thing_79, ob_0, rk_0_2, ob_5, rk_5_4, ar_9, rk_0_3, ob_10, ob_13, kcl_i, kcl_r, kcl_l, kcl_0, kcl_n, true_and, and_true, c_isThing, kb_0]
      by_cases q1 : ¬ p < 0 ∧ ¬ 8 ≤ p
      · have q2 : ¬ (¬ q < 0 ∧ ¬ 2 < q) := fun e => h0 ⟨q1, e⟩
        have n : ∀ z : Int32, (¬ z < 0 ∧ ¬ 2 < z) → ¬ q = z := fun z hz e => q2 (by rw [e]; exact hz)
        simp only [q1, not_true_eq_false, not_false_eq_true, and_self, if_false, n 0 (by decide), n 1 (by decide), n 2 (by decide)]
      · simp only [q1, not_false_eq_true, if_true]
    have W : CC 192 [.ref 91, .int p, .int q] i l f t sp (.int 0) (kupi (uPut i) 91 0 1) l f t sp := by
      intro sc d y nx hd L st cu su K
      refine kCA_of (d := d + 499) (v := some (.int _)) (fun K => ?_)
      rw [km_192]
      show kWP sc (d + 499) 192 0 [.ref 91, .int p, .int q, .retAddr 0, .retAddr 0] [] _ K = _
      simp only [e_X11_thing_0, e_X11_thing_1, e_X11_thing_2, e_X11_thing_5, e_X11_thing_6, e_X11_thing_9, e_X11_thing_12, e_X11_thing_13, e_X11_thing_14, e_X11_thing_15, e_X11_thing_18, e_X11_thing_21, e_X11_thing_24, e_X11_thing_25, e_X11_thing_28, e_X11_thing_29, e_X11_thing_30, e_X11_thing_31, e_X11_thing_32, e_X11_thing_36, e_X11_thing_37, e_X11_thing_40, e_X11_thing_43, e_X11_thing_44, e_X11_thing_45, e_X11_thing_46, e_X11_thing_49, e_X11_thing_51, e_X11_thing_54, e_X11_thing_55, e_X11_thing_58, e_X11_thing_61, e_X11_thing_62, e_X11_thing_64, e_X11_thing_65, e_X11_thing_68, e_X11_thing_69, e_X11_thing_70, e_X11_thing_71, e_X11_thing_74, e_X11_thing_77, e_X11_thing_78, e_X11_thing_81, e_X11_thing_82, e_X11_thing_85, e_X11_thing_86, e_X11_thing_87, e_X11_thing_90, e_X11_thing_91, e_X11_thing_92, e_X11_thing_95, e_X11_thing_96, e_X11_thing_99, e_X11_thing_101, e_X11_thing_102, e_X11_thing_103, e_X11_thing_106, e_X11_thing_109, e_X11_thing_112, e_X11_thing_113, ob_91, rk_91_8, ar_96, rk_91_5, ar_93, kcl_i, kcl_r, kcl_l, kcl_0, kcl_n, true_and, and_true, uP_0, m_isThing, kb_0, l0, l2', m_in, m_inI]
      by_cases q1 : ¬ p < 0 ∧ ¬ 8 ≤ p
      · have q2 : ¬ (¬ q < 0 ∧ ¬ 2 < q) := fun e => h0 ⟨q1, e⟩
        simp only [q1, q2, not_true_eq_false, not_false_eq_true, and_self, if_true, if_false, m_refuse, e_X11_thing_0, e_X11_thing_1, e_X11_thing_2, e_X11_thing_5, e_X11_thing_6, e_X11_thing_9, e_X11_thing_12, e_X11_thing_13, e_X11_thing_14, e_X11_thing_15, e_X11_thing_18, e_X11_thing_21, e_X11_thing_24, e_X11_thing_25, e_X11_thing_28, e_X11_thing_29, e_X11_thing_30, e_X11_thing_31, e_X11_thing_32, e_X11_thing_36, e_X11_thing_37, e_X11_thing_40, e_X11_thing_43, e_X11_thing_44, e_X11_thing_45, e_X11_thing_46, e_X11_thing_49, e_X11_thing_51, e_X11_thing_54, e_X11_thing_55, e_X11_thing_58, e_X11_thing_61, e_X11_thing_62, e_X11_thing_64, e_X11_thing_65, e_X11_thing_68, e_X11_thing_69, e_X11_thing_70, e_X11_thing_71, e_X11_thing_74, e_X11_thing_77, e_X11_thing_78, e_X11_thing_81, e_X11_thing_82, e_X11_thing_85, e_X11_thing_86, e_X11_thing_87, e_X11_thing_90, e_X11_thing_91, e_X11_thing_92, e_X11_thing_95, e_X11_thing_96, e_X11_thing_99, e_X11_thing_101, e_X11_thing_102, e_X11_thing_103, e_X11_thing_106, e_X11_thing_109, e_X11_thing_112, e_X11_thing_113, ob_91, rk_91_8, ar_96, rk_91_5, ar_93, kcl_i, kcl_r, kcl_l, kcl_0, kcl_n, true_and, and_true]
      · simp only [q1, not_false_eq_true, if_true, m_refuse, e_X11_thing_0, e_X11_thing_1, e_X11_thing_2, e_X11_thing_5, e_X11_thing_6, e_X11_thing_9, e_X11_thing_12, e_X11_thing_13, e_X11_thing_14, e_X11_thing_15, e_X11_thing_18, e_X11_thing_21, e_X11_thing_24, e_X11_thing_25, e_X11_thing_28, e_X11_thing_29, e_X11_thing_30, e_X11_thing_31, e_X11_thing_32, e_X11_thing_36, e_X11_thing_37, e_X11_thing_40, e_X11_thing_43, e_X11_thing_44, e_X11_thing_45, e_X11_thing_46, e_X11_thing_49, e_X11_thing_51, e_X11_thing_54, e_X11_thing_55, e_X11_thing_58, e_X11_thing_61, e_X11_thing_62, e_X11_thing_64, e_X11_thing_65, e_X11_thing_68, e_X11_thing_69, e_X11_thing_70, e_X11_thing_71, e_X11_thing_74, e_X11_thing_77, e_X11_thing_78, e_X11_thing_81, e_X11_thing_82, e_X11_thing_85, e_X11_thing_86, e_X11_thing_87, e_X11_thing_90, e_X11_thing_91, e_X11_thing_92, e_X11_thing_95, e_X11_thing_96, e_X11_thing_99, e_X11_thing_101, e_X11_thing_102, e_X11_thing_103, e_X11_thing_106, e_X11_thing_109, e_X11_thing_112, e_X11_thing_113, ob_91, rk_91_8, ar_96, rk_91_5, ar_93, kcl_i, kcl_r, kcl_l, kcl_0, kcl_n, true_and, and_true]
    refine ⟨.int 0, kupi (uPut i) 91 0 1, m, 0, ⟨0, rfl, by decide⟩, L_thingT T, W, kupi_s, kIV_q h (ag_0 (ag_uu ag_r)) hW⟩
theorem J_row (h : IV m i l f t sp) (p : Int32) : LJ 259 254 [.int p] Fl i l f t sp := by
  obtain ⟨⟨h5, h91, h8, e9, hle, hp⟩, hX, ⟨n, n128, w1, w2, w3⟩, hN, _⟩ := id h
  have eI : (¬ p < 0 ∧ ¬ Int32.ofNat n - 1 < p) ↔ (¬ p < 0 ∧ p < Int32.ofNat n) := by
    by_cases z : n = 0
    · subst z
      rw [show Int32.ofNat 0 - 1 = (-1 : Int32) from by decide, Int32.lt_iff_toInt_lt, Int32.lt_iff_toInt_lt, Int32.lt_iff_toInt_lt, show (-1 : Int32).toInt = -1 from by decide, show (0 : Int32).toInt = 0 from by decide, show (Int32.ofNat 0).toInt = 0 from by decide]; omega
    · rw [tn_sub (by omega), Int32.lt_iff_toInt_lt, Int32.lt_iff_toInt_lt, Int32.lt_iff_toInt_lt, Int32.toInt_ofNat_of_lt (show n - 1 < 2147483648 by omega), Int32.toInt_ofNat_of_lt (show n < 2147483648 by omega), show (0 : Int32).toInt = 0 from by decide]; omega
  by_cases h0 : ¬ p < 0 ∧ p < Int32.ofNat n
  · obtain ⟨a, ha, rfl⟩ := tn_ex (m := n) (by omega) (Int32.not_lt.1 h0.1) h0.2
    have hI := eI.2 h0
    have k128 : kin (Int32.ofNat a) 128 = True := by rw [tn_kin (by omega)]; exact eq_true (by omega)
    have k256 : kin (Int32.ofNat a) 256 = True := by rw [tn_kin (by omega)]; exact eq_true (by omega)
    left
    refine ⟨l 4 a, .long (l 4 a), i, uPut i, m, rfl, ?_, ?_, rfl, kIV_q h (ag_uu ag_r) (IW_119 ⟨n, n128, w1, w2, w3⟩)⟩
    · intro sc d y nx hd L st cu su K
      have P := fun (y nx : Nat) (L st : List Value) (hd : List (Int × Nat)) (K : Option (Option Value) → kS → Prop) => kCA_of (sc := sc) (d := d + 498) (z := 136) (as := [.ref 0, .int (Int32.ofNat a)]) (y := y) (nx := nx) (hd := hd) (L := L) (st := st) (S := ((120, cu, su), i, l, kR f t sp)) (S2 := ((120, cu, su), i, l, kR f t sp)) (v := some (.long (l 4 a))) (K := K) (fun K => by
        rw [km_136]
        show kWP sc (d + 498) 136 0 [.ref 0, .int (Int32.ofNat a)] [] _ K = _
        simp only [e_X10_row_0, e_X10_row_1, e_X10_row_4, e_X10_row_5, e_X10_row_6, e_X10_row_9, e_X10_row_12, e_X10_row_15, e_X10_row_26, e_X10_row_27, e_X10_row_30, e_X10_row_33, e_X10_row_34, e_X10_row_35, ob_0, rk_0_1, ob_3, rk_3_0, ar_4, kcl_i, kcl_r, kcl_l, kcl_0, kcl_n, true_and, and_true, h0.1, w1, h0.2, if_true, if_false, k128, cl_n (show a < 100000 by omega), true_and])
      show kCA sc (d + 500) 259 [.ref 0, .int (Int32.ofNat a), .ref 119] y nx hd L st _ K = _
      refine kCA_of (d := d + 499) (v := some (.int _)) (fun K => ?_)
      rw [km_259]
      show kWP sc (d + 499) 259 0 [.ref 0, .int (Int32.ofNat a), .ref 119, .retAddr 0] [] _ K = _
      simp only [e_L_row_0, e_L_row_1, e_L_row_2, e_L_row_3, e_L_row_4, e_L_row_7, e_L_row_8, e_L_row_12, e_L_row_13, e_L_row_14, e_L_row_15, ob_0, kcl_i, kcl_r, kcl_l, kcl_0, kcl_n, true_and, and_true, ob_0, show d + 499 = d + 498 + 1 from rfl, P, true_and]
      show kWP sc (d + 498 + 1) 259 7 _ [.long (l 4 a), .int 0, .ref 119] _ K = _
      simp only [e_L_row_0, e_L_row_1, e_L_row_2, e_L_row_3, e_L_row_4, e_L_row_7, e_L_row_8, e_L_row_12, e_L_row_13, e_L_row_14, e_L_row_15, ob_0, kcl_i, kcl_r, kcl_l, kcl_0, kcl_n, true_and, and_true, ar_119, k0_1, nc0, true_and]
      rfl
    · intro sc d y nx hd L st cu su K
      have t1 : uPut i 91 1 = Int32.ofNat n := w2
      have e92 : kupl l 119 0 (l 4 a) 92 a = l 4 a := by rw [kupl_c (by decide)]; exact (w3 a ha).symm
      refine kCA_of (d := d + 499) (v := some (.long _)) (fun K => ?_)
      rw [km_254]
      show kWP sc (d + 499) 254 0 [.ref 91, .int (Int32.ofNat a)] [] _ K = _
      simp only [e_X11_row_0, e_X11_row_1, e_X11_row_2, e_X11_row_5, e_X11_row_6, e_X11_row_7, e_X11_row_8, e_X11_row_9, e_X11_row_12, e_X11_row_13, e_X11_row_14, e_X11_row_15, e_X11_row_18, e_X11_row_21, e_X11_row_22, e_X11_row_23, e_X11_row_26, e_X11_row_27, e_X11_row_28, e_X11_row_29, e_X11_row_32, e_X11_row_33, e_X11_row_34, ob_91, rk_91_2, ar_92, kcl_i, kcl_r, kcl_l, kcl_0, kcl_n, true_and, and_true, uP_0, t1, l0, m_in, m_inI, kb_0, hI, not_true_eq_false, not_false_eq_true, and_self, if_false, k256, cl_n (show a < 100000 by omega), e92, true_and]
  · right
    have hI : ¬ (¬ p < 0 ∧ ¬ Int32.ofNat n - 1 < p) := fun e => h0 (eI.1 e)
    refine ⟨.long 0, kupi (uPut i) 91 0 1, m, 0, rfl, ?_, ?_, kupi_s, kIV_q h (ag_0 (ag_uu ag_r)) ⟨n, n128, w1, w2, w3⟩⟩
    · intro sc d y nx hd L st cu su K
      have P := fun (y nx : Nat) (L L2 st : List Value) (i0 : Int) (h1 : Nat) (K : Option (Option Value) → kS → Prop) (hL : kset (kclr L i0.toNat) i0.toNat (.retAddr 0) = L2) => kCA_thrown (sc := sc) (d := d + 498) (z := 136) (as := [.ref 0, .int p]) (y := y) (nx := nx) (h0 := h1) (t := []) (i0 := i0) (L := L) (L2 := L2) (st := st) (S := ((120, cu, su), i, l, kR f t sp)) (S2 := ((120, cu + 1, su + 6), i, l, kR f t sp)) (K := K) (fun K => by
        rw [km_136]
        show kWP sc (d + 498) 136 0 [.ref 0, .int p] [] _ K = _
        by_cases q1 : p < 0
        · simp only [e_X10_row_0, e_X10_row_1, e_X10_row_4, e_X10_row_5, e_X10_row_6, e_X10_row_9, e_X10_row_12, e_X10_row_15, e_X10_row_26, e_X10_row_27, e_X10_row_30, e_X10_row_33, e_X10_row_34, e_X10_row_35, ob_0, rk_0_1, ob_3, rk_3_0, ar_4, kcl_i, kcl_r, kcl_l, kcl_0, kcl_n, true_and, and_true, q1, if_true]
        · have q2 : ¬ p < Int32.ofNat n := fun e => h0 ⟨q1, e⟩
          simp only [e_X10_row_0, e_X10_row_1, e_X10_row_4, e_X10_row_5, e_X10_row_6, e_X10_row_9, e_X10_row_12, e_X10_row_15, e_X10_row_26, e_X10_row_27, e_X10_row_30, e_X10_row_33, e_X10_row_34, e_X10_row_35, ob_0, rk_0_1, ob_3, rk_3_0, ar_4, kcl_i, kcl_r, kcl_l, kcl_0, kcl_n, true_and, and_true, q1, w1, q2, if_false]) hL
      show kCA sc (d + 500) 259 [.ref 0, .int p, .ref 119] y nx hd L st _ K = _
      refine kCA_of (d := d + 499) (v := some (.int _)) (fun K => ?_)
      rw [km_259]
      show kWP sc (d + 499) 259 0 [.ref 0, .int p, .ref 119, .retAddr 0] [] _ K = _
      simp only [e_L_row_0, e_L_row_1, e_L_row_2, e_L_row_3, e_L_row_4, e_L_row_7, e_L_row_8, e_L_row_12, e_L_row_13, e_L_row_14, e_L_row_15, ob_0, kcl_i, kcl_r, kcl_l, kcl_0, kcl_n, true_and, and_true, ob_0, show d + 499 = d + 498 + 1 from rfl, true_and]
      rw [P _ _ _ [.ref 0, .int p, .ref 119, .retAddr 0] _ _ _ _ rfl]
      simp only [e_L_row_0, e_L_row_1, e_L_row_2, e_L_row_3, e_L_row_4, e_L_row_7, e_L_row_8, e_L_row_12, e_L_row_13, e_L_row_14, e_L_row_15, ob_0, kcl_i, kcl_r, kcl_l, kcl_0, kcl_n, true_and, and_true]
    · intro sc d y nx hd L st cu su K
      have t1 : uPut i 91 1 = Int32.ofNat n := w2
      refine kCA_of (d := d + 499) (v := some (.long _)) (fun K => ?_)
      rw [km_254]
      show kWP sc (d + 499) 254 0 [.ref 91, .int p] [] _ K = _
      simp only [e_X11_row_0, e_X11_row_1, e_X11_row_2, e_X11_row_5, e_X11_row_6, e_X11_row_7, e_X11_row_8, e_X11_row_9, e_X11_row_12, e_X11_row_13, e_X11_row_14, e_X11_row_15, e_X11_row_18, e_X11_row_21, e_X11_row_22, e_X11_row_23, e_X11_row_26, e_X11_row_27, e_X11_row_28, e_X11_row_29, e_X11_row_32, e_X11_row_33, e_X11_row_34, ob_91, rk_91_2, ar_92, kcl_i, kcl_r, kcl_l, kcl_0, kcl_n, true_and, and_true, uP_0, t1, l0, m_in, m_inI, kb_0, hI, not_false_eq_true, if_true]
end TC
