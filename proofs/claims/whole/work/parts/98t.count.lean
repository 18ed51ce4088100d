/-! count, sheet -/
section TC
variable {sc : Nat × (Nat → Int32)} {d y nx : Nat} {hd : List (Int × Nat)} {L st : List Value} {S : kS} {cu su : Nat} {i : Nat → Nat → Int32} {l : Nat → Nat → Int64} {f t c b m : Nat} {sp : Nat → Nat} {K : Option (Option Value) → kS → Prop}
variable {N M Z S1 Q A : Nat → Int32} {i1 i2 i3 : Nat → Nat → Int32} {l2 : Nat → Nat → Int64} {n n2 k x : Nat} {v r : Int32} {zs zs2 : List Int64} {le co br acts code co2 br2 : Nat → Int32} {s : Nat × (Nat → Int32)} {w : WN} {u : WM} {sp2 : Nat → Nat}
def pSum (A : Nat → Int32) (n : Nat) : Int32 := kfo (fun x s => s + A x) n 0
theorem sh_11 : kSH 11 = .inr (0, 8) := by decide +kernel
theorem sh_12 : kSH 12 = .inr (0, 8) := by decide +kernel
theorem sh_9 : kSH 9 = .inr (0, 8) := by decide +kernel
theorem c_sumOf {b : Nat} (hb : b = 11 ∨ b = 12 ∨ b = 9) : kCA sc (d + 1) 153 [.ref b] y nx hd L st ((120, cu, su), i, l, kR f t sp) K = kWP sc (d + 1) y nx L (.int (pSum (i b) 8) :: st) ((120, cu, su), i, l, kR f t sp) K := by
  have hsh : kSH b = .inr (0, 8) := by
    rcases hb with rfl | rfl | rfl
    · exact sh_11
    · exact sh_12
    · exact sh_9
  have hbl : (b < 120) = True := by rcases hb with rfl | rfl | rfl <;> exact eq_true (by decide)
  have har : ∀ j : Int32, kar (120, cu, su) b 0 j = kin j 8 := by
    intro j
    rcases hb with rfl | rfl | rfl
    · exact ar_11
    · exact ar_12
    · exact ar_9
  refine kCA_of (d := d) (v := some (.int (pSum (i b) 8))) (fun K => ?_)
  rw [km_153]
  show kWP sc d 153 0 [.ref b, .retAddr 0, .retAddr 0, .retAddr 0, .retAddr 0, .retAddr 0] [] ((120, cu, su), i, l, kR f t sp) K = _
  simp only [e_X10_sumOf_0, e_X10_sumOf_1, e_X10_sumOf_2, e_X10_sumOf_3, e_X10_sumOf_4, e_X10_sumOf_6, e_X10_sumOf_7, e_X10_sumOf_8, e_X10_sumOf_12, e_X10_sumOf_13, e_X10_sumOf_16, e_X10_sumOf_17, e_X10_sumOf_19, e_X10_sumOf_20, e_X10_sumOf_22, e_X10_sumOf_23, e_X10_sumOf_25, e_X10_sumOf_26, e_X10_sumOf_27, e_X10_sumOf_30, e_X10_sumOf_33, e_X10_sumOf_34, kcl_i, kcl_r, kcl_l, kcl_0, kcl_n, true_and, and_true, e_X10_sumOf_5 hsh, hbl]
  have E := k_lq (n := 8) (Q := fun x (w : Int32 × Value) => kWP sc d 153 10 [.ref b, .int w.1, .ref b, .int (Int32.ofNat 8), .int (Int32.ofNat x), w.2] [] ((120, cu, su), i, l, kR f t sp) K) (I := fun x w => w.1 = pSum (i b) x) (b0 := (0, .retAddr 0)) ?_ rfl
  · obtain ⟨⟨w, v5⟩, hw, e⟩ := E
    have hw' : w = pSum (i b) 8 := hw
    refine e.trans ?_
    refine e_X10_sumOf_10.trans ?_
    simp only [e_X10_sumOf_0, e_X10_sumOf_1, e_X10_sumOf_2, e_X10_sumOf_3, e_X10_sumOf_4, e_X10_sumOf_6, e_X10_sumOf_7, e_X10_sumOf_8, e_X10_sumOf_12, e_X10_sumOf_13, e_X10_sumOf_16, e_X10_sumOf_17, e_X10_sumOf_19, e_X10_sumOf_20, e_X10_sumOf_22, e_X10_sumOf_23, e_X10_sumOf_25, e_X10_sumOf_26, e_X10_sumOf_27, e_X10_sumOf_30, e_X10_sumOf_33, e_X10_sumOf_34, kcl_i, kcl_r, kcl_l, kcl_0, kcl_n, true_and, and_true, Int32.le_refl, if_true]
    rw [hw']
  · intro x ⟨w, v5⟩ hx hI
    have hI' : w = pSum (i b) x := hI
    refine ⟨(w + i b x, .int (i b x)), ?_, ?_⟩
    · show w + i b x = pSum (i b) x + i b x; rw [hI']
    · refine e_X10_sumOf_10.trans ?_
      simp only [e_X10_sumOf_0, e_X10_sumOf_1, e_X10_sumOf_2, e_X10_sumOf_3, e_X10_sumOf_4, e_X10_sumOf_6, e_X10_sumOf_7, e_X10_sumOf_8, e_X10_sumOf_12, e_X10_sumOf_13, e_X10_sumOf_16, e_X10_sumOf_17, e_X10_sumOf_19, e_X10_sumOf_20, e_X10_sumOf_22, e_X10_sumOf_23, e_X10_sumOf_25, e_X10_sumOf_26, e_X10_sumOf_27, e_X10_sumOf_30, e_X10_sumOf_33, e_X10_sumOf_34, kcl_i, kcl_r, kcl_l, kcl_0, kcl_n, true_and, and_true, jpF hx (by decide), if_false, har, kin8 hx, cl_n (show x < 100000 by omega), tn_s]
theorem m_sumOf {o : Nat} (hm : i 91 3 = Int32.ofNat m) (h8 : m ≤ 8) (ho : o ≤ 8) : kCA sc (d + 1) 168 [.ref 91, .ref 96, .int (Int32.ofNat o)] y nx hd L st ((120, cu, su), i, l, kR f t sp) K = kWP sc (d + 1) y nx L (.int (pSum (fun x => i 96 (o + x)) m) :: st) ((120, cu, su), i, l, kR f t sp) K := by
  refine kCA_of (d := d) (v := some (.int (pSum (fun x => i 96 (o + x)) m))) (fun K => ?_)
  rw [km_168]
  show kWP sc d 168 0 [.ref 91, .ref 96, .int (Int32.ofNat o), .retAddr 0, .retAddr 0] [] ((120, cu, su), i, l, kR f t sp) K = _
  simp only [e_X11_sumOf_0, e_X11_sumOf_1, e_X11_sumOf_2, e_X11_sumOf_3, e_X11_sumOf_7, e_X11_sumOf_8, e_X11_sumOf_11, e_X11_sumOf_14, e_X11_sumOf_15, e_X11_sumOf_16, e_X11_sumOf_17, e_X11_sumOf_19, e_X11_sumOf_20, e_X11_sumOf_21, e_X11_sumOf_22, e_X11_sumOf_23, e_X11_sumOf_26, e_X11_sumOf_29, e_X11_sumOf_30, ob_91, kcl_i, kcl_r, kcl_l, kcl_0, kcl_n, true_and, and_true]
  refine (k_for (P := fun x (w : Int32) => kWP sc d 168 5 [.ref 91, .ref 96, .int (Int32.ofNat o), .int w, .int (Int32.ofNat x)] [] ((120, cu, su), i, l, kR f t sp) K) (n := m) (g := fun x s => s + i 96 (o + x)) ?_ 0).trans ?_
  · intro x w hx
    have c1 : Int32.ofNat o + Int32.ofNat x = Int32.ofNat (o + x) := (Int32.ofNat_add o x).symm
    refine e_X11_sumOf_5.trans ?_
    simp only [e_X11_sumOf_0, e_X11_sumOf_1, e_X11_sumOf_2, e_X11_sumOf_3, e_X11_sumOf_7, e_X11_sumOf_8, e_X11_sumOf_11, e_X11_sumOf_14, e_X11_sumOf_15, e_X11_sumOf_16, e_X11_sumOf_17, e_X11_sumOf_19, e_X11_sumOf_20, e_X11_sumOf_21, e_X11_sumOf_22, e_X11_sumOf_23, e_X11_sumOf_26, e_X11_sumOf_29, e_X11_sumOf_30, ob_91, kcl_i, kcl_r, kcl_l, kcl_0, kcl_n, true_and, and_true, hm, jpF hx (by omega), if_false, c1, ar_96, kin25 (show o + x < 25 by omega), cl_n (show o + x < 100000 by omega), tn_s]
  · refine e_X11_sumOf_5.trans ?_
    simp only [e_X11_sumOf_0, e_X11_sumOf_1, e_X11_sumOf_2, e_X11_sumOf_3, e_X11_sumOf_7, e_X11_sumOf_8, e_X11_sumOf_11, e_X11_sumOf_14, e_X11_sumOf_15, e_X11_sumOf_16, e_X11_sumOf_17, e_X11_sumOf_19, e_X11_sumOf_20, e_X11_sumOf_21, e_X11_sumOf_22, e_X11_sumOf_23, e_X11_sumOf_26, e_X11_sumOf_29, e_X11_sumOf_30, ob_91, kcl_i, kcl_r, kcl_l, kcl_0, kcl_n, true_and, and_true, hm, Int32.le_refl, if_true]
    rfl
def pCnt (p v0 v1 v2 v3 v4 v5 v6 v7 v8 v9 v10 v11 : Int32) : Int32 := if p = 0 then v0 else if p = 1 then v1 else if p = 2 then v2 else if p = 3 then v3 else if p = 4 then v4 else if p = 5 then v5 else if p = 6 then v6 else if p = 7 then v7 else if p = 8 then v8 else if p = 9 then v9 else if p = 10 then v10 else if p = 11 then v11 else -100
theorem K_if {e : Prop} [Decidable e] {a b : Int32} {S : kS} : (if e then K (some (some (.int a))) S else K (some (some (.int b))) S) = K (some (some (.int (if e then a else b)))) S := by
  by_cases h : e <;> simp [h]
theorem sum_eq (h : ∀ x, x < m → A x = M x) (h0 : ∀ x, m ≤ x → x < 8 → A x = 0) (h8 : m ≤ 8) : pSum A 8 = pSum M m := by
  unfold pSum
  have := kfo_tail (g := fun x s => s + A x) (n := m) (a := 0) (8 - m) (fun x b h1 h2 => by rw [h0 x h1 (by omega), Int32.add_zero])
  rw [show m + (8 - m) = 8 by omega] at this
  rw [this]
  exact kfo_congr (fun x hx s => by rw [h x hx])
theorem J_count (h : IV m i l f t sp) (p : Int32) : JJ 135 253 [.int p] i l f t sp := by
  obtain ⟨⟨h5, h91, h8, e9, hle, hp⟩, ⟨nx1, x1, x2, x3, x4⟩, ⟨nw, y1, y2, y3, y4⟩, hN, ⟨nu, z1, z2, z3, z4⟩, hS, hK, ⟨nh, q1, q2, q3, q4⟩, hR, hF⟩ := id h
  have hNow := IV_now h
  have s6 : pSum (i 11) 8 = pSum (fun x => i 96 (0 + x)) m := sum_eq (fun x hx => by rw [hNow.2.2.2.2.2.2.1 x (by omega), Nat.zero_add]) (fun x hx hx8 => by rw [hNow.2.2.2.2.2.2.1 x hx8]; exact (hN.1.2.2.2.2.2 x hx hx8).1) h8
  have s7 : pSum (i 12) 8 = pSum (fun x => i 96 (8 + x)) m := sum_eq (fun x hx => hNow.2.2.2.2.2.2.2 x (by omega)) (fun x hx hx8 => by rw [hNow.2.2.2.2.2.2.2 x hx8]; exact (hN.1.2.2.2.2.2 x hx hx8).2.1) h8
  refine JJ_n h (pCnt p (Int32.ofNat m) (i 96 18) (i 96 19) (i 96 20) (i 96 21) (i 96 17) (pSum (fun x => i 96 (0 + x)) m) (pSum (fun x => i 96 (8 + x)) m) (Int32.ofNat nh) (Int32.ofNat nu) (Int32.ofNat nw) (Int32.ofNat nx1)) i (uPut i) ag_r (ag_uu ag_r) rfl rfl ?_ ?_
  · intro sc d y nx hd L st cu su K
    refine kCA_of (d := d + 499) (v := some (.int _)) (fun K => ?_)
    rw [km_135]
    show kWP sc (d + 499) 135 0 [.ref 0, .int p] [] _ K = _
    simp only [e_X10_count_0, e_X10_count_1, e_X10_count_64, e_X10_count_65, e_X10_count_68, e_X10_count_71, e_X10_count_72, e_X10_count_73, e_X10_count_76, e_X10_count_79, e_X10_count_80, e_X10_count_81, e_X10_count_84, e_X10_count_87, e_X10_count_88, e_X10_count_89, e_X10_count_92, e_X10_count_95, e_X10_count_96, e_X10_count_97, e_X10_count_100, e_X10_count_103, e_X10_count_104, e_X10_count_105, e_X10_count_108, e_X10_count_111, e_X10_count_112, e_X10_count_113, e_X10_count_116, e_X10_count_119, e_X10_count_122, e_X10_count_123, e_X10_count_124, e_X10_count_127, e_X10_count_130, e_X10_count_133, e_X10_count_134, e_X10_count_135, e_X10_count_138, e_X10_count_141, e_X10_count_142, e_X10_count_143, e_X10_count_146, e_X10_count_149, e_X10_count_150, e_X10_count_151, e_X10_count_154, e_X10_count_157, e_X10_count_158, e_X10_count_159, e_X10_count_162, e_X10_count_165, e_X10_count_166, e_X10_count_168, ob_0, rk_0_2, ob_5, rk_0_3, ob_10, ob_13, rk_10_8, ar_11, rk_13_8, ar_14, rk_10_9, ar_12, rk_13_9, ar_15, rk_0_6, ob_74, rk_0_5, ob_16, rk_0_1, ob_3, rk_0_0, ob_1, kcl_i, kcl_r, kcl_l, kcl_0, kcl_n, true_and, and_true, c_sumOf (Or.inl rfl), c_sumOf (Or.inr (Or.inl rfl)), h5, hNow.1, hNow.2.1, hNow.2.2.1, hNow.2.2.2.1, hNow.2.2.2.2.1, s6, s7, q2, z2, y2, x2, K_if]
    rfl
  · intro sc d y nx hd L st cu su K
    have h91' : uPut i 91 3 = Int32.ofNat m := h91
    have a1 : uPut i 91 39 = Int32.ofNat nh := q3
    have a2 : uPut i 91 23 = Int32.ofNat nu := z3
    have a3 : uPut i 91 1 = Int32.ofNat nw := y3
    have a4 : uPut i 91 11 = Int32.ofNat nx1 := x3
    have o0 := fun (y nx : Nat) (L st : List Value) (hd : List (Int × Nat)) (K : Option (Option Value) → kS → Prop) => m_sumOf (sc := sc) (d := d + 498) (y := y) (nx := nx) (hd := hd) (L := L) (st := st) (cu := cu) (su := su) (i := uPut i) (l := l) (f := f) (t := t) (sp := sp) (K := K) (o := 0) h91' h8 (by decide)
    have o8 := fun (y nx : Nat) (L st : List Value) (hd : List (Int × Nat)) (K : Option (Option Value) → kS → Prop) => m_sumOf (sc := sc) (d := d + 498) (y := y) (nx := nx) (hd := hd) (L := L) (st := st) (cu := cu) (su := su) (i := uPut i) (l := l) (f := f) (t := t) (sp := sp) (K := K) (o := 8) h91' h8 (by decide)
    refine kCA_of (d := d + 499) (v := some (.int _)) (fun K => ?_)
    rw [km_253]
    show kWP sc (d + 499) 253 0 [.ref 91, .int p] [] _ K = _
    have e0 : (Int32.ofNat 0) = (0 : Int32) := rfl
    have e8 : (Int32.ofNat 8) = (8 : Int32) := rfl
    rw [e0] at o0
    rw [e8] at o8
    simp only [e_X11_count_0, e_X11_count_1, e_X11_count_2, e_X11_count_5, e_X11_count_6, e_X11_count_68, e_X11_count_69, e_X11_count_72, e_X11_count_73, e_X11_count_74, e_X11_count_77, e_X11_count_79, e_X11_count_80, e_X11_count_81, e_X11_count_82, e_X11_count_85, e_X11_count_87, e_X11_count_88, e_X11_count_89, e_X11_count_90, e_X11_count_93, e_X11_count_95, e_X11_count_96, e_X11_count_97, e_X11_count_98, e_X11_count_101, e_X11_count_103, e_X11_count_104, e_X11_count_105, e_X11_count_106, e_X11_count_109, e_X11_count_111, e_X11_count_112, e_X11_count_113, e_X11_count_114, e_X11_count_115, e_X11_count_118, e_X11_count_119, e_X11_count_122, e_X11_count_123, e_X11_count_124, e_X11_count_125, e_X11_count_128, e_X11_count_130, e_X11_count_133, e_X11_count_134, e_X11_count_135, e_X11_count_138, e_X11_count_139, e_X11_count_140, e_X11_count_143, e_X11_count_144, e_X11_count_145, e_X11_count_148, e_X11_count_149, e_X11_count_150, e_X11_count_153, e_X11_count_154, e_X11_count_156, ob_91, rk_91_8, ar_96, kcl_i, kcl_r, kcl_l, kcl_0, kcl_n, true_and, and_true, uP_0, o0, o8, h91', a1, a2, a3, a4, u96, ki17, ki18, ki19, ki20, ki21, ni17, ni18, ni19, ni20, ni21, K_if]
    rfl
/-! sheet -/
def rBr (k n f0 s0 : Int32) (x : Nat) : Int32 := if k = 3 ∨ n ≤ Int32.ofNat x then 1 else pCl (pEnt k (f0 + Int32.ofNat x * s0))
def rBrs (k n f0 s0 : Int32) (m : Nat) : Int32 := kfo (fun x c => c + rBr k n f0 s0 x) m 0
def rBrB (k n f0 s0 : Int32) (B : Nat → Int32) (m : Nat) : Nat → Int32 := kfo (fun x B => kuf B x (rBr k n f0 s0 x)) m B
theorem mul_s {x : Nat} {a b : Int32} : a + Int32.ofNat x * b + b = a + Int32.ofNat (x + 1) * b := by
  rw [← tn_s, Int32.add_mul, Int32.one_mul, Int32.add_assoc]
theorem l3' : (3 : Int64) = (3 : Int32).toInt64 := by decide
theorem pCl_1 : pCl 1 = 1 := by decide
theorem mm9 {e : Int32} : (if 1 < (if e < 9 then e else 9) then (if e < 9 then e else 9) else 1) = pCl e := rfl
theorem m_sheet {p q v0 s0 : Int32} (hp : ¬ p < 0 ∧ ¬ 3 < p) (hq : q ≤ 8) (hq2 : p = 3 ∨ 0 ≤ q) (hm : i 91 3 = Int32.ofNat m) (h8 : m ≤ 8) : CC 193 [.ref 91, .int p, .int q, .int v0, .int s0] i l f t sp (.int (if p = 3 then -3 else rBrs p q v0 s0 m)) (aPut (uPut i) 94 8 (rBrB p q v0 s0 (i 94) m)) l f t sp := by
  intro sc d y nx hd L st cu su K
  have hm' : ∀ A, aPut (uPut i) 94 8 A 91 3 = Int32.ofNat m := fun A => by rw [aP_o (by decide)]; exact hm
  refine kCA_of (d := d + 499) (v := some (.int _)) (fun K => ?_)
  rw [km_193]
  show kWP sc (d + 499) 193 0 [.ref 91, .int p, .int q, .int v0, .int s0, .retAddr 0, .retAddr 0, .retAddr 0, .retAddr 0] [] _ K = _
  have start : kWP sc (d + 499) 193 37 [.ref 91, .int p, .int q, .int v0, .int s0, .retAddr 0, .retAddr 0, .retAddr 0, .retAddr 0] [] ((120, cu, su), uPut i, l, kR f t sp) K = K (some (some (.int (if p = 3 then -3 else rBrs p q v0 s0 m)))) ((120, cu, su), aPut (uPut i) 94 8 (rBrB p q v0 s0 (i 94) m), l, kR f t sp) := by
    simp only [e_X11_sheet_0, e_X11_sheet_1, e_X11_sheet_2, e_X11_sheet_5, e_X11_sheet_6, e_X11_sheet_7, e_X11_sheet_8, e_X11_sheet_11, e_X11_sheet_14, e_X11_sheet_17, e_X11_sheet_18, e_X11_sheet_20, e_X11_sheet_23, e_X11_sheet_24, e_X11_sheet_25, e_X11_sheet_26, e_X11_sheet_27, e_X11_sheet_30, e_X11_sheet_31, e_X11_sheet_34, e_X11_sheet_36, e_X11_sheet_37, e_X11_sheet_38, e_X11_sheet_40, e_X11_sheet_41, e_X11_sheet_43, e_X11_sheet_44, e_X11_sheet_48, e_X11_sheet_49, e_X11_sheet_52, e_X11_sheet_55, e_X11_sheet_56, e_X11_sheet_59, e_X11_sheet_61, e_X11_sheet_62, e_X11_sheet_65, e_X11_sheet_66, e_X11_sheet_67, e_X11_sheet_70, e_X11_sheet_72, e_X11_sheet_73, e_X11_sheet_76, e_X11_sheet_78, e_X11_sheet_80, e_X11_sheet_81, e_X11_sheet_84, e_X11_sheet_86, e_X11_sheet_87, e_X11_sheet_88, e_X11_sheet_91, e_X11_sheet_93, e_X11_sheet_94, e_X11_sheet_97, e_X11_sheet_98, e_X11_sheet_101, e_X11_sheet_102, e_X11_sheet_104, e_X11_sheet_106, e_X11_sheet_109, e_X11_sheet_112, e_X11_sheet_113, e_X11_sheet_115, e_X11_sheet_116, e_X11_sheet_119, e_X11_sheet_121, e_X11_sheet_122, e_X11_sheet_123, e_X11_sheet_125, e_X11_sheet_127, e_X11_sheet_129, e_X11_sheet_130, e_X11_sheet_132, e_X11_sheet_135, e_X11_sheet_138, e_X11_sheet_139, e_X11_sheet_140, e_X11_sheet_143, e_X11_sheet_145, e_X11_sheet_148, e_X11_sheet_150, ob_91, rk_91_6, ar_94, kcl_i, kcl_r, kcl_l, kcl_0, kcl_n, true_and, and_true]
    have E := k_lq (n := m) (Q := fun x (w : ((Nat → Int32) × Int32 × Int32) × Value) => kWP sc (d + 499) 193 46 [.ref 91, .int p, .int q, .int v0, .int s0, .int w.1.2.1, .int w.1.2.2, .int (Int32.ofNat x), w.2] [] ((120, cu, su), aPut (uPut i) 94 8 w.1.1, l, kR f t sp) K) (I := fun x w => w.1 = (rBrB p q v0 s0 (i 94) x, rBrs p q v0 s0 x, v0 + Int32.ofNat x * s0)) (b0 := ((i 94, 0, v0), .retAddr 0)) ?_ (by
      show (i 94, (0 : Int32), v0) = (i 94, 0, v0 + Int32.ofNat 0 * s0)
      rw [show Int32.ofNat 0 = (0 : Int32) from rfl, Int32.zero_mul, Int32.add_zero])
    · obtain ⟨⟨w, v8⟩, hw, e⟩ := E
      have hw' : w = (rBrB p q v0 s0 (i 94) m, rBrs p q v0 s0 m, v0 + Int32.ofNat m * s0) := hw
      subst hw'
      have e0 : aPut (uPut i) 94 8 (i 94) = uPut i := by
        have := @aP_g (uPut i) 94 8
        rw [u94] at this; exact this
      rw [e0] at e
      refine e.trans ?_
      refine e_X11_sheet_46.trans ?_
      simp only [e_X11_sheet_0, e_X11_sheet_1, e_X11_sheet_2, e_X11_sheet_5, e_X11_sheet_6, e_X11_sheet_7, e_X11_sheet_8, e_X11_sheet_11, e_X11_sheet_14, e_X11_sheet_17, e_X11_sheet_18, e_X11_sheet_20, e_X11_sheet_23, e_X11_sheet_24, e_X11_sheet_25, e_X11_sheet_26, e_X11_sheet_27, e_X11_sheet_30, e_X11_sheet_31, e_X11_sheet_34, e_X11_sheet_36, e_X11_sheet_37, e_X11_sheet_38, e_X11_sheet_40, e_X11_sheet_41, e_X11_sheet_43, e_X11_sheet_44, e_X11_sheet_48, e_X11_sheet_49, e_X11_sheet_52, e_X11_sheet_55, e_X11_sheet_56, e_X11_sheet_59, e_X11_sheet_61, e_X11_sheet_62, e_X11_sheet_65, e_X11_sheet_66, e_X11_sheet_67, e_X11_sheet_70, e_X11_sheet_72, e_X11_sheet_73, e_X11_sheet_76, e_X11_sheet_78, e_X11_sheet_80, e_X11_sheet_81, e_X11_sheet_84, e_X11_sheet_86, e_X11_sheet_87, e_X11_sheet_88, e_X11_sheet_91, e_X11_sheet_93, e_X11_sheet_94, e_X11_sheet_97, e_X11_sheet_98, e_X11_sheet_101, e_X11_sheet_102, e_X11_sheet_104, e_X11_sheet_106, e_X11_sheet_109, e_X11_sheet_112, e_X11_sheet_113, e_X11_sheet_115, e_X11_sheet_116, e_X11_sheet_119, e_X11_sheet_121, e_X11_sheet_122, e_X11_sheet_123, e_X11_sheet_125, e_X11_sheet_127, e_X11_sheet_129, e_X11_sheet_130, e_X11_sheet_132, e_X11_sheet_135, e_X11_sheet_138, e_X11_sheet_139, e_X11_sheet_140, e_X11_sheet_143, e_X11_sheet_145, e_X11_sheet_148, e_X11_sheet_150, ob_91, rk_91_6, ar_94, kcl_i, kcl_r, kcl_l, kcl_0, kcl_n, true_and, and_true, hm', Int32.le_refl, if_true]
      by_cases q3 : p = 3
      · simp only [q3, if_true]
      · simp only [q3, if_false]
    · intro x ⟨w, v8⟩ hx hI
      have hI' : w = (rBrB p q v0 s0 (i 94) x, rBrs p q v0 s0 x, v0 + Int32.ofNat x * s0) := hI
      subst hI'
      refine ⟨((rBrB p q v0 s0 (i 94) (x + 1), rBrs p q v0 s0 (x + 1), v0 + Int32.ofNat (x + 1) * s0), .int (pEnt p (v0 + Int32.ofNat x * s0))), rfl, ?_⟩
      have eB : kuf (rBrB p q v0 s0 (i 94) x) x (rBr p q v0 s0 x) = rBrB p q v0 s0 (i 94) (x + 1) := rfl
      have eS : rBrs p q v0 s0 x + rBr p q v0 s0 x = rBrs p q v0 s0 (x + 1) := rfl
      have eX : rBrB p q v0 s0 (i 94) (x + 1) x = rBr p q v0 s0 x := by rw [← eB]; exact kuf_s
      have fin : ∀ e : Int32, e = rBr p q v0 s0 x → kWP sc (d + 499) 193 112 [.ref 91, .int p, .int q, .int v0, .int s0, .int (rBrs p q v0 s0 x), .int (v0 + Int32.ofNat x * s0), .int (Int32.ofNat x), .int (pEnt p (v0 + Int32.ofNat x * s0))] [.int e, .int (Int32.ofNat x), .ref 94] ((120, cu, su), aPut (uPut i) 94 8 (rBrB p q v0 s0 (i 94) x), l, kR f t sp) K = kWP sc (d + 499) 193 46 [.ref 91, .int p, .int q, .int v0, .int s0, .int (rBrs p q v0 s0 (x + 1)), .int (v0 + Int32.ofNat (x + 1) * s0), .int (Int32.ofNat (x + 1)), .int (pEnt p (v0 + Int32.ofNat x * s0))] [] ((120, cu, su), aPut (uPut i) 94 8 (rBrB p q v0 s0 (i 94) (x + 1)), l, kR f t sp) K := by
        intro e he
        subst he
        simp only [e_X11_sheet_0, e_X11_sheet_1, e_X11_sheet_2, e_X11_sheet_5, e_X11_sheet_6, e_X11_sheet_7, e_X11_sheet_8, e_X11_sheet_11, e_X11_sheet_14, e_X11_sheet_17, e_X11_sheet_18, e_X11_sheet_20, e_X11_sheet_23, e_X11_sheet_24, e_X11_sheet_25, e_X11_sheet_26, e_X11_sheet_27, e_X11_sheet_30, e_X11_sheet_31, e_X11_sheet_34, e_X11_sheet_36, e_X11_sheet_37, e_X11_sheet_38, e_X11_sheet_40, e_X11_sheet_41, e_X11_sheet_43, e_X11_sheet_44, e_X11_sheet_48, e_X11_sheet_49, e_X11_sheet_52, e_X11_sheet_55, e_X11_sheet_56, e_X11_sheet_59, e_X11_sheet_61, e_X11_sheet_62, e_X11_sheet_65, e_X11_sheet_66, e_X11_sheet_67, e_X11_sheet_70, e_X11_sheet_72, e_X11_sheet_73, e_X11_sheet_76, e_X11_sheet_78, e_X11_sheet_80, e_X11_sheet_81, e_X11_sheet_84, e_X11_sheet_86, e_X11_sheet_87, e_X11_sheet_88, e_X11_sheet_91, e_X11_sheet_93, e_X11_sheet_94, e_X11_sheet_97, e_X11_sheet_98, e_X11_sheet_101, e_X11_sheet_102, e_X11_sheet_104, e_X11_sheet_106, e_X11_sheet_109, e_X11_sheet_112, e_X11_sheet_113, e_X11_sheet_115, e_X11_sheet_116, e_X11_sheet_119, e_X11_sheet_121, e_X11_sheet_122, e_X11_sheet_123, e_X11_sheet_125, e_X11_sheet_127, e_X11_sheet_129, e_X11_sheet_130, e_X11_sheet_132, e_X11_sheet_135, e_X11_sheet_138, e_X11_sheet_139, e_X11_sheet_140, e_X11_sheet_143, e_X11_sheet_145, e_X11_sheet_148, e_X11_sheet_150, ob_91, rk_91_6, ar_94, kcl_i, kcl_r, kcl_l, kcl_0, kcl_n, true_and, and_true, kin8 (show x < 8 by omega), cl_n (show x < 100000 by omega), aW_s (show x < 8 by omega), aP_s (show x < 8 by omega), kuf_s, eB, eX, eS, mul_s, tn_s]
      have mid : kWP sc (d + 499) 193 80 [.ref 91, .int p, .int q, .int v0, .int s0, .int (rBrs p q v0 s0 x), .int (v0 + Int32.ofNat x * s0), .int (Int32.ofNat x), .int (pEnt p (v0 + Int32.ofNat x * s0))] [] ((120, cu, su), aPut (uPut i) 94 8 (rBrB p q v0 s0 (i 94) x), l, kR f t sp) K = kWP sc (d + 499) 193 46 [.ref 91, .int p, .int q, .int v0, .int s0, .int (rBrs p q v0 s0 (x + 1)), .int (v0 + Int32.ofNat (x + 1) * s0), .int (Int32.ofNat (x + 1)), .int (pEnt p (v0 + Int32.ofNat x * s0))] [] ((120, cu, su), aPut (uPut i) 94 8 (rBrB p q v0 s0 (i 94) (x + 1)), l, kR f t sp) K := by
        simp only [e_X11_sheet_0, e_X11_sheet_1, e_X11_sheet_2, e_X11_sheet_5, e_X11_sheet_6, e_X11_sheet_7, e_X11_sheet_8, e_X11_sheet_11, e_X11_sheet_14, e_X11_sheet_17, e_X11_sheet_18, e_X11_sheet_20, e_X11_sheet_23, e_X11_sheet_24, e_X11_sheet_25, e_X11_sheet_26, e_X11_sheet_27, e_X11_sheet_30, e_X11_sheet_31, e_X11_sheet_34, e_X11_sheet_36, e_X11_sheet_37, e_X11_sheet_38, e_X11_sheet_40, e_X11_sheet_41, e_X11_sheet_43, e_X11_sheet_44, e_X11_sheet_48, e_X11_sheet_49, e_X11_sheet_52, e_X11_sheet_55, e_X11_sheet_56, e_X11_sheet_59, e_X11_sheet_61, e_X11_sheet_62, e_X11_sheet_65, e_X11_sheet_66, e_X11_sheet_67, e_X11_sheet_70, e_X11_sheet_72, e_X11_sheet_73, e_X11_sheet_76, e_X11_sheet_78, e_X11_sheet_80, e_X11_sheet_81, e_X11_sheet_84, e_X11_sheet_86, e_X11_sheet_87, e_X11_sheet_88, e_X11_sheet_91, e_X11_sheet_93, e_X11_sheet_94, e_X11_sheet_97, e_X11_sheet_98, e_X11_sheet_101, e_X11_sheet_102, e_X11_sheet_104, e_X11_sheet_106, e_X11_sheet_109, e_X11_sheet_113, e_X11_sheet_115, e_X11_sheet_116, e_X11_sheet_119, e_X11_sheet_121, e_X11_sheet_122, e_X11_sheet_123, e_X11_sheet_125, e_X11_sheet_127, e_X11_sheet_129, e_X11_sheet_130, e_X11_sheet_132, e_X11_sheet_135, e_X11_sheet_138, e_X11_sheet_139, e_X11_sheet_140, e_X11_sheet_143, e_X11_sheet_145, e_X11_sheet_148, e_X11_sheet_150, ob_91, rk_91_6, ar_94, kcl_i, kcl_r, kcl_l, kcl_0, kcl_n, true_and, and_true, mm9]
        unfold rBr at fin
        by_cases q3 : p = 3
        · simp only [q3, if_true]
          have := fin 1 (by rw [if_pos (Or.inl q3)])
          rw [q3] at this
          exact this
        · by_cases q4 : q ≤ Int32.ofNat x
          · have q5 : ¬ Int32.ofNat x < q := Int32.not_lt.2 q4
            simp only [q3, q5, if_false]
            exact fin 1 (by rw [if_pos (Or.inr q4)])
          · have q5 : Int32.ofNat x < q := Int32.not_le.1 q4
            simp only [q3, q5, if_true, if_false]
            exact fin _ (by rw [if_neg (fun z => by rcases z with z | z; exact q3 z; exact q4 z)])
      refine e_X11_sheet_46.trans ?_
      simp only [e_X11_sheet_0, e_X11_sheet_1, e_X11_sheet_2, e_X11_sheet_5, e_X11_sheet_6, e_X11_sheet_7, e_X11_sheet_8, e_X11_sheet_11, e_X11_sheet_14, e_X11_sheet_17, e_X11_sheet_18, e_X11_sheet_20, e_X11_sheet_23, e_X11_sheet_24, e_X11_sheet_25, e_X11_sheet_26, e_X11_sheet_27, e_X11_sheet_30, e_X11_sheet_31, e_X11_sheet_34, e_X11_sheet_36, e_X11_sheet_37, e_X11_sheet_38, e_X11_sheet_40, e_X11_sheet_41, e_X11_sheet_43, e_X11_sheet_44, e_X11_sheet_48, e_X11_sheet_49, e_X11_sheet_52, e_X11_sheet_55, e_X11_sheet_56, e_X11_sheet_59, e_X11_sheet_61, e_X11_sheet_62, e_X11_sheet_65, e_X11_sheet_66, e_X11_sheet_67, e_X11_sheet_70, e_X11_sheet_72, e_X11_sheet_73, e_X11_sheet_76, e_X11_sheet_78, e_X11_sheet_81, e_X11_sheet_84, e_X11_sheet_86, e_X11_sheet_87, e_X11_sheet_88, e_X11_sheet_91, e_X11_sheet_93, e_X11_sheet_94, e_X11_sheet_97, e_X11_sheet_98, e_X11_sheet_101, e_X11_sheet_102, e_X11_sheet_104, e_X11_sheet_106, e_X11_sheet_109, e_X11_sheet_112, e_X11_sheet_113, e_X11_sheet_115, e_X11_sheet_116, e_X11_sheet_119, e_X11_sheet_121, e_X11_sheet_122, e_X11_sheet_123, e_X11_sheet_125, e_X11_sheet_127, e_X11_sheet_129, e_X11_sheet_130, e_X11_sheet_132, e_X11_sheet_135, e_X11_sheet_138, e_X11_sheet_139, e_X11_sheet_140, e_X11_sheet_143, e_X11_sheet_145, e_X11_sheet_148, e_X11_sheet_150, ob_91, rk_91_6, ar_94, kcl_i, kcl_r, kcl_l, kcl_0, kcl_n, true_and, and_true, hm', jpF hx (by omega), if_false]
      by_cases p0 : p = 0
      · have eE : pEnt p (v0 + Int32.ofNat x * s0) = (v0 + Int32.ofNat x * s0).toInt8.toInt32 := by unfold pEnt; rw [if_pos p0]
        rw [if_pos p0, ← eE]; exact mid
      · by_cases p1 : p = 1
        · have eE : pEnt p (v0 + Int32.ofNat x * s0) = (v0 + Int32.ofNat x * s0).toInt16.toInt32 := by unfold pEnt; rw [if_neg p0, if_pos p1]
          rw [if_neg p0, if_pos p1, ← eE]; exact mid
        · have eE : pEnt p (v0 + Int32.ofNat x * s0) = (v0 + Int32.ofNat x * s0) := by unfold pEnt; rw [if_neg p0, if_neg p1]
          rw [if_neg p0, if_neg p1]
          rw [eE] at mid ⊢
          exact mid
  simp only [e_X11_sheet_0, e_X11_sheet_1, e_X11_sheet_2, e_X11_sheet_5, e_X11_sheet_6, e_X11_sheet_7, e_X11_sheet_8, e_X11_sheet_11, e_X11_sheet_14, e_X11_sheet_17, e_X11_sheet_18, e_X11_sheet_20, e_X11_sheet_23, e_X11_sheet_24, e_X11_sheet_25, e_X11_sheet_26, e_X11_sheet_27, e_X11_sheet_30, e_X11_sheet_31, e_X11_sheet_34, e_X11_sheet_36, e_X11_sheet_38, e_X11_sheet_40, e_X11_sheet_41, e_X11_sheet_43, e_X11_sheet_44, e_X11_sheet_48, e_X11_sheet_49, e_X11_sheet_52, e_X11_sheet_55, e_X11_sheet_56, e_X11_sheet_59, e_X11_sheet_61, e_X11_sheet_62, e_X11_sheet_65, e_X11_sheet_66, e_X11_sheet_67, e_X11_sheet_70, e_X11_sheet_72, e_X11_sheet_73, e_X11_sheet_76, e_X11_sheet_78, e_X11_sheet_80, e_X11_sheet_81, e_X11_sheet_84, e_X11_sheet_86, e_X11_sheet_87, e_X11_sheet_88, e_X11_sheet_91, e_X11_sheet_93, e_X11_sheet_94, e_X11_sheet_97, e_X11_sheet_98, e_X11_sheet_101, e_X11_sheet_102, e_X11_sheet_104, e_X11_sheet_106, e_X11_sheet_109, e_X11_sheet_112, e_X11_sheet_113, e_X11_sheet_115, e_X11_sheet_116, e_X11_sheet_119, e_X11_sheet_121, e_X11_sheet_122, e_X11_sheet_123, e_X11_sheet_125, e_X11_sheet_127, e_X11_sheet_129, e_X11_sheet_130, e_X11_sheet_132, e_X11_sheet_135, e_X11_sheet_138, e_X11_sheet_139, e_X11_sheet_140, e_X11_sheet_143, e_X11_sheet_145, e_X11_sheet_148, e_X11_sheet_150, ob_91, rk_91_6, ar_94, kcl_i, kcl_r, kcl_l, kcl_0, kcl_n, true_and, and_true, uP_0, l0, l3', m_in, m_inI, kb_0, hp, hq, not_true_eq_false, not_false_eq_true, and_self, if_false, if_true]
  by_cases q3 : p = 3
  · simp only [q3, if_true]
    rw [q3] at start
    exact start
  · have q4 : 0 ≤ q := by rcases hq2 with z | z; exact absurd z q3; exact z
    simp only [q3, q4, if_true, if_false]
    simp only [q3, if_false] at start
    exact start
theorem J_sheet (h : IV m i l f t sp) (p q v0 s0 : Int32) : JJ 102 193 [.int p, .int q, .int v0, .int s0] i l f t sp := by
  obtain ⟨⟨h5, h91, h8, e9, hle, hp⟩, hX, hW, hN, hU, hS, hK, hH, hR, hF⟩ := id h
  by_cases h0 : (¬ p < 0 ∧ ¬ 3 < p) ∧ q ≤ 8
  · by_cases h1 : p = 3 ∨ 0 ≤ q
    · -- sheets that are taken
      obtain ⟨B, hB⟩ : ∃ B, B = rBrB p q v0 s0 (i 94) m := ⟨_, rfl⟩
      obtain ⟨Bc, hBc⟩ : ∃ Bc, Bc = pShB p (if p = 3 then 0 else q) v0 s0 (i 6) m := ⟨_, rfl⟩
      have eq1 : ∀ x, x < m → pCl (pSh p (if p = 3 then 0 else q) v0 s0 x) = rBr p q v0 s0 x := by
        intro x hx
        unfold pSh rBr
        by_cases q3 : p = 3
        · rw [if_pos q3, if_pos (of_eq_true (tn_0 (show x < 2147483648 by omega))), if_pos (Or.inl q3)]; exact pCl_1
        · rw [if_neg q3]
          by_cases q4 : q ≤ Int32.ofNat x
          · rw [if_pos q4, if_pos (Or.inr q4)]; exact pCl_1
          · rw [if_neg q4, if_neg (fun z => by rcases z with z | z; exact q3 z; exact q4 z)]
      have eS : pShS p (if p = 3 then 0 else q) v0 s0 m = rBrs p q v0 s0 m := kfo_congr (fun x hx c => by rw [eq1 x hx])
      have bB : ∀ x, x < m → B x = rBr p q v0 s0 x := fun x hx => by rw [hB]; unfold rBrB; rw [kfo_kuf, if_pos hx]
      have bC : ∀ x, x < m → Bc x = rBr p q v0 s0 x := fun x hx => by rw [hBc]; unfold pShB; rw [kfo_kuf, if_pos hx, eq1 x hx]
      have C : CC 102 [.ref 0, .int p, .int q, .int v0, .int s0] i l f t sp (.int (if p = 3 then -3 else rBrs p q v0 s0 m)) (aPut (aPut i 6 8 Bc) 8 8 (pWs (aPut i 6 8 Bc) m)) l f t sp := by
        intro sc d y nx hd L st cu su K
        refine kCA_of (d := d + 499) (v := some (.int _)) (fun K => ?_)
        rw [km_102]
        show kWP sc (d + 499) 102 0 [.ref 0, .int p, .int q, .int v0, .int s0] [] _ K = _
        by_cases q3 : p = 3
        · rw [if_pos q3] at hBc
          simp only [e_X10_sheet_0, e_X10_sheet_1, e_X10_sheet_4, e_X10_sheet_5, e_X10_sheet_6, e_X10_sheet_9, e_X10_sheet_10, e_X10_sheet_12, e_X10_sheet_15, e_X10_sheet_16, e_X10_sheet_17, e_X10_sheet_18, e_X10_sheet_19, e_X10_sheet_22, e_X10_sheet_23, e_X10_sheet_26, e_X10_sheet_27, e_X10_sheet_28, e_X10_sheet_29, e_X10_sheet_31, e_X10_sheet_34, e_X10_sheet_35, e_X10_sheet_37, e_X10_sheet_38, e_X10_sheet_39, e_X10_sheet_42, e_X10_sheet_44, e_X10_sheet_47, e_X10_sheet_48, e_X10_sheet_51, e_X10_sheet_52, e_X10_sheet_53, e_X10_sheet_54, e_X10_sheet_56, e_X10_sheet_59, ob_0, rk_0_2, ob_5, kcl_i, kcl_r, kcl_l, kcl_0, kcl_n, true_and, and_true, h0.1.1, h0.1.2, h0.2, q3, if_true, if_false, c_takeSheet h5 h8, show ((3 : Int32) < 0) = False from eq_false (by decide), show ((3 : Int32) < 3) = False from eq_false (by decide)]
          rw [← q3, ← hBc]
        · have q4 : 0 ≤ q := by rcases h1 with z | z; exact absurd z q3; exact z
          rw [if_neg q3] at hBc eS
          simp only [e_X10_sheet_0, e_X10_sheet_1, e_X10_sheet_4, e_X10_sheet_5, e_X10_sheet_6, e_X10_sheet_9, e_X10_sheet_10, e_X10_sheet_12, e_X10_sheet_15, e_X10_sheet_16, e_X10_sheet_17, e_X10_sheet_18, e_X10_sheet_19, e_X10_sheet_22, e_X10_sheet_23, e_X10_sheet_26, e_X10_sheet_27, e_X10_sheet_28, e_X10_sheet_29, e_X10_sheet_31, e_X10_sheet_34, e_X10_sheet_35, e_X10_sheet_37, e_X10_sheet_38, e_X10_sheet_39, e_X10_sheet_42, e_X10_sheet_44, e_X10_sheet_47, e_X10_sheet_48, e_X10_sheet_51, e_X10_sheet_52, e_X10_sheet_53, e_X10_sheet_54, e_X10_sheet_56, e_X10_sheet_59, ob_0, rk_0_2, ob_5, kcl_i, kcl_r, kcl_l, kcl_0, kcl_n, true_and, and_true, h0.1.1, h0.1.2, h0.2, q3, q4, if_true, if_false, c_takeSheet h5 h8, ← hBc, eS]
      have hiC : ∀ c, c ≠ 6 → c ≠ 8 → aPut (aPut i 6 8 Bc) 8 8 (pWs (aPut i 6 8 Bc) m) c = i c := fun c c1 c2 => by rw [aP_o c2, aP_o c1]
      have x6 : ∀ a, a < 8 → aPut (aPut i 6 8 Bc) 8 8 (pWs (aPut i 6 8 Bc) m) 6 a = Bc a := fun a ha => by rw [aP_o (by decide), aP_s ha]
      have x8 : ∀ a, a < m → aPut (aPut i 6 8 Bc) 8 8 (pWs (aPut i 6 8 Bc) m) 8 a = pAble (i 93) (Bc a) (i 95 a) := fun a ha => by
        rw [aP_s (by omega), pWs_eq, if_pos ha, aP_o (show 9 ≠ 6 by decide), aP_s (by omega), aP_o (show 7 ≠ 6 by decide), pW_able, e9, (hp a ha).2.1]
      generalize hX1 : aPut (aPut i 6 8 Bc) 8 8 (pWs (aPut i 6 8 Bc) m) = X at C hiC x6 x8
      have W := m_sheet (i := X) (l := l) (f := f) (t := t) (sp := sp) (p := p) (q := q) (v0 := v0) (s0 := s0) (m := m) h0.1 h0.2 h1 (by rw [hiC 91 (by decide) (by decide)]; exact h91) h8
      rw [hiC 94 (by decide) (by decide), ← hB] at W
      refine ⟨_, _, _, f, t, sp, _, _, m, C, W, ?_⟩
      have ap : ∀ {c : Nat}, c ≠ 6 → c ≠ 8 → c ≠ 91 → c ≠ 94 → aPut (uPut X) 94 8 B c = i c := fun c1 c2 c3 c4 => by rw [aP_o c4, uP_o c3, hiC _ c1 c2]
      have a91 : ∀ {j : Nat}, j ≠ 0 → aPut (uPut X) 94 8 B 91 j = i 91 j := fun hj => by rw [aP_o (by decide), uP_f hj, hiC 91 (by decide) (by decide)]
      refine ⟨⟨?_, ?_, h8, ?_, ?_, ?_⟩, ?_, ?_, ?_, ?_, hS, ?_, ?_, ?_, hF⟩
      · rw [ap (by decide) (by decide) (by decide) (by decide)]; exact h5
      · rw [a91 (by decide)]; exact h91
      · rw [ap (by decide) (by decide) (by decide) (by decide), ap (by decide) (by decide) (by decide) (by decide)]; exact e9
      · rw [ap (by decide) (by decide) (by decide) (by decide)]; exact hle
      · intro a ha
        have e94 : aPut (uPut X) 94 8 B 94 a = rBr p q v0 s0 a := by rw [aP_s (by omega), bB a ha]
        have e6 : aPut (uPut X) 94 8 B 6 a = rBr p q v0 s0 a := by rw [aP_o (by decide), uP_o (by decide), x6 a (by omega), bC a ha]
        have e8 : aPut (uPut X) 94 8 B 8 a = pAble (i 93) (rBr p q v0 s0 a) (i 95 a) := by rw [aP_o (by decide), uP_o (by decide), x8 a ha, bC a ha]
        refine ⟨e6.trans e94.symm, ?_, ?_⟩
        · rw [ap (c := 7) (by decide) (by decide) (by decide) (by decide), ap (c := 95) (by decide) (by decide) (by decide) (by decide)]; exact (hp a ha).2.1
        · rw [e8, e94, ap (c := 93) (by decide) (by decide) (by decide) (by decide), ap (c := 95) (by decide) (by decide) (by decide) (by decide)]
      · rw [ap (c := 1) (by decide) (by decide) (by decide) (by decide), ap (c := 2) (by decide) (by decide) (by decide) (by decide), ap (c := 98) (by decide) (by decide) (by decide) (by decide), a91 (by decide)]; exact hX
      · rw [ap (c := 3) (by decide) (by decide) (by decide) (by decide), a91 (by decide)]; exact hW
      · rw [ap (c := 96) (by decide) (by decide) (by decide) (by decide), nGet_c (i := i) (c := 10) (ap (by decide) (by decide) (by decide) (by decide)) (ap (by decide) (by decide) (by decide) (by decide)) (ap (by decide) (by decide) (by decide) (by decide))]; exact hN
      · rw [ap (c := 16) (by decide) (by decide) (by decide) (by decide), ap (c := 104) (by decide) (by decide) (by decide) (by decide), a91 (by decide)]
        exact IU_c hS hU (fun c c1 c2 => ap (by omega) (by omega) (by omega) (by omega))
      · rw [a91 (by decide), ap (c := 19) (by decide) (by decide) (by decide) (by decide), ap (c := 116) (by decide) (by decide) (by decide) (by decide), ap (c := 117) (by decide) (by decide) (by decide) (by decide), ap (c := 118) (by decide) (by decide) (by decide) (by decide)]
        exact IK_c hK (fun c c1 c2 => ap (by omega) (by omega) (by omega) (by omega))
      · rw [ap (c := 74) (by decide) (by decide) (by decide) (by decide), ap (c := 75) (by decide) (by decide) (by decide) (by decide), ap (c := 76) (by decide) (by decide) (by decide) (by decide), ap (c := 113) (by decide) (by decide) (by decide) (by decide), ap (c := 114) (by decide) (by decide) (by decide) (by decide), a91 (by decide)]; exact hH
      · have g : ∀ c, 77 ≤ c → c < 91 → aPut (uPut X) 94 8 B c = i c := fun c c1 c2 => ap (by omega) (by omega) (by omega) (by omega)
        refine IR_c hF ?_ (by rw [g 85 (by decide) (by decide)]) (by rw [g 88 (by decide) (by decide)]) (g 86 (by decide) (by decide)) (g 89 (by decide) (by decide))
        rw [a91 (by decide), ap (c := 100) (by decide) (by decide) (by decide) (by decide)]; exact hR
    · have q3 : ¬ p = 3 := fun z => h1 (Or.inl z)
      have q4 : ¬ 0 ≤ q := fun z => h1 (Or.inr z)
      refine JJ_n h (-2) i (uPut i) ag_r (ag_uu ag_r) rfl rfl ?_ ?_
      · intro sc d y nx hd L st cu su K
        refine kCA_of (d := d + 499) (v := some (.int _)) (fun K => ?_)
        rw [km_102]
        show kWP sc (d + 499) 102 0 [.ref 0, .int p, .int q, .int v0, .int s0] [] _ K = _
        simp only [e_X10_sheet_0, e_X10_sheet_1, e_X10_sheet_4, e_X10_sheet_5, e_X10_sheet_6, e_X10_sheet_9, e_X10_sheet_10, e_X10_sheet_12, e_X10_sheet_15, e_X10_sheet_16, e_X10_sheet_17, e_X10_sheet_18, e_X10_sheet_19, e_X10_sheet_22, e_X10_sheet_23, e_X10_sheet_26, e_X10_sheet_27, e_X10_sheet_28, e_X10_sheet_29, e_X10_sheet_31, e_X10_sheet_34, e_X10_sheet_35, e_X10_sheet_37, e_X10_sheet_38, e_X10_sheet_39, e_X10_sheet_42, e_X10_sheet_44, e_X10_sheet_47, e_X10_sheet_48, e_X10_sheet_51, e_X10_sheet_52, e_X10_sheet_53, e_X10_sheet_54, e_X10_sheet_56, e_X10_sheet_59, ob_0, rk_0_2, ob_5, kcl_i, kcl_r, kcl_l, kcl_0, kcl_n, true_and, and_true, h0.1.1, h0.1.2, h0.2, q3, q4, if_true, if_false]
      · intro sc d y nx hd L st cu su K
        refine kCA_of (d := d + 499) (v := some (.int _)) (fun K => ?_)
        rw [km_193]
        show kWP sc (d + 499) 193 0 [.ref 91, .int p, .int q, .int v0, .int s0, .retAddr 0, .retAddr 0, .retAddr 0, .retAddr 0] [] _ K = _
        simp only [e_X11_sheet_0, e_X11_sheet_1, e_X11_sheet_2, e_X11_sheet_5, e_X11_sheet_6, e_X11_sheet_7, e_X11_sheet_8, e_X11_sheet_11, e_X11_sheet_14, e_X11_sheet_17, e_X11_sheet_18, e_X11_sheet_20, e_X11_sheet_23, e_X11_sheet_24, e_X11_sheet_25, e_X11_sheet_26, e_X11_sheet_27, e_X11_sheet_30, e_X11_sheet_31, e_X11_sheet_34, e_X11_sheet_36, e_X11_sheet_37, e_X11_sheet_38, e_X11_sheet_40, e_X11_sheet_41, e_X11_sheet_43, e_X11_sheet_44, e_X11_sheet_48, e_X11_sheet_49, e_X11_sheet_52, e_X11_sheet_55, e_X11_sheet_56, e_X11_sheet_59, e_X11_sheet_61, e_X11_sheet_62, e_X11_sheet_65, e_X11_sheet_66, e_X11_sheet_67, e_X11_sheet_70, e_X11_sheet_72, e_X11_sheet_73, e_X11_sheet_76, e_X11_sheet_78, e_X11_sheet_80, e_X11_sheet_81, e_X11_sheet_84, e_X11_sheet_86, e_X11_sheet_87, e_X11_sheet_88, e_X11_sheet_91, e_X11_sheet_93, e_X11_sheet_94, e_X11_sheet_97, e_X11_sheet_98, e_X11_sheet_101, e_X11_sheet_102, e_X11_sheet_104, e_X11_sheet_106, e_X11_sheet_109, e_X11_sheet_112, e_X11_sheet_113, e_X11_sheet_115, e_X11_sheet_116, e_X11_sheet_119, e_X11_sheet_121, e_X11_sheet_122, e_X11_sheet_123, e_X11_sheet_125, e_X11_sheet_127, e_X11_sheet_129, e_X11_sheet_130, e_X11_sheet_132, e_X11_sheet_135, e_X11_sheet_138, e_X11_sheet_139, e_X11_sheet_140, e_X11_sheet_143, e_X11_sheet_145, e_X11_sheet_148, e_X11_sheet_150, ob_91, rk_91_6, ar_94, kcl_i, kcl_r, kcl_l, kcl_0, kcl_n, true_and, and_true, uP_0, l0, l3', m_in, m_inI, kb_0, h0.1, h0.2, q3, q4, not_true_eq_false, not_false_eq_true, and_self, if_false, if_true]
  · refine JJ_n h (-1) i (uPut i) ag_r (ag_uu ag_r) rfl rfl ?_ ?_
    · intro sc d y nx hd L st cu su K
      refine kCA_of (d := d + 499) (v := some (.int _)) (fun K => ?_)
      rw [km_102]
      show kWP sc (d + 499) 102 0 [.ref 0, .int p, .int q, .int v0, .int s0] [] _ K = _
      simp only [e_X10_sheet_0, e_X10_sheet_1, e_X10_sheet_4, e_X10_sheet_5, e_X10_sheet_6, e_X10_sheet_9, e_X10_sheet_10, e_X10_sheet_12, e_X10_sheet_15, e_X10_sheet_16, e_X10_sheet_17, e_X10_sheet_18, e_X10_sheet_19, e_X10_sheet_22, e_X10_sheet_23, e_X10_sheet_26, e_X10_sheet_27, e_X10_sheet_28, e_X10_sheet_29, e_X10_sheet_31, e_X10_sheet_34, e_X10_sheet_35, e_X10_sheet_37, e_X10_sheet_38, e_X10_sheet_39, e_X10_sheet_42, e_X10_sheet_44, e_X10_sheet_47, e_X10_sheet_48, e_X10_sheet_51, e_X10_sheet_52, e_X10_sheet_53, e_X10_sheet_54, e_X10_sheet_56, e_X10_sheet_59, ob_0, rk_0_2, ob_5, kcl_i, kcl_r, kcl_l, kcl_0, kcl_n, true_and, and_true]
      by_cases c1 : p < 0
      · simp only [c1, if_true]
      by_cases c2 : 3 < p
      · simp only [c1, c2, if_true, if_false]
      have c3 : ¬ q ≤ 8 := fun z => h0 ⟨⟨c1, c2⟩, z⟩
      simp only [c1, c2, c3, if_false]
    · intro sc d y nx hd L st cu su K
      refine kCA_of (d := d + 499) (v := some (.int _)) (fun K => ?_)
      rw [km_193]
      show kWP sc (d + 499) 193 0 [.ref 91, .int p, .int q, .int v0, .int s0, .retAddr 0, .retAddr 0, .retAddr 0, .retAddr 0] [] _ K = _
      simp only [e_X11_sheet_0, e_X11_sheet_1, e_X11_sheet_2, e_X11_sheet_5, e_X11_sheet_6, e_X11_sheet_7, e_X11_sheet_8, e_X11_sheet_11, e_X11_sheet_14, e_X11_sheet_17, e_X11_sheet_18, e_X11_sheet_20, e_X11_sheet_23, e_X11_sheet_24, e_X11_sheet_25, e_X11_sheet_26, e_X11_sheet_27, e_X11_sheet_30, e_X11_sheet_31, e_X11_sheet_34, e_X11_sheet_36, e_X11_sheet_37, e_X11_sheet_38, e_X11_sheet_40, e_X11_sheet_41, e_X11_sheet_43, e_X11_sheet_44, e_X11_sheet_48, e_X11_sheet_49, e_X11_sheet_52, e_X11_sheet_55, e_X11_sheet_56, e_X11_sheet_59, e_X11_sheet_61, e_X11_sheet_62, e_X11_sheet_65, e_X11_sheet_66, e_X11_sheet_67, e_X11_sheet_70, e_X11_sheet_72, e_X11_sheet_73, e_X11_sheet_76, e_X11_sheet_78, e_X11_sheet_80, e_X11_sheet_81, e_X11_sheet_84, e_X11_sheet_86, e_X11_sheet_87, e_X11_sheet_88, e_X11_sheet_91, e_X11_sheet_93, e_X11_sheet_94, e_X11_sheet_97, e_X11_sheet_98, e_X11_sheet_101, e_X11_sheet_102, e_X11_sheet_104, e_X11_sheet_106, e_X11_sheet_109, e_X11_sheet_112, e_X11_sheet_113, e_X11_sheet_115, e_X11_sheet_116, e_X11_sheet_119, e_X11_sheet_121, e_X11_sheet_122, e_X11_sheet_123, e_X11_sheet_125, e_X11_sheet_127, e_X11_sheet_129, e_X11_sheet_130, e_X11_sheet_132, e_X11_sheet_135, e_X11_sheet_138, e_X11_sheet_139, e_X11_sheet_140, e_X11_sheet_143, e_X11_sheet_145, e_X11_sheet_148, e_X11_sheet_150, ob_91, rk_91_6, ar_94, kcl_i, kcl_r, kcl_l, kcl_0, kcl_n, true_and, and_true, uP_0, l0, l3', m_in, m_inI, kb_0]
      by_cases c1 : ¬ p < 0 ∧ ¬ 3 < p
      · have c3 : ¬ q ≤ 8 := fun z => h0 ⟨c1, z⟩
        simp only [c1, c3, not_true_eq_false, not_false_eq_true, and_self, if_false]
      · simp only [c1, not_false_eq_true, if_true]
end TC
