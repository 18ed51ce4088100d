/-! order: the call -/
section TC
variable {sc : Nat × (Nat → Int32)} {d y nx : Nat} {hd : List (Int × Nat)} {L st : List Value} {S : kS} {cu su : Nat} {i : Nat → Nat → Int32} {l : Nat → Nat → Int64} {f t c b m : Nat} {sp : Nat → Nat} {K : Option (Option Value) → kS → Prop}
variable {N : Nat} {A B G F Pn le co co2 Y Y0 Y2 : Nat → Int32} {i1 i2 i3 : Nat → Nat → Int32} {ln : Nat → Nat} {Tc X : Nat → Nat → Nat} {n n2 k x a o g u w h qn s lf x0 yy : Nat} {v r p q P : Int32} {y0 : Nat → Nat}
theorem nV_co (e : ∀ a, a < m → co a = co2 a) : nV N ln co qn m Tc u h = nV N ln co2 qn m Tc u h := by
  have eF' : ∀ a, a < m → nF N ln co Tc u a = nF N ln co2 Tc u a := fun a ha => by unfold nF nG; rw [e a ha]
  have eP : ∀ h, nP N ln co qn m Tc u h = nP N ln co2 qn m Tc u h := fun h => by unfold nP; rw [nB_c eF']
  unfold nV; rw [eP, nB_c (fun a _ => eP a)]
theorem tOk_co (e : ∀ a, a < m → co a = co2 a) (h : tOk ln co m qn k Tc) : tOk ln co2 m qn k Tc := fun u hu hs h' hh => by rw [← nV_co e]; exact h u hu hs h' hh
theorem trow_co (e : ∀ a, a < m → co a = co2 a) : ∀ F u h lf, trow ln co m Tc F u h lf = trow ln co2 m Tc F u h lf := by
  intro F
  induction F with
  | zero => intro u h lf; rfl
  | succ F ih =>
    intro u h lf
    rw [trow, trow]
    have : kfi (fun j => pT ln co Tc u h lf j) (m * 9) 0 = kfi (fun j => pT ln co2 Tc u h lf j) (m * 9) 0 := by
      apply kfi_congr
      intro j _ hj
      unfold pT oM
      rw [e (j / 9) (by omega)]
    rw [this]
    by_cases c : lf = 0
    · rw [if_pos c, if_pos c]
    · rw [if_neg c, if_neg c]
      cases kfi (fun j => pT ln co2 Tc u h lf j) (m * 9) 0 with
      | none => rfl
      | some j => dsimp only; rw [ih]
theorem lm1 : (-1 : Int64) = (-1 : Int32).toInt64 := by decide
theorem m_1 : ∀ m, m ≤ 8 → (Int32.ofNat m - 1).toInt = (m : Int) - 1 := by decide
theorem m_2 : ∀ m, m ≤ 8 → (Int32.ofNat m).toInt = (m : Int) := by decide
theorem in_m (h8 : m ≤ 8) {q : Int32} : (¬ q < -1 ∧ ¬ (Int32.ofNat m - 1) < q) ↔ (q = -1 ∨ pHas (Int32.ofNat m) q = true) := by
  have e1 := m_1 m h8
  have e2 := m_2 m h8
  have e3 : (-1 : Int32).toInt = -1 := by decide
  have e4 : (0 : Int32).toInt = 0 := by decide
  have e5 : pHas (Int32.ofNat m) q = true ↔ (0 ≤ q.toInt ∧ q.toInt < m) := by
    unfold pHas
    simp only [Bool.and_eq_true, Bool.not_eq_true', decide_eq_false_iff_not, Int32.lt_iff_toInt_lt, Int32.le_iff_toInt_le, e2, e4]
    omega
  rw [e5, ← Int32.toInt_inj, e3, Int32.lt_iff_toInt_lt, Int32.lt_iff_toInt_lt, e1, e3]
  omega
theorem m_order (hn : n = 256) (h91 : i 91 3 = Int32.ofNat m) (h8 : m ≤ 8) (hl : lnOk (i 93) ln) (hT : tOk ln (mCo i) m qn k Tc) (hr : rOk k Tc (rYt (i 93) (mCo i) m (Int32.ofNat k) q n (i 108))) (hk : k < 256) (hq : q = -1 ∨ pHas (Int32.ofNat m) q = true) (hsd : Int32.ofNat k &&& i 96 17 = 0) (hat : (i 96 18 = -1 ∧ h = 8) ∨ (h < m ∧ i 96 18 = Int32.ofNat h)) (e19 : i 96 19 = Int32.ofNat x0) (e20 : i 96 20 = Int32.ofNat yy) (h60 : x0 < yy ∧ yy ≤ 60) :
    (¬ x0 + Tc k h < yy → CC 223 [.ref 91, .int (Int32.ofNat k), .int q] i l f t sp (.int (-2)) (yS (uPut i) (rYt (i 93) (mCo i) m (Int32.ofNat k) q n (i 108))) l f t sp) ∧ (x0 + Tc k h < yy → CC 223 [.ref 91, .int (Int32.ofNat k), .int q] i l f t sp (.int (Int32.ofNat (Tc k h))) (vPut (yS (uPut i) (rYt (i 93) (mCo i) m (Int32.ofNat k) q n (i 108))) (trow ln (mCo i) m Tc (Tc k h) k h (Tc k h)).length) (tR l 0 (trow ln (mCo i) m Tc (Tc k h) k h (Tc k h))) f t sp) := by
  have hq' := (in_m h8).2 hq
  have hk1 : ¬ Int32.ofNat k < 0 ∧ ¬ 255 < Int32.ofNat k := ⟨tn_nn (by omega), by rw [show (255 : Int32) = Int32.ofNat 255 from rfl, tn_lt (by decide) (by omega)]; omega⟩
  have hh : h < 9 := by omega
  generalize hY : rYt (i 93) (mCo i) m (Int32.ofNat k) q n (i 108) = Yf at hr
  have hL : ∀ (sc : Nat × (Nat → Int32)) (d y nx : Nat) (hd : List (Int × Nat)) (L st : List Value) (cu su : Nat) (K : Option (Option Value) → kS → Prop), kCA sc (d + 4) 222 [.ref 91, .int (Int32.ofNat k), .int q] y nx hd L st ((120, cu, su), uPut i, l, kR f t sp) K = kWP sc (d + 4) y nx L st ((120, cu, su), yS (uPut i) Yf, l, kR f t sp) K := by
    intro sc d y nx hd L st cu su K
    have := m_laysYet (sc := sc) (d := d) (y := y) (nx := nx) (hd := hd) (L := L) (st := st) (cu := cu) (su := su) (i := uPut i) (l := l) (f := f) (t := t) (sp := sp) (K := K) (P := Int32.ofNat k) (q := q) (Y := uPut i 108) (m := m) (by rw [u3]; exact h91) h8 hn
    rw [yS_g, mCo_u, u93, uP_o (show 108 ≠ 91 by decide), hY] at this
    exact this
  obtain ⟨c, ec, Rc⟩ := hr 0 (by decide) h hh
  rw [rm_0 hk] at Rc
  rw [Nat.zero_mul, Nat.zero_add] at ec
  have hp8 := pcn_le k hk
  have hc : c ≤ 1000000 := by unfold Rl at Rc; omega
  have e96 : yS (uPut i) Yf 96 = i 96 := by rw [yS_o (by decide), uP_o (by decide)]
  have u96 : uPut i 96 = i 96 := uP_o (by decide)
  have ez : (0 : Int32) * 9 + Int32.ofNat h = Int32.ofNat h := by rw [Int32.zero_mul, Int32.zero_add]
  have R : ∀ (sc : Nat × (Nat → Int32)) (d cu su : Nat) (K : Option (Option Value) → kS → Prop), kWP sc (d + 499) 223 0 [.ref 91, .int (Int32.ofNat k), .int q, .retAddr 0, .retAddr 0, .retAddr 0, .retAddr 0, .retAddr 0, .retAddr 0] [] ((120, cu, su), i, l, kR f t sp) K = kWP sc (d + 499) 223 94 [.ref 91, .int (Int32.ofNat k), .int q, .int 0, .int (Int32.ofNat h), .int (Int32.ofNat c), .retAddr 0, .retAddr 0, .retAddr 0] [] ((120, cu, su), yS (uPut i) Yf, l, kR f t sp) K := by
    intro sc d cu su K
    simp only [e_X11_order_0, e_X11_order_1, e_X11_order_2, e_X11_order_5, e_X11_order_6, e_X11_order_7, e_X11_order_8, e_X11_order_11, e_X11_order_14, e_X11_order_17, e_X11_order_18, e_X11_order_19, e_X11_order_22, e_X11_order_23, e_X11_order_26, e_X11_order_27, e_X11_order_28, e_X11_order_29, e_X11_order_32, e_X11_order_35, e_X11_order_36, e_X11_order_37, e_X11_order_40, e_X11_order_42, e_X11_order_43, e_X11_order_44, e_X11_order_47, e_X11_order_48, e_X11_order_50, e_X11_order_51, e_X11_order_52, e_X11_order_55, e_X11_order_56, e_X11_order_57, e_X11_order_58, e_X11_order_61, e_X11_order_63, e_X11_order_64, e_X11_order_67, e_X11_order_69, e_X11_order_72, e_X11_order_73, e_X11_order_76, e_X11_order_78, e_X11_order_79, e_X11_order_81, e_X11_order_82, e_X11_order_85, e_X11_order_86, e_X11_order_88, e_X11_order_91, e_X11_order_92, e_X11_order_96, e_X11_order_99, e_X11_order_102, e_X11_order_103, e_X11_order_106, e_X11_order_108, e_X11_order_109, e_X11_order_111, e_X11_order_112, e_X11_order_113, e_X11_order_116, e_X11_order_118, e_X11_order_119, e_X11_order_122, e_X11_order_124, e_X11_order_125, e_X11_order_126, e_X11_order_127, e_X11_order_130, e_X11_order_132, e_X11_order_136, e_X11_order_139, e_X11_order_140, e_X11_order_142, e_X11_order_143, e_X11_order_146, e_X11_order_147, e_X11_order_148, e_X11_order_150, e_X11_order_152, e_X11_order_154, e_X11_order_157, e_X11_order_159, e_X11_order_162, e_X11_order_165, e_X11_order_167, e_X11_order_169, e_X11_order_171, e_X11_order_172, e_X11_order_173, e_X11_order_175, e_X11_order_177, e_X11_order_179, e_X11_order_180, e_X11_order_182, e_X11_order_185, e_X11_order_186, e_X11_order_188, e_X11_order_189, e_X11_order_192, e_X11_order_193, e_X11_order_195, e_X11_order_196, e_X11_order_199, e_X11_order_201, e_X11_order_203, e_X11_order_205, e_X11_order_208, e_X11_order_209, e_X11_order_212, e_X11_order_213, e_X11_order_216, e_X11_order_218, e_X11_order_219, e_X11_order_220, e_X11_order_222, e_X11_order_223, e_X11_order_225, e_X11_order_227, e_X11_order_230, e_X11_order_231, e_X11_order_234, e_X11_order_235, e_X11_order_237, e_X11_order_238, e_X11_order_239, e_X11_order_240, e_X11_order_242, e_X11_order_244, e_X11_order_247, e_X11_order_249, ob_91, rk_91_8, ar_96, rk_91_33, ar_108, rk_91_5, ar_93, kcl_i, kcl_r, kcl_l, kcl_0, kcl_n, true_and, and_true, uP_0, l0, l255, lm1, u3, h91, m_in, m_inI, kb_0, hk1, hq', not_true_eq_false, not_false_eq_true, and_self, if_false, if_true, u96, ki17, ni17, hsd, true_and]
    simp only [e_X11_order_0, e_X11_order_1, e_X11_order_2, e_X11_order_5, e_X11_order_6, e_X11_order_7, e_X11_order_8, e_X11_order_11, e_X11_order_14, e_X11_order_17, e_X11_order_18, e_X11_order_19, e_X11_order_22, e_X11_order_23, e_X11_order_26, e_X11_order_27, e_X11_order_28, e_X11_order_29, e_X11_order_32, e_X11_order_35, e_X11_order_36, e_X11_order_37, e_X11_order_40, e_X11_order_42, e_X11_order_43, e_X11_order_44, e_X11_order_47, e_X11_order_48, e_X11_order_49, e_X11_order_50, e_X11_order_51, e_X11_order_52, e_X11_order_55, e_X11_order_56, e_X11_order_57, e_X11_order_58, e_X11_order_61, e_X11_order_63, e_X11_order_64, e_X11_order_67, e_X11_order_69, e_X11_order_72, e_X11_order_73, e_X11_order_76, e_X11_order_78, e_X11_order_79, e_X11_order_81, e_X11_order_82, e_X11_order_85, e_X11_order_86, e_X11_order_88, e_X11_order_91, e_X11_order_92, e_X11_order_96, e_X11_order_99, e_X11_order_102, e_X11_order_103, e_X11_order_106, e_X11_order_108, e_X11_order_109, e_X11_order_111, e_X11_order_112, e_X11_order_113, e_X11_order_116, e_X11_order_118, e_X11_order_119, e_X11_order_122, e_X11_order_124, e_X11_order_125, e_X11_order_126, e_X11_order_127, e_X11_order_130, e_X11_order_132, e_X11_order_136, e_X11_order_139, e_X11_order_140, e_X11_order_142, e_X11_order_143, e_X11_order_146, e_X11_order_147, e_X11_order_148, e_X11_order_150, e_X11_order_152, e_X11_order_154, e_X11_order_157, e_X11_order_159, e_X11_order_162, e_X11_order_165, e_X11_order_167, e_X11_order_169, e_X11_order_171, e_X11_order_172, e_X11_order_173, e_X11_order_175, e_X11_order_177, e_X11_order_179, e_X11_order_180, e_X11_order_182, e_X11_order_185, e_X11_order_186, e_X11_order_188, e_X11_order_189, e_X11_order_192, e_X11_order_193, e_X11_order_195, e_X11_order_196, e_X11_order_199, e_X11_order_201, e_X11_order_203, e_X11_order_205, e_X11_order_208, e_X11_order_209, e_X11_order_212, e_X11_order_213, e_X11_order_216, e_X11_order_218, e_X11_order_219, e_X11_order_220, e_X11_order_222, e_X11_order_223, e_X11_order_225, e_X11_order_227, e_X11_order_230, e_X11_order_231, e_X11_order_234, e_X11_order_235, e_X11_order_237, e_X11_order_238, e_X11_order_239, e_X11_order_240, e_X11_order_242, e_X11_order_244, e_X11_order_247, e_X11_order_249, ob_91, rk_91_8, ar_96, rk_91_33, ar_108, rk_91_5, ar_93, kcl_i, kcl_r, kcl_l, kcl_0, kcl_n, true_and, and_true, hL _ (d + 495), e96, ki18, ni18, true_and]
    rcases hat with ⟨z1, z2⟩ | ⟨z1, z2⟩
    · subst z2
      simp only [z1, show ((0 : Int32) ≤ -1) = False from eq_false (by decide), if_false, m_placeN, show (0 : Int32) * 9 + 8 = Int32.ofNat 8 from by decide, kin2304 (show 8 < 2304 by decide), cl_n (show 8 < 100000 by decide), yS_s, ec, true_and, e_X11_order_0, e_X11_order_1, e_X11_order_2, e_X11_order_5, e_X11_order_6, e_X11_order_7, e_X11_order_8, e_X11_order_11, e_X11_order_14, e_X11_order_17, e_X11_order_18, e_X11_order_19, e_X11_order_22, e_X11_order_23, e_X11_order_26, e_X11_order_27, e_X11_order_28, e_X11_order_29, e_X11_order_32, e_X11_order_35, e_X11_order_36, e_X11_order_37, e_X11_order_40, e_X11_order_42, e_X11_order_43, e_X11_order_44, e_X11_order_47, e_X11_order_48, e_X11_order_49, e_X11_order_50, e_X11_order_51, e_X11_order_52, e_X11_order_55, e_X11_order_56, e_X11_order_57, e_X11_order_58, e_X11_order_61, e_X11_order_63, e_X11_order_64, e_X11_order_67, e_X11_order_69, e_X11_order_72, e_X11_order_73, e_X11_order_76, e_X11_order_78, e_X11_order_79, e_X11_order_81, e_X11_order_82, e_X11_order_85, e_X11_order_86, e_X11_order_88, e_X11_order_91, e_X11_order_92, e_X11_order_96, e_X11_order_99, e_X11_order_102, e_X11_order_103, e_X11_order_106, e_X11_order_108, e_X11_order_109, e_X11_order_111, e_X11_order_112, e_X11_order_113, e_X11_order_116, e_X11_order_118, e_X11_order_119, e_X11_order_122, e_X11_order_124, e_X11_order_125, e_X11_order_126, e_X11_order_127, e_X11_order_130, e_X11_order_132, e_X11_order_136, e_X11_order_139, e_X11_order_140, e_X11_order_142, e_X11_order_143, e_X11_order_146, e_X11_order_147, e_X11_order_148, e_X11_order_150, e_X11_order_152, e_X11_order_154, e_X11_order_157, e_X11_order_159, e_X11_order_162, e_X11_order_165, e_X11_order_167, e_X11_order_169, e_X11_order_171, e_X11_order_172, e_X11_order_173, e_X11_order_175, e_X11_order_177, e_X11_order_179, e_X11_order_180, e_X11_order_182, e_X11_order_185, e_X11_order_186, e_X11_order_188, e_X11_order_189, e_X11_order_192, e_X11_order_193, e_X11_order_195, e_X11_order_196, e_X11_order_199, e_X11_order_201, e_X11_order_203, e_X11_order_205, e_X11_order_208, e_X11_order_209, e_X11_order_212, e_X11_order_213, e_X11_order_216, e_X11_order_218, e_X11_order_219, e_X11_order_220, e_X11_order_222, e_X11_order_223, e_X11_order_225, e_X11_order_227, e_X11_order_230, e_X11_order_231, e_X11_order_234, e_X11_order_235, e_X11_order_237, e_X11_order_238, e_X11_order_239, e_X11_order_240, e_X11_order_242, e_X11_order_244, e_X11_order_247, e_X11_order_249, ob_91, rk_91_8, ar_96, rk_91_33, ar_108, rk_91_5, ar_93, kcl_i, kcl_r, kcl_l, kcl_0, kcl_n, true_and, and_true]
      rfl
    · simp only [z2, tn_0 (show h < 2147483648 by omega), if_true, m_placeN, ez, kin2304 (show h < 2304 by omega), cl_n (show h < 100000 by omega), yS_s, ec, true_and, e_X11_order_0, e_X11_order_1, e_X11_order_2, e_X11_order_5, e_X11_order_6, e_X11_order_7, e_X11_order_8, e_X11_order_11, e_X11_order_14, e_X11_order_17, e_X11_order_18, e_X11_order_19, e_X11_order_22, e_X11_order_23, e_X11_order_26, e_X11_order_27, e_X11_order_28, e_X11_order_29, e_X11_order_32, e_X11_order_35, e_X11_order_36, e_X11_order_37, e_X11_order_40, e_X11_order_42, e_X11_order_43, e_X11_order_44, e_X11_order_47, e_X11_order_48, e_X11_order_49, e_X11_order_50, e_X11_order_51, e_X11_order_52, e_X11_order_55, e_X11_order_56, e_X11_order_57, e_X11_order_58, e_X11_order_61, e_X11_order_63, e_X11_order_64, e_X11_order_67, e_X11_order_69, e_X11_order_72, e_X11_order_73, e_X11_order_76, e_X11_order_78, e_X11_order_79, e_X11_order_81, e_X11_order_82, e_X11_order_85, e_X11_order_86, e_X11_order_88, e_X11_order_91, e_X11_order_92, e_X11_order_96, e_X11_order_99, e_X11_order_102, e_X11_order_103, e_X11_order_106, e_X11_order_108, e_X11_order_109, e_X11_order_111, e_X11_order_112, e_X11_order_113, e_X11_order_116, e_X11_order_118, e_X11_order_119, e_X11_order_122, e_X11_order_124, e_X11_order_125, e_X11_order_126, e_X11_order_127, e_X11_order_130, e_X11_order_132, e_X11_order_136, e_X11_order_139, e_X11_order_140, e_X11_order_142, e_X11_order_143, e_X11_order_146, e_X11_order_147, e_X11_order_148, e_X11_order_150, e_X11_order_152, e_X11_order_154, e_X11_order_157, e_X11_order_159, e_X11_order_162, e_X11_order_165, e_X11_order_167, e_X11_order_169, e_X11_order_171, e_X11_order_172, e_X11_order_173, e_X11_order_175, e_X11_order_177, e_X11_order_179, e_X11_order_180, e_X11_order_182, e_X11_order_185, e_X11_order_186, e_X11_order_188, e_X11_order_189, e_X11_order_192, e_X11_order_193, e_X11_order_195, e_X11_order_196, e_X11_order_199, e_X11_order_201, e_X11_order_203, e_X11_order_205, e_X11_order_208, e_X11_order_209, e_X11_order_212, e_X11_order_213, e_X11_order_216, e_X11_order_218, e_X11_order_219, e_X11_order_220, e_X11_order_222, e_X11_order_223, e_X11_order_225, e_X11_order_227, e_X11_order_230, e_X11_order_231, e_X11_order_234, e_X11_order_235, e_X11_order_237, e_X11_order_238, e_X11_order_239, e_X11_order_240, e_X11_order_242, e_X11_order_244, e_X11_order_247, e_X11_order_249, ob_91, rk_91_8, ar_96, rk_91_33, ar_108, rk_91_5, ar_93, kcl_i, kcl_r, kcl_l, kcl_0, kcl_n, true_and, and_true]
  have eN : ((1000000 : Int32) ≤ Int32.ofNat c) = (1000000 ≤ c) := by rw [show (1000000 : Int32) = Int32.ofNat 1000000 from rfl, tn_le (by decide) (by omega)]
  have eT : (Int32.ofNat x0 + Int32.ofNat c < Int32.ofNat yy) = (x0 + c < yy) := by rw [← Int32.ofNat_add, tn_lt (by omega) (by omega)]
  constructor
  · intro hB sc d y nx hd L st cu su K
    refine kCA_of (d := d + 499) (v := some (.int _)) (fun K => ?_)
    rw [km_223]
    show kWP sc (d + 499) 223 0 [.ref 91, .int (Int32.ofNat k), .int q, .retAddr 0, .retAddr 0, .retAddr 0, .retAddr 0, .retAddr 0, .retAddr 0] [] _ K = _
    rw [R]
    have hnc : ¬ x0 + c < yy := by unfold Rl at Rc; omega
    by_cases c1 : 1000000 ≤ c
    · simp only [e_X11_order_0, e_X11_order_1, e_X11_order_2, e_X11_order_5, e_X11_order_6, e_X11_order_7, e_X11_order_8, e_X11_order_11, e_X11_order_14, e_X11_order_17, e_X11_order_18, e_X11_order_19, e_X11_order_22, e_X11_order_23, e_X11_order_26, e_X11_order_27, e_X11_order_28, e_X11_order_29, e_X11_order_32, e_X11_order_35, e_X11_order_36, e_X11_order_37, e_X11_order_40, e_X11_order_42, e_X11_order_43, e_X11_order_44, e_X11_order_47, e_X11_order_48, e_X11_order_49, e_X11_order_50, e_X11_order_51, e_X11_order_52, e_X11_order_55, e_X11_order_56, e_X11_order_57, e_X11_order_58, e_X11_order_61, e_X11_order_63, e_X11_order_64, e_X11_order_67, e_X11_order_69, e_X11_order_72, e_X11_order_73, e_X11_order_76, e_X11_order_78, e_X11_order_79, e_X11_order_81, e_X11_order_82, e_X11_order_85, e_X11_order_86, e_X11_order_88, e_X11_order_91, e_X11_order_92, e_X11_order_94, e_X11_order_96, e_X11_order_99, e_X11_order_102, e_X11_order_103, e_X11_order_106, e_X11_order_108, e_X11_order_109, e_X11_order_111, e_X11_order_112, e_X11_order_113, e_X11_order_116, e_X11_order_118, e_X11_order_119, e_X11_order_122, e_X11_order_124, e_X11_order_125, e_X11_order_126, e_X11_order_127, e_X11_order_130, e_X11_order_132, e_X11_order_136, e_X11_order_139, e_X11_order_140, e_X11_order_142, e_X11_order_143, e_X11_order_146, e_X11_order_147, e_X11_order_148, e_X11_order_150, e_X11_order_152, e_X11_order_154, e_X11_order_157, e_X11_order_159, e_X11_order_162, e_X11_order_165, e_X11_order_167, e_X11_order_169, e_X11_order_171, e_X11_order_172, e_X11_order_173, e_X11_order_175, e_X11_order_177, e_X11_order_179, e_X11_order_180, e_X11_order_182, e_X11_order_185, e_X11_order_186, e_X11_order_188, e_X11_order_189, e_X11_order_192, e_X11_order_193, e_X11_order_195, e_X11_order_196, e_X11_order_199, e_X11_order_201, e_X11_order_203, e_X11_order_205, e_X11_order_208, e_X11_order_209, e_X11_order_212, e_X11_order_213, e_X11_order_216, e_X11_order_218, e_X11_order_219, e_X11_order_220, e_X11_order_222, e_X11_order_223, e_X11_order_225, e_X11_order_227, e_X11_order_230, e_X11_order_231, e_X11_order_234, e_X11_order_235, e_X11_order_237, e_X11_order_238, e_X11_order_239, e_X11_order_240, e_X11_order_242, e_X11_order_244, e_X11_order_247, e_X11_order_249, ob_91, rk_91_8, ar_96, rk_91_33, ar_108, rk_91_5, ar_93, kcl_i, kcl_r, kcl_l, kcl_0, kcl_n, true_and, and_true, eN, eq_true c1, if_true]
    · simp only [e_X11_order_0, e_X11_order_1, e_X11_order_2, e_X11_order_5, e_X11_order_6, e_X11_order_7, e_X11_order_8, e_X11_order_11, e_X11_order_14, e_X11_order_17, e_X11_order_18, e_X11_order_19, e_X11_order_22, e_X11_order_23, e_X11_order_26, e_X11_order_27, e_X11_order_28, e_X11_order_29, e_X11_order_32, e_X11_order_35, e_X11_order_36, e_X11_order_37, e_X11_order_40, e_X11_order_42, e_X11_order_43, e_X11_order_44, e_X11_order_47, e_X11_order_48, e_X11_order_49, e_X11_order_50, e_X11_order_51, e_X11_order_52, e_X11_order_55, e_X11_order_56, e_X11_order_57, e_X11_order_58, e_X11_order_61, e_X11_order_63, e_X11_order_64, e_X11_order_67, e_X11_order_69, e_X11_order_72, e_X11_order_73, e_X11_order_76, e_X11_order_78, e_X11_order_79, e_X11_order_81, e_X11_order_82, e_X11_order_85, e_X11_order_86, e_X11_order_88, e_X11_order_91, e_X11_order_92, e_X11_order_94, e_X11_order_96, e_X11_order_99, e_X11_order_102, e_X11_order_103, e_X11_order_106, e_X11_order_108, e_X11_order_109, e_X11_order_111, e_X11_order_112, e_X11_order_113, e_X11_order_116, e_X11_order_118, e_X11_order_119, e_X11_order_122, e_X11_order_124, e_X11_order_125, e_X11_order_126, e_X11_order_127, e_X11_order_130, e_X11_order_132, e_X11_order_136, e_X11_order_139, e_X11_order_140, e_X11_order_142, e_X11_order_143, e_X11_order_146, e_X11_order_147, e_X11_order_148, e_X11_order_150, e_X11_order_152, e_X11_order_154, e_X11_order_157, e_X11_order_159, e_X11_order_162, e_X11_order_165, e_X11_order_167, e_X11_order_169, e_X11_order_171, e_X11_order_172, e_X11_order_173, e_X11_order_175, e_X11_order_177, e_X11_order_179, e_X11_order_180, e_X11_order_182, e_X11_order_185, e_X11_order_186, e_X11_order_188, e_X11_order_189, e_X11_order_192, e_X11_order_193, e_X11_order_195, e_X11_order_196, e_X11_order_199, e_X11_order_201, e_X11_order_203, e_X11_order_205, e_X11_order_208, e_X11_order_209, e_X11_order_212, e_X11_order_213, e_X11_order_216, e_X11_order_218, e_X11_order_219, e_X11_order_220, e_X11_order_222, e_X11_order_223, e_X11_order_225, e_X11_order_227, e_X11_order_230, e_X11_order_231, e_X11_order_234, e_X11_order_235, e_X11_order_237, e_X11_order_238, e_X11_order_239, e_X11_order_240, e_X11_order_242, e_X11_order_244, e_X11_order_247, e_X11_order_249, ob_91, rk_91_8, ar_96, rk_91_33, ar_108, rk_91_5, ar_93, kcl_i, kcl_r, kcl_l, kcl_0, kcl_n, true_and, and_true, eN, eq_false c1, if_false, e96, ki19, ni19, ki20, ni20, e19, e20, eT, hnc, true_and]
  · intro hB sc d y nx hd L st cu su K
    have ecT : c = Tc k h := by unfold Rl at Rc; omega
    subst ecT
    refine kCA_of (d := d + 499) (v := some (.int _)) (fun K => ?_)
    rw [km_223]
    show kWP sc (d + 499) 223 0 [.ref 91, .int (Int32.ofNat k), .int q, .retAddr 0, .retAddr 0, .retAddr 0, .retAddr 0, .retAddr 0, .retAddr 0] [] _ K = _
    rw [R]
    have c1 : ¬ 1000000 ≤ Tc k h := by omega
    have W := l_rtell (sc := sc) (d := d + 496) (cu := cu) (su := su) (i := uPut i) (f := f) (t := t) (sp := sp) (K := K) (m := m) (ln := ln) (k := k) (Tc := Tc) (Y := Yf) (qn := qn) (q := q) h8 (by rw [u93]; exact hl) (by rw [mCo_u]; exact hT) hr hk (r5 := Int32.ofNat (Tc k h)) (Tc k h) 0 h (Tc k h) 0 l (.retAddr 0) (.retAddr 0) (Nat.le_refl _) (by rw [rm_0 hk]) (by omega) (by omega) (by decide) hh
    rw [rm_0 hk, mCo_u, Nat.zero_add] at W
    simp only [e_X11_order_0, e_X11_order_1, e_X11_order_2, e_X11_order_5, e_X11_order_6, e_X11_order_7, e_X11_order_8, e_X11_order_11, e_X11_order_14, e_X11_order_17, e_X11_order_18, e_X11_order_19, e_X11_order_22, e_X11_order_23, e_X11_order_26, e_X11_order_27, e_X11_order_28, e_X11_order_29, e_X11_order_32, e_X11_order_35, e_X11_order_36, e_X11_order_37, e_X11_order_40, e_X11_order_42, e_X11_order_43, e_X11_order_44, e_X11_order_47, e_X11_order_48, e_X11_order_49, e_X11_order_50, e_X11_order_51, e_X11_order_52, e_X11_order_55, e_X11_order_56, e_X11_order_57, e_X11_order_58, e_X11_order_61, e_X11_order_63, e_X11_order_64, e_X11_order_67, e_X11_order_69, e_X11_order_72, e_X11_order_73, e_X11_order_76, e_X11_order_78, e_X11_order_79, e_X11_order_81, e_X11_order_82, e_X11_order_85, e_X11_order_86, e_X11_order_88, e_X11_order_91, e_X11_order_92, e_X11_order_94, e_X11_order_96, e_X11_order_99, e_X11_order_102, e_X11_order_103, e_X11_order_106, e_X11_order_108, e_X11_order_109, e_X11_order_111, e_X11_order_112, e_X11_order_113, e_X11_order_116, e_X11_order_118, e_X11_order_119, e_X11_order_122, e_X11_order_124, e_X11_order_125, e_X11_order_126, e_X11_order_127, e_X11_order_130, e_X11_order_132, e_X11_order_136, e_X11_order_139, e_X11_order_140, e_X11_order_142, e_X11_order_143, e_X11_order_146, e_X11_order_147, e_X11_order_148, e_X11_order_150, e_X11_order_152, e_X11_order_154, e_X11_order_157, e_X11_order_159, e_X11_order_162, e_X11_order_165, e_X11_order_167, e_X11_order_169, e_X11_order_171, e_X11_order_172, e_X11_order_173, e_X11_order_175, e_X11_order_177, e_X11_order_179, e_X11_order_180, e_X11_order_182, e_X11_order_185, e_X11_order_186, e_X11_order_188, e_X11_order_189, e_X11_order_192, e_X11_order_193, e_X11_order_195, e_X11_order_196, e_X11_order_199, e_X11_order_201, e_X11_order_203, e_X11_order_205, e_X11_order_208, e_X11_order_209, e_X11_order_212, e_X11_order_213, e_X11_order_216, e_X11_order_218, e_X11_order_219, e_X11_order_220, e_X11_order_222, e_X11_order_223, e_X11_order_225, e_X11_order_227, e_X11_order_230, e_X11_order_231, e_X11_order_234, e_X11_order_235, e_X11_order_237, e_X11_order_238, e_X11_order_239, e_X11_order_240, e_X11_order_242, e_X11_order_244, e_X11_order_247, e_X11_order_249, ob_91, rk_91_8, ar_96, rk_91_33, ar_108, rk_91_5, ar_93, kcl_i, kcl_r, kcl_l, kcl_0, kcl_n, true_and, and_true, eN, eq_false c1, if_false, e96, ki19, ni19, ki20, ni20, e19, e20, eT, hB, if_true, vP_0, true_and]
    exact W
theorem ag_oS (h : kAg kSc i i2) : kAg kSc i (oS i2 A F Pn) := by
  intro c z hq
  have : oS i2 A F Pn c = i2 c := by
    apply oS_o
    apply Classical.byContradiction
    intro e
    have e1 : c = 78 ∨ c = 79 ∨ c = 80 := by omega
    rcases e1 with rfl | rfl | rfl <;> exact absurd hq (by simp [kSc])
  rw [this]; exact h c z hq
theorem ag_yS (h : kAg kSc i i2) : kAg kSc i (yS i2 Y) := by
  intro c z hq
  have : yS i2 Y c = i2 c := by
    apply yS_o
    intro e
    subst e
    exact absurd hq (by simp [kSc])
  rw [this]; exact h c z hq
theorem J_order (h : IV m i l f t sp) (p q : Int32) : JJ 117 223 [.int p, .int q] i l f t sp := by
  obtain ⟨⟨h5, h91, h8, e9, hle, hp⟩, _, _, hN, _⟩ := id h
  have hco : ∀ a, a < m → i 8 a = mCo i a := fun a ha => (hp a ha).2.2
  have nw := IV_now h
  by_cases hok : (¬ p < 0 ∧ ¬ 255 < p) ∧ p &&& i 96 17 = 0 ∧ (q = -1 ∨ pHas (Int32.ofNat m) q = true)
  · obtain ⟨hp1, hsd, hq⟩ := hok
    obtain ⟨k, hk, rfl⟩ : ∃ k, k < 256 ∧ p = Int32.ofNat k := by
      obtain ⟨k, hk, e⟩ := tn_exle (m := 255) (by decide) (Int32.not_lt.1 hp1.1) (Int32.not_lt.1 hp1.2)
      exact ⟨k, by omega, e⟩
    obtain ⟨n, hn⟩ : ∃ n, n = 256 := ⟨_, rfl⟩
    obtain ⟨x0, yy, e19, e20, hxy, hy60⟩ := hN.2
    have hl : lnOk (i 93) (fun x => (i 93 x).toNatClampNeg) := fun x hx => by
      obtain ⟨z, z1, z9, e⟩ := hle x hx
      dsimp only
      rw [e, tn_cl (by omega)]
      exact ⟨rfl, z1, z9⟩
    generalize (fun x => (i 93 x).toNatClampNeg) = ln at hl
    have hl9 : lnOk (i 9) ln := by rw [e9]; exact hl
    obtain ⟨qn, hqn, hq0⟩ : ∃ qn, (∀ h, h < 9 → ((Int32.ofNat h = q) ↔ h = qn)) ∧ (q < 0 → qn = 9) := by
      rcases hq with e | e
      · refine ⟨9, fun h hh => ⟨fun z => ?_, fun z => by omega⟩, fun _ => rfl⟩
        rw [e] at z
        exact absurd z (m1_ne (by omega))
      · obtain ⟨b, hb, rfl⟩ := kN_has h8 e
        refine ⟨b, fun h hh => ?_, fun z => absurd z (tn_nn (by omega))⟩
        rw [tn_eq (by omega) (by omega)]
    obtain ⟨hx, hat⟩ : ∃ hx, (i 96 18 = -1 ∧ hx = 8) ∨ (hx < m ∧ i 96 18 = Int32.ofNat hx) := by
      rcases hN.1.2.2.2.1 with e | ⟨a, ha, e⟩
      · exact ⟨8, Or.inl ⟨e, rfl⟩⟩
      · exact ⟨a, Or.inr ⟨ha, e⟩⟩
    have hx9 : hx < 9 := by omega
    have hh1 : i 96 18 = -1 ∨ ∃ a, a < 8 ∧ i 96 18 = Int32.ofNat a := by
      rcases hat with z | z
      · exact Or.inl z.1
      · exact Or.inr ⟨hx, by omega, z.2⟩
    have hh2 : (if i 96 18 = -1 then 8 else i 96 18) = Int32.ofNat hx := by
      rcases hat with z | z
      · rw [if_pos z.1, z.2]; rfl
      · rw [z.2, if_neg (m1_ne (by omega))]
    have hh3 : ∀ a, a < 8 → ((Int32.ofNat a = i 96 18) = (a = hx)) := fun a ha => by
      rcases hat with z | z
      · rw [z.1, z.2]
        exact propext ⟨fun e => absurd e (m1_ne (by omega)), fun e => by omega⟩
      · rw [z.2, tn_eq (by omega) (by omega)]
    have hh4 : (if i 96 18 = -1 then 8 else (i 96 18).toNatClampNeg) = hx := by
      rcases hat with z | z
      · rw [if_pos z.1, z.2]
      · rw [z.2, if_neg (m1_ne (by omega)), tn_cl (by omega)]
    have hfT := fT_ok (le := i 9) (co := i 8) (ln := ln) (q := q) (qn := qn) (m := m) (k := k + 1) (s := (i 78, i 79, i 80)) (K := Int32.ofNat k) h8 hl9 hqn (by omega)
    have hCm := fun (sc : Nat × (Nat → Int32)) (d y nx : Nat) (hd : List (Int × Nat)) (L st : List Value) (cu su : Nat) (K : Option (Option Value) → kS → Prop) => c_fewestMinutes (sc := sc) (d := d) (y := y) (nx := nx) (hd := hd) (L := L) (st := st) (cu := cu) (su := su) (i := i) (l := l) (f := f) (t := t) (sp := sp) (K := K) (m := m) (k := k) (hat := i 96 18) (q := q) h5 h8 hk hh1
    generalize fT (i 9) (i 8) m (Int32.ofNat k) q (k + 1) (i 78, i 79, i 80) = sT at hfT hCm
    have hTc : tOk ln (i 8) m qn k (tN sT.1) := fun u hu hs h' hh' => by
      have e := hfT u (by omega) hs h' hh'
      have b := nV_le (N := 1000) (ln := ln) (co := i 8) (m := m) (T := tN sT.1) (u := u) (h := h') (qn := qn)
      show (sT.1 (u * 9 + h')).toNatClampNeg = _
      rw [e, tn_cl (by omega)]
    have hA : ∀ u, u ≤ k → Int32.ofNat u &&& (Int32.ofNat k ^^^ (-1)) = 0 → ∀ h, h < 9 → sT.1 (u * 9 + h) = Int32.ofNat (tN sT.1 u h) := fun u hu hs h' hh' => by
      rw [hfT u (by omega) hs h' hh', ← hTc u hu hs h' hh']
    have hkk : Int32.ofNat k &&& (Int32.ofNat k ^^^ (-1)) = 0 := by
      have := rm_sub (s := 0) hk (by decide)
      rw [rm_0 hk] at this; exact this
    have hval := hA k (Nat.le_refl _) hkk hx hx9
    have hb : tN sT.1 k hx ≤ 1000 := by rw [hTc k (Nat.le_refl _) hkk hx hx9]; exact nV_le
    generalize hTg : tN sT.1 = Tc at hTc hA hval hb
    have hTm : tOk ln (mCo i) m qn k Tc := tOk_co hco hTc
    rw [hh4, hval] at hCm
    have eT : (Int32.ofNat x0 + Int32.ofNat (Tc k hx) < Int32.ofNat yy) = (x0 + Tc k hx < yy) := by rw [← Int32.ofNat_add, tn_lt (by omega) (by omega)]
    have hpk : ¬ Int32.ofNat k < 0 ∧ ¬ 255 < Int32.ofNat k := hp1
    have oo : ∀ {c : Nat}, (c < 78 ∨ 80 < c) → oS i sT.1 sT.2.1 sT.2.2 c = i c := fun hc => oS_o hc
    have hM : ∀ (j : Nat → Nat → Int32) (l2 : Nat → Nat → Int64), j 91 3 = i 91 3 → j 93 = i 93 → mCo j = mCo i → j 96 = i 96 → _ := fun j l2 j1 j2 j3 j4 => m_order (i := j) (l := l2) (f := f) (t := t) (sp := sp) (m := m) (ln := ln) (k := k) (Tc := Tc) (qn := qn) (q := q) (h := hx) (x0 := x0) (yy := yy) hn (by rw [j1]; exact h91) h8 (by rw [j2]; exact hl) (by rw [j3]; exact hTm) (by
      rw [j2, j3]
      intro s hs
      exact rYt_ok h8 hl hqn hq0 hk hTm (by omega) s (by omega) hs) hk hq (by rw [j4]; exact hsd) (by rw [j4]; exact hat) (by rw [j4]; exact e19) (by rw [j4]; exact e20) ⟨hxy, hy60⟩
    have hcq : (q = -1) = True ∨ ((q = -1) = False ∧ pHas (Int32.ofNat m) q = true) := by
      by_cases c : q = -1
      · exact Or.inl (eq_true c)
      · rcases hq with z | z
        · exact absurd z c
        · exact Or.inr ⟨eq_false c, z⟩
    have hC0 : ∀ (sc : Nat × (Nat → Int32)) (d cu su : Nat) (K : Option (Option Value) → kS → Prop), kWP sc (d + 499) 117 0 [.ref 0, .int (Int32.ofNat k), .int q, .retAddr 0] [] ((120, cu, su), i, l, kR f t sp) K = kWP sc (d + 499) 117 37 [.ref 0, .int (Int32.ofNat k), .int q, .retAddr 0] [] ((120, cu, su), i, l, kR f t sp) K := by
      intro sc d cu su K
      rcases hcq with z | ⟨z, z2⟩
      · simp only [e_X10_order_0, e_X10_order_1, e_X10_order_4, e_X10_order_7, e_X10_order_8, e_X10_order_9, e_X10_order_12, e_X10_order_15, e_X10_order_16, e_X10_order_19, e_X10_order_20, e_X10_order_21, e_X10_order_24, e_X10_order_25, e_X10_order_28, e_X10_order_29, e_X10_order_32, e_X10_order_35, e_X10_order_36, e_X10_order_38, e_X10_order_41, e_X10_order_42, e_X10_order_43, e_X10_order_46, e_X10_order_49, e_X10_order_50, e_X10_order_53, e_X10_order_54, e_X10_order_55, e_X10_order_58, e_X10_order_61, e_X10_order_62, e_X10_order_63, e_X10_order_64, e_X10_order_67, e_X10_order_70, e_X10_order_73, e_X10_order_75, e_X10_order_76, e_X10_order_77, e_X10_order_80, e_X10_order_83, e_X10_order_84, e_X10_order_87, e_X10_order_88, e_X10_order_89, e_X10_order_92, e_X10_order_95, e_X10_order_96, e_X10_order_99, e_X10_order_102, e_X10_order_103, ob_0, rk_0_3, ob_10, ob_13, rk_0_2, ob_5, rk_0_7, ob_77, rk_0_1, ob_3, kcl_i, kcl_r, kcl_l, kcl_0, kcl_n, true_and, and_true, c_areThings, kb_0, hpk, not_true_eq_false, not_false_eq_true, and_self, if_false, nw.1, hsd, z, if_true]
      · simp only [e_X10_order_0, e_X10_order_1, e_X10_order_4, e_X10_order_7, e_X10_order_8, e_X10_order_9, e_X10_order_12, e_X10_order_15, e_X10_order_16, e_X10_order_19, e_X10_order_20, e_X10_order_21, e_X10_order_24, e_X10_order_25, e_X10_order_28, e_X10_order_29, e_X10_order_32, e_X10_order_35, e_X10_order_36, e_X10_order_38, e_X10_order_41, e_X10_order_42, e_X10_order_43, e_X10_order_46, e_X10_order_49, e_X10_order_50, e_X10_order_53, e_X10_order_54, e_X10_order_55, e_X10_order_58, e_X10_order_61, e_X10_order_62, e_X10_order_63, e_X10_order_64, e_X10_order_67, e_X10_order_70, e_X10_order_73, e_X10_order_75, e_X10_order_76, e_X10_order_77, e_X10_order_80, e_X10_order_83, e_X10_order_84, e_X10_order_87, e_X10_order_88, e_X10_order_89, e_X10_order_92, e_X10_order_95, e_X10_order_96, e_X10_order_99, e_X10_order_102, e_X10_order_103, ob_0, rk_0_3, ob_10, ob_13, rk_0_2, ob_5, rk_0_7, ob_77, rk_0_1, ob_3, kcl_i, kcl_r, kcl_l, kcl_0, kcl_n, true_and, and_true, c_areThings, kb_0, hpk, not_true_eq_false, not_false_eq_true, and_self, if_false, nw.1, hsd, z, if_true, c_has, h5, z2]
    by_cases hB : x0 + Tc k hx < yy
    · refine JJ_q h (Int32.ofNat (Tc k hx)) (trow ln (mCo i) m Tc (Tc k hx) k hx (Tc k hx)).length (oS i sT.1 sT.2.1 sT.2.2) (yS (uPut (wPut (oS i sT.1 sT.2.1 sT.2.2) (trow ln (mCo i) m Tc (Tc k hx) k hx (Tc k hx)).length)) (rYt (i 93) (mCo i) m (Int32.ofNat k) q n (i 108))) (trow ln (mCo i) m Tc (Tc k hx) k hx (Tc k hx)) rfl (by have := trow_len (ln := ln) (co := mCo i) (m := m) (Tc := Tc) (Tc k hx) k hx (Tc k hx); omega) (ag_oS ag_r) (ag_yS (ag_uu ag_r)) ?_ ?_ ?_
      · rw [yS_o (by decide), uP_o (by decide)]; exact kupi_s
      · intro sc d y nx hd L st cu su K
        refine kCA_of (d := d + 499) (v := some (.int _)) (fun K => ?_)
        rw [km_117]
        show kWP sc (d + 499) 117 0 [.ref 0, .int (Int32.ofNat k), .int q, .retAddr 0] [] _ K = _
        rw [hC0]
        have W := fun (y nx : Nat) (L st : List Value) (hd : List (Int × Nat)) (K : Option (Option Value) → kS → Prop) => c_tellTalks (sc := sc) (d := d + 495) (y := y) (nx := nx) (hd := hd) (L := L) (st := st) (cu := cu) (su := su) (i := oS i sT.1 sT.2.1 sT.2.2) (l := l) (f := f) (t := t) (sp := sp) (K := K) (m := m) (ln := ln) (qn := qn) (Tc := Tc) (k := k) (h := hx) (lf := Tc k hx) (hat := i 96 18) (by rw [oo (by decide)]; exact h5) h8 (by rw [oo (by decide)]; exact hl9) (by rw [oo (by decide)]; exact hTc) hA hk hx9 hh2 hh3 rfl (by omega)
        rw [oo (by decide), trow_co hco] at W
        simp only [e_X10_order_0, e_X10_order_1, e_X10_order_4, e_X10_order_7, e_X10_order_8, e_X10_order_9, e_X10_order_12, e_X10_order_15, e_X10_order_16, e_X10_order_19, e_X10_order_20, e_X10_order_21, e_X10_order_24, e_X10_order_25, e_X10_order_28, e_X10_order_29, e_X10_order_32, e_X10_order_35, e_X10_order_36, e_X10_order_37, e_X10_order_38, e_X10_order_41, e_X10_order_42, e_X10_order_43, e_X10_order_46, e_X10_order_49, e_X10_order_50, e_X10_order_53, e_X10_order_54, e_X10_order_55, e_X10_order_58, e_X10_order_61, e_X10_order_62, e_X10_order_63, e_X10_order_64, e_X10_order_67, e_X10_order_70, e_X10_order_73, e_X10_order_75, e_X10_order_76, e_X10_order_77, e_X10_order_80, e_X10_order_83, e_X10_order_84, e_X10_order_87, e_X10_order_88, e_X10_order_89, e_X10_order_92, e_X10_order_95, e_X10_order_96, e_X10_order_99, e_X10_order_102, e_X10_order_103, ob_0, rk_0_3, ob_10, ob_13, rk_0_2, ob_5, rk_0_7, ob_77, rk_0_1, ob_3, kcl_i, kcl_r, kcl_l, kcl_0, kcl_n, true_and, and_true, nw.2.1, hCm _ (d + 494), oo (show 10 < 78 ∨ 80 < 10 by decide), nw.2.2.1, nw.2.2.2.1, e19, e20, eT, eq_true hB, if_true, c_start, wP_o (show 10 ≠ 3 by decide), W]
      · have M := (hM (wPut (oS i sT.1 sT.2.1 sT.2.2) (trow ln (mCo i) m Tc (Tc k hx) k hx (Tc k hx)).length) (tC l 0 (trow ln (mCo i) m Tc (Tc k hx) k hx (Tc k hx))) (by rw [w91, oo (by decide)]) (by rw [w93, oo (by decide)]) (by rw [mCo_w]; unfold mCo; rw [oo (by decide), oo (by decide), oo (by decide)]) (by rw [w96, oo (by decide)])).2 hB
        rw [w93, oo (by decide), mCo_w, wP_o (show 108 ≠ 3 by decide), oo (show 108 < 78 ∨ 80 < 108 by decide)] at M
        have eC : mCo (oS i sT.1 sT.2.1 sT.2.2) = mCo i := by unfold mCo; rw [oo (by decide), oo (by decide), oo (by decide)]
        rw [eC] at M
        exact M
    · refine JJ_n h (-2) (oS i sT.1 sT.2.1 sT.2.2) (yS (uPut (oS i sT.1 sT.2.1 sT.2.2)) (rYt (i 93) (mCo i) m (Int32.ofNat k) q n (i 108))) (ag_oS ag_r) (ag_yS (ag_uu ag_r)) ?_ ?_ ?_ ?_
      · rw [yS_o (by decide), uP_o (by decide), oo (by decide)]
      · rw [yS_o (by decide), uP_f (by decide), oo (by decide)]
      · intro sc d y nx hd L st cu su K
        refine kCA_of (d := d + 499) (v := some (.int _)) (fun K => ?_)
        rw [km_117]
        show kWP sc (d + 499) 117 0 [.ref 0, .int (Int32.ofNat k), .int q, .retAddr 0] [] _ K = _
        rw [hC0]
        simp only [e_X10_order_0, e_X10_order_1, e_X10_order_4, e_X10_order_7, e_X10_order_8, e_X10_order_9, e_X10_order_12, e_X10_order_15, e_X10_order_16, e_X10_order_19, e_X10_order_20, e_X10_order_21, e_X10_order_24, e_X10_order_25, e_X10_order_28, e_X10_order_29, e_X10_order_32, e_X10_order_35, e_X10_order_36, e_X10_order_37, e_X10_order_38, e_X10_order_41, e_X10_order_42, e_X10_order_43, e_X10_order_46, e_X10_order_49, e_X10_order_50, e_X10_order_53, e_X10_order_54, e_X10_order_55, e_X10_order_58, e_X10_order_61, e_X10_order_62, e_X10_order_63, e_X10_order_64, e_X10_order_67, e_X10_order_70, e_X10_order_73, e_X10_order_75, e_X10_order_76, e_X10_order_77, e_X10_order_80, e_X10_order_83, e_X10_order_84, e_X10_order_87, e_X10_order_88, e_X10_order_89, e_X10_order_92, e_X10_order_95, e_X10_order_96, e_X10_order_99, e_X10_order_102, e_X10_order_103, ob_0, rk_0_3, ob_10, ob_13, rk_0_2, ob_5, rk_0_7, ob_77, rk_0_1, ob_3, kcl_i, kcl_r, kcl_l, kcl_0, kcl_n, true_and, and_true, nw.2.1, hCm _ (d + 494), oo (show 10 < 78 ∨ 80 < 10 by decide), nw.2.2.1, nw.2.2.2.1, e19, e20, eT, eq_false hB, if_false]
      · have M := (hM (oS i sT.1 sT.2.1 sT.2.2) l (by rw [oo (by decide)]) (by rw [oo (by decide)]) (by unfold mCo; rw [oo (by decide), oo (by decide), oo (by decide)]) (by rw [oo (by decide)])).1 hB
        rw [oo (show 93 < 78 ∨ 80 < 93 by decide), oo (show 108 < 78 ∨ 80 < 108 by decide)] at M
        have eC : mCo (oS i sT.1 sT.2.1 sT.2.2) = mCo i := by unfold mCo; rw [oo (by decide), oo (by decide), oo (by decide)]
        rw [eC] at M
        exact M
  · refine JJ_n h (-1) i (uPut i) ag_r (ag_uu ag_r) rfl rfl ?_ ?_
    · intro sc d y nx hd L st cu su K
      refine kCA_of (d := d + 499) (v := some (.int _)) (fun K => ?_)
      rw [km_117]
      show kWP sc (d + 499) 117 0 [.ref 0, .int p, .int q, .retAddr 0] [] _ K = _
      by_cases c1 : ¬ p < 0 ∧ ¬ 255 < p
      · by_cases c2 : p &&& i 96 17 = 0
        · have c3 : ¬ q = -1 := fun z => hok ⟨c1, c2, Or.inl z⟩
          have c4 : pHas (Int32.ofNat m) q = true ↔ False := ⟨fun z => hok ⟨c1, c2, Or.inr z⟩, fun z => z.elim⟩
          simp only [e_X10_order_0, e_X10_order_1, e_X10_order_4, e_X10_order_7, e_X10_order_8, e_X10_order_9, e_X10_order_12, e_X10_order_15, e_X10_order_16, e_X10_order_19, e_X10_order_20, e_X10_order_21, e_X10_order_24, e_X10_order_25, e_X10_order_28, e_X10_order_29, e_X10_order_32, e_X10_order_35, e_X10_order_36, e_X10_order_37, e_X10_order_38, e_X10_order_41, e_X10_order_42, e_X10_order_43, e_X10_order_46, e_X10_order_49, e_X10_order_50, e_X10_order_53, e_X10_order_54, e_X10_order_55, e_X10_order_58, e_X10_order_61, e_X10_order_62, e_X10_order_63, e_X10_order_64, e_X10_order_67, e_X10_order_70, e_X10_order_73, e_X10_order_75, e_X10_order_76, e_X10_order_77, e_X10_order_80, e_X10_order_83, e_X10_order_84, e_X10_order_87, e_X10_order_88, e_X10_order_89, e_X10_order_92, e_X10_order_95, e_X10_order_96, e_X10_order_99, e_X10_order_102, e_X10_order_103, ob_0, rk_0_3, ob_10, ob_13, rk_0_2, ob_5, rk_0_7, ob_77, rk_0_1, ob_3, kcl_i, kcl_r, kcl_l, kcl_0, kcl_n, true_and, and_true, c_areThings, kb_0, c1, not_true_eq_false, not_false_eq_true, and_self, if_false, nw.1, c2, c3, if_true, c_has, h5, c4]
        · simp only [e_X10_order_0, e_X10_order_1, e_X10_order_4, e_X10_order_7, e_X10_order_8, e_X10_order_9, e_X10_order_12, e_X10_order_15, e_X10_order_16, e_X10_order_19, e_X10_order_20, e_X10_order_21, e_X10_order_24, e_X10_order_25, e_X10_order_28, e_X10_order_29, e_X10_order_32, e_X10_order_35, e_X10_order_36, e_X10_order_37, e_X10_order_38, e_X10_order_41, e_X10_order_42, e_X10_order_43, e_X10_order_46, e_X10_order_49, e_X10_order_50, e_X10_order_53, e_X10_order_54, e_X10_order_55, e_X10_order_58, e_X10_order_61, e_X10_order_62, e_X10_order_63, e_X10_order_64, e_X10_order_67, e_X10_order_70, e_X10_order_73, e_X10_order_75, e_X10_order_76, e_X10_order_77, e_X10_order_80, e_X10_order_83, e_X10_order_84, e_X10_order_87, e_X10_order_88, e_X10_order_89, e_X10_order_92, e_X10_order_95, e_X10_order_96, e_X10_order_99, e_X10_order_102, e_X10_order_103, ob_0, rk_0_3, ob_10, ob_13, rk_0_2, ob_5, rk_0_7, ob_77, rk_0_1, ob_3, kcl_i, kcl_r, kcl_l, kcl_0, kcl_n, true_and, and_true, c_areThings, kb_0, c1, not_true_eq_false, not_false_eq_true, and_self, if_false, nw.1, c2, if_true]
      · simp only [e_X10_order_0, e_X10_order_1, e_X10_order_4, e_X10_order_7, e_X10_order_8, e_X10_order_9, e_X10_order_12, e_X10_order_15, e_X10_order_16, e_X10_order_19, e_X10_order_20, e_X10_order_21, e_X10_order_24, e_X10_order_25, e_X10_order_28, e_X10_order_29, e_X10_order_32, e_X10_order_35, e_X10_order_36, e_X10_order_37, e_X10_order_38, e_X10_order_41, e_X10_order_42, e_X10_order_43, e_X10_order_46, e_X10_order_49, e_X10_order_50, e_X10_order_53, e_X10_order_54, e_X10_order_55, e_X10_order_58, e_X10_order_61, e_X10_order_62, e_X10_order_63, e_X10_order_64, e_X10_order_67, e_X10_order_70, e_X10_order_73, e_X10_order_75, e_X10_order_76, e_X10_order_77, e_X10_order_80, e_X10_order_83, e_X10_order_84, e_X10_order_87, e_X10_order_88, e_X10_order_89, e_X10_order_92, e_X10_order_95, e_X10_order_96, e_X10_order_99, e_X10_order_102, e_X10_order_103, ob_0, rk_0_3, ob_10, ob_13, rk_0_2, ob_5, rk_0_7, ob_77, rk_0_1, ob_3, kcl_i, kcl_r, kcl_l, kcl_0, kcl_n, true_and, and_true, c_areThings, kb_0, c1, not_false_eq_true, if_true]
    · intro sc d y nx hd L st cu su K
      refine kCA_of (d := d + 499) (v := some (.int _)) (fun K => ?_)
      rw [km_223]
      show kWP sc (d + 499) 223 0 [.ref 91, .int p, .int q, .retAddr 0, .retAddr 0, .retAddr 0, .retAddr 0, .retAddr 0, .retAddr 0] [] _ K = _
      by_cases c1 : ¬ p < 0 ∧ ¬ 255 < p
      · by_cases c3 : ¬ q < -1 ∧ ¬ (Int32.ofNat m - 1) < q
        · have c2 : ¬ p &&& i 96 17 = 0 := fun z => hok ⟨c1, z, (in_m h8).1 c3⟩
          simp only [e_X11_order_0, e_X11_order_1, e_X11_order_2, e_X11_order_5, e_X11_order_6, e_X11_order_7, e_X11_order_8, e_X11_order_11, e_X11_order_14, e_X11_order_17, e_X11_order_18, e_X11_order_19, e_X11_order_22, e_X11_order_23, e_X11_order_26, e_X11_order_27, e_X11_order_28, e_X11_order_29, e_X11_order_32, e_X11_order_35, e_X11_order_36, e_X11_order_37, e_X11_order_40, e_X11_order_42, e_X11_order_43, e_X11_order_44, e_X11_order_47, e_X11_order_48, e_X11_order_49, e_X11_order_50, e_X11_order_51, e_X11_order_52, e_X11_order_55, e_X11_order_56, e_X11_order_57, e_X11_order_58, e_X11_order_61, e_X11_order_63, e_X11_order_64, e_X11_order_67, e_X11_order_69, e_X11_order_72, e_X11_order_73, e_X11_order_76, e_X11_order_78, e_X11_order_79, e_X11_order_81, e_X11_order_82, e_X11_order_85, e_X11_order_86, e_X11_order_88, e_X11_order_91, e_X11_order_92, e_X11_order_94, e_X11_order_96, e_X11_order_99, e_X11_order_102, e_X11_order_103, e_X11_order_106, e_X11_order_108, e_X11_order_109, e_X11_order_111, e_X11_order_112, e_X11_order_113, e_X11_order_116, e_X11_order_118, e_X11_order_119, e_X11_order_122, e_X11_order_124, e_X11_order_125, e_X11_order_126, e_X11_order_127, e_X11_order_130, e_X11_order_132, e_X11_order_136, e_X11_order_139, e_X11_order_140, e_X11_order_142, e_X11_order_143, e_X11_order_146, e_X11_order_147, e_X11_order_148, e_X11_order_150, e_X11_order_152, e_X11_order_154, e_X11_order_157, e_X11_order_159, e_X11_order_162, e_X11_order_165, e_X11_order_167, e_X11_order_169, e_X11_order_171, e_X11_order_172, e_X11_order_173, e_X11_order_175, e_X11_order_177, e_X11_order_179, e_X11_order_180, e_X11_order_182, e_X11_order_185, e_X11_order_186, e_X11_order_188, e_X11_order_189, e_X11_order_192, e_X11_order_193, e_X11_order_195, e_X11_order_196, e_X11_order_199, e_X11_order_201, e_X11_order_203, e_X11_order_205, e_X11_order_208, e_X11_order_209, e_X11_order_212, e_X11_order_213, e_X11_order_216, e_X11_order_218, e_X11_order_219, e_X11_order_220, e_X11_order_222, e_X11_order_223, e_X11_order_225, e_X11_order_227, e_X11_order_230, e_X11_order_231, e_X11_order_234, e_X11_order_235, e_X11_order_237, e_X11_order_238, e_X11_order_239, e_X11_order_240, e_X11_order_242, e_X11_order_244, e_X11_order_247, e_X11_order_249, ob_91, rk_91_8, ar_96, rk_91_33, ar_108, rk_91_5, ar_93, kcl_i, kcl_r, kcl_l, kcl_0, kcl_n, true_and, and_true, uP_0, l0, l255, lm1, u3, h91, m_in, m_inI, kb_0, c1, c3, not_true_eq_false, not_false_eq_true, and_self, if_false, if_true, u96, ki17, ni17, c2, true_and]
        · simp only [e_X11_order_0, e_X11_order_1, e_X11_order_2, e_X11_order_5, e_X11_order_6, e_X11_order_7, e_X11_order_8, e_X11_order_11, e_X11_order_14, e_X11_order_17, e_X11_order_18, e_X11_order_19, e_X11_order_22, e_X11_order_23, e_X11_order_26, e_X11_order_27, e_X11_order_28, e_X11_order_29, e_X11_order_32, e_X11_order_35, e_X11_order_36, e_X11_order_37, e_X11_order_40, e_X11_order_42, e_X11_order_43, e_X11_order_44, e_X11_order_47, e_X11_order_48, e_X11_order_49, e_X11_order_50, e_X11_order_51, e_X11_order_52, e_X11_order_55, e_X11_order_56, e_X11_order_57, e_X11_order_58, e_X11_order_61, e_X11_order_63, e_X11_order_64, e_X11_order_67, e_X11_order_69, e_X11_order_72, e_X11_order_73, e_X11_order_76, e_X11_order_78, e_X11_order_79, e_X11_order_81, e_X11_order_82, e_X11_order_85, e_X11_order_86, e_X11_order_88, e_X11_order_91, e_X11_order_92, e_X11_order_94, e_X11_order_96, e_X11_order_99, e_X11_order_102, e_X11_order_103, e_X11_order_106, e_X11_order_108, e_X11_order_109, e_X11_order_111, e_X11_order_112, e_X11_order_113, e_X11_order_116, e_X11_order_118, e_X11_order_119, e_X11_order_122, e_X11_order_124, e_X11_order_125, e_X11_order_126, e_X11_order_127, e_X11_order_130, e_X11_order_132, e_X11_order_136, e_X11_order_139, e_X11_order_140, e_X11_order_142, e_X11_order_143, e_X11_order_146, e_X11_order_147, e_X11_order_148, e_X11_order_150, e_X11_order_152, e_X11_order_154, e_X11_order_157, e_X11_order_159, e_X11_order_162, e_X11_order_165, e_X11_order_167, e_X11_order_169, e_X11_order_171, e_X11_order_172, e_X11_order_173, e_X11_order_175, e_X11_order_177, e_X11_order_179, e_X11_order_180, e_X11_order_182, e_X11_order_185, e_X11_order_186, e_X11_order_188, e_X11_order_189, e_X11_order_192, e_X11_order_193, e_X11_order_195, e_X11_order_196, e_X11_order_199, e_X11_order_201, e_X11_order_203, e_X11_order_205, e_X11_order_208, e_X11_order_209, e_X11_order_212, e_X11_order_213, e_X11_order_216, e_X11_order_218, e_X11_order_219, e_X11_order_220, e_X11_order_222, e_X11_order_223, e_X11_order_225, e_X11_order_227, e_X11_order_230, e_X11_order_231, e_X11_order_234, e_X11_order_235, e_X11_order_237, e_X11_order_238, e_X11_order_239, e_X11_order_240, e_X11_order_242, e_X11_order_244, e_X11_order_247, e_X11_order_249, ob_91, rk_91_8, ar_96, rk_91_33, ar_108, rk_91_5, ar_93, kcl_i, kcl_r, kcl_l, kcl_0, kcl_n, true_and, and_true, uP_0, l0, l255, lm1, u3, h91, m_in, m_inI, kb_0, c1, c3, not_true_eq_false, not_false_eq_true, and_self, if_false, if_true]
      · simp only [e_X11_order_0, e_X11_order_1, e_X11_order_2, e_X11_order_5, e_X11_order_6, e_X11_order_7, e_X11_order_8, e_X11_order_11, e_X11_order_14, e_X11_order_17, e_X11_order_18, e_X11_order_19, e_X11_order_22, e_X11_order_23, e_X11_order_26, e_X11_order_27, e_X11_order_28, e_X11_order_29, e_X11_order_32, e_X11_order_35, e_X11_order_36, e_X11_order_37, e_X11_order_40, e_X11_order_42, e_X11_order_43, e_X11_order_44, e_X11_order_47, e_X11_order_48, e_X11_order_49, e_X11_order_50, e_X11_order_51, e_X11_order_52, e_X11_order_55, e_X11_order_56, e_X11_order_57, e_X11_order_58, e_X11_order_61, e_X11_order_63, e_X11_order_64, e_X11_order_67, e_X11_order_69, e_X11_order_72, e_X11_order_73, e_X11_order_76, e_X11_order_78, e_X11_order_79, e_X11_order_81, e_X11_order_82, e_X11_order_85, e_X11_order_86, e_X11_order_88, e_X11_order_91, e_X11_order_92, e_X11_order_94, e_X11_order_96, e_X11_order_99, e_X11_order_102, e_X11_order_103, e_X11_order_106, e_X11_order_108, e_X11_order_109, e_X11_order_111, e_X11_order_112, e_X11_order_113, e_X11_order_116, e_X11_order_118, e_X11_order_119, e_X11_order_122, e_X11_order_124, e_X11_order_125, e_X11_order_126, e_X11_order_127, e_X11_order_130, e_X11_order_132, e_X11_order_136, e_X11_order_139, e_X11_order_140, e_X11_order_142, e_X11_order_143, e_X11_order_146, e_X11_order_147, e_X11_order_148, e_X11_order_150, e_X11_order_152, e_X11_order_154, e_X11_order_157, e_X11_order_159, e_X11_order_162, e_X11_order_165, e_X11_order_167, e_X11_order_169, e_X11_order_171, e_X11_order_172, e_X11_order_173, e_X11_order_175, e_X11_order_177, e_X11_order_179, e_X11_order_180, e_X11_order_182, e_X11_order_185, e_X11_order_186, e_X11_order_188, e_X11_order_189, e_X11_order_192, e_X11_order_193, e_X11_order_195, e_X11_order_196, e_X11_order_199, e_X11_order_201, e_X11_order_203, e_X11_order_205, e_X11_order_208, e_X11_order_209, e_X11_order_212, e_X11_order_213, e_X11_order_216, e_X11_order_218, e_X11_order_219, e_X11_order_220, e_X11_order_222, e_X11_order_223, e_X11_order_225, e_X11_order_227, e_X11_order_230, e_X11_order_231, e_X11_order_234, e_X11_order_235, e_X11_order_237, e_X11_order_238, e_X11_order_239, e_X11_order_240, e_X11_order_242, e_X11_order_244, e_X11_order_247, e_X11_order_249, ob_91, rk_91_8, ar_96, rk_91_33, ar_108, rk_91_5, ar_93, kcl_i, kcl_r, kcl_l, kcl_0, kcl_n, true_and, and_true, uP_0, l0, l255, m_in, m_inI, kb_0, c1, not_false_eq_true, if_true]
end TC
