/-! the constructors, done -/
section TC
variable {sc : Nat × (Nat → Int32)} {d y nx : Nat} {hd : List (Int × Nat)} {L st : List Value} {cu su : Nat} {i : Nat → Nat → Int32} {r : Nat → Nat → Value} {f t a n c s x k : Nat} {K : Option (Option Value) → kS → Prop}
def z0 : Nat → Nat → Int32 := fun _ _ => 0
def iB : Nat → Nat → Int32 := exI op_B (fI z0 0)
theorem iB_11 : iB 1 1 = 0 := by decide +kernel
theorem ob_0Z : kob (91, cu, su) 0 10 = True := kobT (by decide) rfl
theorem init_C : ∃ (n : Nat) (A : Nat → Int32) (p : Nat) (S : Nat → Int32) (g h : Nat) (u : Int32) (X : Nat → Int32), n ≤ 40 ∧ SL n A = SL 7 firstA ∧ ∀ (sc : Nat × (Nat → Int32)) (d y nx : Nat) (hd : List (Int × Nat)) (L st : List Value) (K : Option (Option Value) → kS → Prop), kCA sc (d + 10) 94 [.ref 0] y nx hd L st ((1, 1, 12), fI z0 0, zL, fR (kR 85 88 sp0) 0) K = kWP sc (d + 10) y nx L st ((91, 91, 3459), kupi (qP (xPut iB (7, X)) 85 n A p S g h u) 1 1 0, zL, kR 85 88 sp0) K := by
  obtain ⟨X, hX, hC⟩ := c_tell1Z iB_11
  obtain ⟨n, A, p, S, g, h, u, h1, h2, h3⟩ := (q_readZ (i := xPut iB (7, X)) (b := 85) (T := kchr 1000000) (n2 := 7) (to := 7) rfl xP_n (by decide) (fun x hx => by rw [xP_s (by omega)]; exact hX x hx) rfl).2.2 _ first_go rfl rfl (by decide)
  refine ⟨n, A, p, S, g, h, u, X, h1, h2.trans first_rel, fun sc d y nx hd L st K => ?_⟩
  refine kCA_of (d := d + 9) (v := none) (fun K => ?_)
  rw [km_94]
  show kWP sc (d + 4 + 5) 94 0 [.ref 0] [] _ K = _
  rw [n_B, r_B]
  show kWP sc (d + 9) 94 148 [.ref 0] [] ((91, 91, 3459), iB, zL, kR 85 88 sp0) K = _
  simp only [e_X10_init_148, e_X10_init_149, ob_0Z, rk_0_0, e_X10_init_152, e_X10_init_154, ob_1Z, hC sc (d + 7), e_X10_init_157, e_X10_init_158, rk_0_10, e_X10_init_161, ob_85Z, h3 sc (d + 3), e_X10_init_164, e_X10_init_165, e_X10_init_166, e_X10_init_169, c_emptyZ, e_X10_init_172, true_and]
def op_M : List Op := [(0, 92, 0, 0, 0), (2, 91, 2, 0, 92), (0, 93, 0, 0, 0), (2, 91, 5, 0, 93), (0, 94, 0, 0, 0), (2, 91, 6, 0, 94), (0, 95, 0, 0, 0), (2, 91, 7, 0, 95), (0, 96, 0, 0, 0), (2, 91, 8, 0, 96), (0, 97, 0, 0, 0), (2, 91, 9, 0, 97), (0, 98, 0, 0, 0), (2, 91, 10, 0, 98), (0, 99, 0, 0, 0), (2, 91, 15, 0, 99), (0, 100, 0, 0, 0), (2, 91, 17, 0, 100), (0, 101, 0, 0, 0), (2, 91, 18, 0, 101), (0, 102, 0, 0, 0), (2, 91, 21, 0, 102), (0, 103, 0, 0, 0), (2, 91, 22, 0, 103), (0, 104, 0, 0, 0), (2, 91, 24, 0, 104), (0, 105, 0, 0, 0), (2, 91, 29, 0, 105), (0, 106, 0, 0, 0), (2, 91, 30, 0, 106), (0, 107, 0, 0, 0), (2, 91, 31, 0, 107), (0, 108, 0, 0, 0), (2, 91, 33, 0, 108), (0, 109, 0, 0, 0), (2, 91, 34, 0, 109), (0, 110, 0, 0, 0), (2, 91, 35, 0, 110), (0, 111, 0, 0, 0), (2, 91, 37, 0, 111), (0, 112, 0, 0, 0), (2, 91, 38, 0, 112), (0, 113, 0, 0, 0), (2, 91, 40, 0, 113), (0, 114, 0, 0, 0), (2, 91, 41, 0, 114), (0, 115, 0, 0, 0), (2, 91, 42, 0, 115), (0, 116, 0, 0, 0), (2, 91, 44, 0, 116), (0, 117, 0, 0, 0), (2, 91, 45, 0, 117), (0, 118, 0, 0, 0), (2, 91, 46, 0, 118)]
theorem fI_o (h : c ≠ n) : fI i n c = i c := by funext z; unfold fI; rw [if_neg h]
theorem n_M : kWP sc (d + 1) 163 0 [.ref 91, .retAddr 0] [] ((92, 92, su), i, zL, r) K = kWP sc (d + 1) 163 223 [.ref 91, .int (Int32.ofNat 0)] [] ((119, 119, su + 3880), exI op_M i, zL, exR op_M r) K := by
  simp only [e_X11_init_0, e_X11_init_1, e_X11_init_4, e_X11_init_5, e_X11_init_8 (u := (92, 92, _)) (p := 256) (m := 256) rfl ⟨rfl, by decide, by decide, rfl⟩, kobT (n := 93) (a := 91) (ci := 11) (by decide) rfl, e_X11_init_10, e_X11_init_13, e_X11_init_14, e_X11_init_16 (u := (93, 93, _)) (p := 8) (m := 8) rfl ⟨rfl, by decide, by decide, rfl⟩, kobT (n := 94) (a := 91) (ci := 11) (by decide) rfl, e_X11_init_18, e_X11_init_21, e_X11_init_22, e_X11_init_24 (u := (94, 94, _)) (p := 8) (m := 8) rfl ⟨rfl, by decide, by decide, rfl⟩, kobT (n := 95) (a := 91) (ci := 11) (by decide) rfl, e_X11_init_26, e_X11_init_29, e_X11_init_30, e_X11_init_32 (u := (95, 95, _)) (p := 8) (m := 8) rfl ⟨rfl, by decide, by decide, rfl⟩, kobT (n := 96) (a := 91) (ci := 11) (by decide) rfl, e_X11_init_34, e_X11_init_37, e_X11_init_38, e_X11_init_40 (u := (96, 96, _)) (p := 25) (m := 25) rfl ⟨rfl, by decide, by decide, rfl⟩, kobT (n := 97) (a := 91) (ci := 11) (by decide) rfl, e_X11_init_42, e_X11_init_45, e_X11_init_46, e_X11_init_48 (u := (97, 97, _)) (p := 25) (m := 25) rfl ⟨rfl, by decide, by decide, rfl⟩, kobT (n := 98) (a := 91) (ci := 11) (by decide) rfl, e_X11_init_50, e_X11_init_53, e_X11_init_54, e_X11_init_56 (u := (98, 98, _)) (p := 80) (m := 80) rfl ⟨rfl, by decide, by decide, rfl⟩, kobT (n := 99) (a := 91) (ci := 11) (by decide) rfl, e_X11_init_58, e_X11_init_61, e_X11_init_62, e_X11_init_64 (u := (99, 99, _)) (p := 16) (m := 16) rfl ⟨rfl, by decide, by decide, rfl⟩, kobT (n := 100) (a := 91) (ci := 11) (by decide) rfl, e_X11_init_66, e_X11_init_69, e_X11_init_70, e_X11_init_72 (u := (100, 100, _)) (p := 80) (m := 80) rfl ⟨rfl, by decide, by decide, rfl⟩, kobT (n := 101) (a := 91) (ci := 11) (by decide) rfl, e_X11_init_74, e_X11_init_77, e_X11_init_78, e_X11_init_80 (u := (101, 101, _)) (p := 80) (m := 80) rfl ⟨rfl, by decide, by decide, rfl⟩, kobT (n := 102) (a := 91) (ci := 11) (by decide) rfl, e_X11_init_82, e_X11_init_85, e_X11_init_86, e_X11_init_88 (u := (102, 102, _)) (p := 80) (m := 80) rfl ⟨rfl, by decide, by decide, rfl⟩, kobT (n := 103) (a := 91) (ci := 11) (by decide) rfl, e_X11_init_90, e_X11_init_93, e_X11_init_94, e_X11_init_96 (u := (103, 103, _)) (p := 7) (m := 7) rfl ⟨rfl, by decide, by decide, rfl⟩, kobT (n := 104) (a := 91) (ci := 11) (by decide) rfl, e_X11_init_98, e_X11_init_101, e_X11_init_102, e_X11_init_105 (u := (104, 104, _)) (p := 400) (m := 400) rfl ⟨rfl, by decide, by decide, rfl⟩, kobT (n := 105) (a := 91) (ci := 11) (by decide) rfl, e_X11_init_107, e_X11_init_110, e_X11_init_111, e_X11_init_113 (u := (105, 105, _)) (p := 60) (m := 60) rfl ⟨rfl, by decide, by decide, rfl⟩, kobT (n := 106) (a := 91) (ci := 11) (by decide) rfl, e_X11_init_115, e_X11_init_118, e_X11_init_119, e_X11_init_121 (u := (106, 106, _)) (p := 60) (m := 60) rfl ⟨rfl, by decide, by decide, rfl⟩, kobT (n := 107) (a := 91) (ci := 11) (by decide) rfl, e_X11_init_123, e_X11_init_126, e_X11_init_127, e_X11_init_129 (u := (107, 107, _)) (p := 60) (m := 60) rfl ⟨rfl, by decide, by decide, rfl⟩, kobT (n := 108) (a := 91) (ci := 11) (by decide) rfl, e_X11_init_131, e_X11_init_134, e_X11_init_135, e_X11_init_138 (u := (108, 108, _)) (p := 2304) (m := 2304) rfl ⟨rfl, by decide, by decide, rfl⟩, kobT (n := 109) (a := 91) (ci := 11) (by decide) rfl, e_X11_init_140, e_X11_init_143, e_X11_init_144, e_X11_init_146 (u := (109, 109, _)) (p := 8) (m := 8) rfl ⟨rfl, by decide, by decide, rfl⟩, kobT (n := 110) (a := 91) (ci := 11) (by decide) rfl, e_X11_init_148, e_X11_init_151, e_X11_init_152, e_X11_init_154 (u := (110, 110, _)) (p := 8) (m := 8) rfl ⟨rfl, by decide, by decide, rfl⟩, kobT (n := 111) (a := 91) (ci := 11) (by decide) rfl, e_X11_init_156, e_X11_init_159, e_X11_init_160, e_X11_init_162 (u := (111, 111, _)) (p := 61) (m := 61) rfl ⟨rfl, by decide, by decide, rfl⟩, kobT (n := 112) (a := 91) (ci := 11) (by decide) rfl, e_X11_init_164, e_X11_init_167, e_X11_init_168, e_X11_init_170 (u := (112, 112, _)) (p := 61) (m := 61) rfl ⟨rfl, by decide, by decide, rfl⟩, kobT (n := 113) (a := 91) (ci := 11) (by decide) rfl, e_X11_init_172, e_X11_init_175, e_X11_init_176, e_X11_init_178 (u := (113, 113, _)) (p := 12) (m := 12) rfl ⟨rfl, by decide, by decide, rfl⟩, kobT (n := 114) (a := 91) (ci := 11) (by decide) rfl, e_X11_init_180, e_X11_init_183, e_X11_init_184, e_X11_init_186 (u := (114, 114, _)) (p := 12) (m := 12) rfl ⟨rfl, by decide, by decide, rfl⟩, kobT (n := 115) (a := 91) (ci := 11) (by decide) rfl, e_X11_init_188, e_X11_init_191, e_X11_init_192, e_X11_init_194 (u := (115, 115, _)) (p := 80) (m := 80) rfl ⟨rfl, by decide, by decide, rfl⟩, kobT (n := 116) (a := 91) (ci := 11) (by decide) rfl, e_X11_init_196, e_X11_init_199, e_X11_init_200, e_X11_init_201 (u := (116, 116, _)) (p := 3) (m := 3) rfl ⟨rfl, by decide, by decide, rfl⟩, kobT (n := 117) (a := 91) (ci := 11) (by decide) rfl, e_X11_init_203, e_X11_init_206, e_X11_init_207, e_X11_init_208 (u := (117, 117, _)) (p := 3) (m := 3) rfl ⟨rfl, by decide, by decide, rfl⟩, kobT (n := 118) (a := 91) (ci := 11) (by decide) rfl, e_X11_init_210, e_X11_init_213, e_X11_init_214, e_X11_init_216 (u := (118, 118, _)) (p := 75) (m := 75) rfl ⟨rfl, by decide, by decide, rfl⟩, kobT (n := 119) (a := 91) (ci := 11) (by decide) rfl, e_X11_init_218, e_X11_init_221, e_X11_init_222, kfr, Nat.reduceAdd, Nat.add_assoc, kcl_i, kcl_r, kcl_0, true_and]
  rfl
/-- numbers set behind that -/
def mI (i : Nat → Nat → Int32) : Nat → Nat → Int32 := kupi (kupi (kupi (aPut i 93 8 (fun _ => 1)) 96 18 (-1)) 96 22 (-1)) 96 20 20
theorem n_M2 (h5 : r 91 5 = .ref 93) (h8 : r 91 8 = .ref 96) : kWP sc (d + 1) 163 223 [.ref 91, .int (Int32.ofNat 0)] [] ((119, 119, su), i, zL, r) K = K (some none) ((119, 119, su), mI i, zL, r) := by
  have ob : ∀ c s, kob (119, c, s) 91 11 = True := fun c s => kobT (by decide) rfl
  have R := k_for (P := fun x (A : Nat → Int32) => kWP sc (d + 1) 163 223 [.ref 91, .int (Int32.ofNat x)] [] ((119, 119, su), aPut i 93 8 A, zL, r) K) (n := 8) (g := fun x A => kuf A x 1) (fun x A hx => by
    refine e_X11_init_223.trans ?_
    simp only [e_X11_init_224, e_X11_init_226, jp8 hx, if_false, e_X11_init_229, e_X11_init_230, ob, h5, e_X11_init_233, e_X11_init_234, e_X11_init_235, karT (n := 119) (a := 93) (j := Int32.ofNat x) (b := 0) (w := 8) (by decide) rfl (of_eq_true (kin8 hx)), cl_n (show x < 100000 by omega), aW_s hx, e_X11_init_236, e_X11_init_239, tn_s, true_and]) (i 93)
  rw [aP_g] at R
  refine R.trans ?_
  have e1 : aPut i 93 8 (kfo (fun x A => kuf A x 1) 8 (i 93)) = aPut i 93 8 (fun _ => 1) := aP_c (fun j hj => by rw [kfo_kuf, if_pos hj])
  rw [e1]
  have ar : ∀ (c s : Nat) (j : Int32), kin j 25 → kar (119, c, s) 96 0 j = True := fun c s j hj => karT (by decide) rfl hj
  refine e_X11_init_223.trans ?_
  simp only [e_X11_init_224, e_X11_init_226, jp88, if_true, e_X11_init_242, e_X11_init_243, ob, h8, e_X11_init_246, e_X11_init_248, e_X11_init_249, ar _ _ 18 (by decide), e_X11_init_250, e_X11_init_251, e_X11_init_254, e_X11_init_256, e_X11_init_257, ar _ _ 22 (by decide), e_X11_init_258, e_X11_init_259, e_X11_init_262, e_X11_init_264, e_X11_init_266, ar _ _ 20 (by decide), e_X11_init_267, true_and]
  rfl
/-- the references of the reference -/
def exN : List Op → Nat → Nat → Nat → Nat
  | [], _, _, z => z
  | (g, b, j, _, x) :: t, a, k, z => bif Nat.beq a b then exN t a k (bif Nat.beq g 0 then 1 else bif Nat.beq g 2 then (bif Nat.beq k j then x + 2 else z) else z) else exN t a k z
theorem beq_d {a b : Nat} : Nat.beq a b = decide (a = b) := by
  by_cases e : a = b
  · rw [e, decide_eq_true rfl]; exact Nat.beq_refl b
  · rw [decide_eq_false e]; exact Bool.eq_false_iff.2 (fun h => e (Nat.eq_of_beq_eq_true h))
theorem exR_n {q : Value} : ∀ (p : List Op) (r : Nat → Nat → Value) (z : Nat), r a k = cdR z q → exR p r a k = cdR (exN p a k z) q := by
  intro p
  induction p with
  | nil => intro r z h; exact h
  | cons o p ih =>
    intro r z h
    obtain ⟨g, b, j, v, x⟩ := o
    match g with
    | 0 =>
      show exR p (fR r b) a k = cdR (bif Nat.beq a b then exN p a k 1 else exN p a k z) q
      rw [beq_d]
      by_cases e : a = b
      · rw [decide_eq_true e]
        refine ih _ _ ?_
        unfold fR; rw [if_pos e]; rfl
      · rw [decide_eq_false e]
        refine ih _ _ ?_
        unfold fR; rw [if_neg e]; exact h
    | 1 =>
      show exR p r a k = cdR (bif Nat.beq a b then exN p a k z else exN p a k z) q
      rw [Bool.cond_self]; exact ih _ _ h
    | 2 =>
      show exR p (kupr r b j (.ref x)) a k = cdR (bif Nat.beq a b then exN p a k (bif Nat.beq k j then x + 2 else z) else exN p a k z) q
      rw [beq_d, beq_d]
      by_cases e : a = b
      · rw [decide_eq_true e]
        refine ih _ _ ?_
        unfold kupr
        by_cases e2 : k = j
        · rw [if_pos ⟨e, e2⟩, decide_eq_true e2]; rfl
        · rw [if_neg (fun z => e2 z.2), decide_eq_false e2]; exact h
      · rw [decide_eq_false e]
        refine ih _ _ ?_
        unfold kupr; rw [if_neg (fun z => e z.1)]; exact h
    | g + 3 =>
      show exR p r a k = cdR (bif Nat.beq a b then exN p a k z else exN p a k z) q
      rw [Bool.cond_self]; exact ih _ _ h
theorem exR_lo : ∀ (p : List Op) (r : Nat → Nat → Value), p.all (fun o => decide (n ≤ o.2.1)) = true → a < n → exR p r a = r a := by
  intro p
  induction p with
  | nil => intro r _ _; rfl
  | cons o p ih =>
    intro r h ha
    obtain ⟨g, b, j, v, x⟩ := o
    rw [List.all_cons, Bool.and_eq_true] at h
    have hb : n ≤ b := of_decide_eq_true h.1
    match g with
    | 0 =>
      show exR p (fR r b) a = _
      rw [ih _ h.2 ha, fR_o (by omega)]
    | 1 => exact ih _ h.2 ha
    | 2 =>
      show exR p (kupr r b j (.ref x)) a = _
      rw [ih _ h.2 ha, kur_o (by omega)]
    | g + 3 => exact ih _ h.2 ha
theorem exI_lo : ∀ (p : List Op) (i : Nat → Nat → Int32), p.all (fun o => decide (n ≤ o.2.1)) = true → a < n → exI p i a = i a := by
  intro p
  induction p with
  | nil => intro i _ _; rfl
  | cons o p ih =>
    intro i h ha
    obtain ⟨g, b, j, v, x⟩ := o
    rw [List.all_cons, Bool.and_eq_true] at h
    have hb : n ≤ b := of_decide_eq_true h.1
    match g with
    | 0 =>
      show exI p (fI i b) a = _
      rw [ih _ h.2 ha, fI_o (by omega)]
    | 1 =>
      show exI p (kupi i b j v) a = _
      rw [ih _ h.2 ha, kupi_cf (by omega)]
    | g + 2 => exact ih _ h.2 ha
theorem kRL_91 : (kRL.getD 91 []).length ≤ 47 := by decide +kernel
theorem kRL_92 : ∀ a, a < 28 → kRL.getD (92 + a) [] = [] := by decide +kernel
theorem kR_91 (hk : 47 ≤ k) : kR 85 88 sp0 91 k = .null := by
  rw [kR_rn]
  have : rnR 91 k = 0 := by
    unfold rnR
    rw [if_neg (by omega), if_neg (by omega), if_neg (by omega)]
    have := kRL_91
    rw [List.getD_eq_getElem?_getD, List.getElem?_eq_none (by omega)]; rfl
  rw [this]; rfl
theorem kR_92 (h1 : 92 ≤ a) (h2 : a < 120) : kR 85 88 sp0 a k = .null := by
  rw [kR_rn]
  have : rnR a k = 0 := by
    unfold rnR
    rw [if_neg (by omega), if_neg (by omega), if_neg (by omega)]
    have := kRL_92 (a - 92) (by omega)
    rw [show 92 + (a - 92) = a by omega] at this
    rw [this]; rfl
  rw [this]; rfl
theorem chk_M : ∀ k, k < 47 → exN ((0, 91, 0, 0, 0) :: op_M) 91 k 0 = rnR 91 k + (bif Nat.beq (rnR 91 k) 0 then 1 else 2) := by decide +kernel
theorem exR_z : ∀ (p : List Op) (r : Nat → Nat → Value), p.all (fun o => o.1 != 2 || o.2.1 == 91) = true → a ≠ 91 → r a k = .null → exR p r a k = .null := by
  intro p
  induction p with
  | nil => intro r _ _ h; exact h
  | cons o p ih =>
    intro r h ha hr
    obtain ⟨g, b, j, v, x⟩ := o
    rw [List.all_cons, Bool.and_eq_true] at h
    match g, h.1 with
    | 0, _ =>
      refine ih _ h.2 ha ?_
      unfold fR; split
      · rfl
      · exact hr
    | 1, _ => exact ih _ h.2 ha hr
    | 2, h1 =>
      have e : b = 91 := by simpa using h1
      refine ih _ h.2 ha ?_
      unfold kupr; rw [if_neg (by omega)]; exact hr
    | g + 3, _ => exact ih _ h.2 ha hr
theorem r_M : exR op_M (fR (kR 85 88 sp0) 91) = kR 85 88 sp0 := by
  show exR ((0, 91, 0, 0, 0) :: op_M) (kR 85 88 sp0) = _
  funext a k
  by_cases h1 : a < 91
  · rw [exR_lo (n := 91) _ _ (by decide +kernel) h1]
  · by_cases h2 : a = 91
    · subst h2
      by_cases hk : k < 47
      · rw [exR_n (q := kR 85 88 sp0 91 k) _ _ 0 rfl, chk_M k hk, cdR_rv, kR_rn]
      · rw [exR_nu (n := 47) _ _ (by decide +kernel) (by omega) (kR_91 (by omega)), kR_91 (by omega)]
    · by_cases h3 : a < 120
      · rw [exR_z _ _ (by decide +kernel) h2 (kR_92 (by omega) h3), kR_92 (by omega) h3]
      · rw [exR_hi (n := 120) _ _ (by decide +kernel) (by omega)]
end TC
