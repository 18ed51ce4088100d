/-! council: the class's reading -/
section TC
variable {sc : Nat × (Nat → Int32)} {d y nx : Nat} {hd : List (Int × Nat)} {L st : List Value} {S : kS} {cu su : Nat} {i : Nat → Nat → Int32} {l : Nat → Nat → Int64} {f t c b m : Nat} {sp : Nat → Nat} {K : Option (Option Value) → kS → Prop}
variable {N M Z S1 Q A : Nat → Int32} {i1 i2 i3 j : Nat → Nat → Int32} {l2 : Nat → Nat → Int64} {n n2 k x a o g c : Nat} {v r p q : Int32} {T : Nat → Int32}
/-- how many men, whether a man begins, the least thing, breath, wants -/
abbrev CS := Nat × Bool × Nat × (Nat → Int32) × (Nat → Int32)
abbrev isLen (v : Int32) : Prop := ¬ (v - 48 < 1) ∧ ¬ (9 < v - 48)
abbrev isTh (v : Int32) : Prop := ¬ v < 0 ∧ ¬ 8 ≤ v
abbrev cBad (T : Nat → Int32) (x : Nat) (s : CS) : Prop := if s.2.1 = true then ¬ (s.1 < 8 ∧ isLen (T x)) else ¬ (T x = 59) ∧ ¬ (isTh (T x - 97) ∧ ¬ T x - 97 < Int32.ofNat s.2.2.1)
def cStep (T : Nat → Int32) (x : Nat) (s : CS) : CS := if s.2.1 = true then (s.1 + 1, false, 0, kuf s.2.2.2.1 s.1 (T x - 48), kuf s.2.2.2.2 s.1 0) else if T x = 59 then (s.1, true, s.2.2) else (s.1, false, (T x - 97).toNatClampNeg + 1, s.2.2.2.1, kuf s.2.2.2.2 (s.1 - 1) (s.2.2.2.2 (s.1 - 1) ||| (1 <<< ((T x - 97) &&& 31))))
def cSt (T : Nat → Int32) (m : Nat) (b w : Nat → Int32) (x : Nat) : CS := kfo (cStep T) x (m, true, 0, b, w)
/-- the two rows of the people -/
def pS (i : Nat → Nat → Int32) (b w : Nat → Int32) : Nat → Nat → Int32 := fun c => if c = 6 then b else if c = 7 then w else i c
variable {b w : Nat → Int32}
theorem pS_6 : pS i b w 6 = b := rfl
theorem pS_7 : pS i b w 7 = w := rfl
theorem pS_o {c : Nat} (h : c ≠ 6) (h2 : c ≠ 7) : pS i b w c = i c := by unfold pS; rw [if_neg h, if_neg h2]
theorem pS_g : pS i (i 6) (i 7) = i := by
  funext c; unfold pS
  by_cases h : c = 6
  · rw [if_pos h, h]
  · rw [if_neg h]
    by_cases h2 : c = 7
    · rw [if_pos h2, h2]
    · rw [if_neg h2]
theorem pU_6 {x : Nat} {v : Int32} : kupi (pS i b w) 6 x v = pS i (kuf b x v) w := by
  funext c z; unfold kupi pS kuf
  by_cases h1 : c = 6
  · subst h1; by_cases h2 : z = x
    · simp [h2]
    · simp [h2]
  · simp [h1]
theorem pU_7 {x : Nat} {v : Int32} : kupi (pS i b w) 7 x v = pS i b (kuf w x v) := by
  funext c z; unfold kupi pS kuf
  by_cases h1 : c = 7
  · subst h1; by_cases h2 : z = x
    · simp [h2]
    · simp [h2]
  · simp [h1]
theorem sub1 {c : Nat} : Int32.ofNat (c + 1) - 1 = Int32.ofNat c := by rw [← tn_s, Int32.add_sub_cancel]
/-- what holds of the state while no fault was met -/
def cOk (m : Nat) (s : CS) : Prop := m ≤ s.1 ∧ s.1 ≤ 8 ∧ s.2.2.1 ≤ 8 ∧ (s.2.1 = false → m < s.1)
theorem isTh_nat {v : Int32} (h : isTh v) : ∃ k, k < 8 ∧ v = Int32.ofNat k := by
  exact tn_ex (m := 8) (by decide) (Int32.not_lt.1 h.1) (Int32.not_le.1 h.2)
theorem cOk_step {s : CS} (h : cOk m s) (hb : ¬ cBad T x s) : cOk m (cStep T x s) := by
  obtain ⟨h1, h2, h3, h4⟩ := h
  unfold cStep
  unfold cBad at hb
  by_cases c1 : s.2.1 = true
  · rw [if_pos c1] at hb ⊢
    rw [Classical.not_not] at hb
    exact ⟨by dsimp only; omega, by dsimp only; omega, by dsimp only; omega, fun _ => by dsimp only; omega⟩
  · rw [if_neg c1] at hb ⊢
    have h4' := h4 (by simpa using c1)
    by_cases c2 : T x = 59
    · rw [if_pos c2]
      exact ⟨h1, h2, h3, fun z => by cases z⟩
    · rw [if_neg c2]
      have hb2 : isTh (T x - 97) ∧ ¬ T x - 97 < Int32.ofNat s.2.2.1 := Classical.byContradiction fun z => hb ⟨c2, z⟩
      obtain ⟨k, hk, e⟩ := isTh_nat hb2.1
      refine ⟨h1, h2, ?_, fun _ => h4'⟩
      show (T x - 97).toNatClampNeg + 1 ≤ 8
      rw [e, tn_cl (by omega)]; omega
theorem cSt_ok (h8 : m ≤ 8) : ∀ x, (∀ z, z < x → ¬ cBad T z (cSt T m b w z)) → cOk m (cSt T m b w x) := by
  intro x
  induction x with
  | zero => intro _; exact ⟨Nat.le_refl _, h8, Nat.zero_le _, fun z => by cases z⟩
  | succ x ih =>
    intro h
    have := ih (fun z hz => h z (by omega))
    exact cOk_step this (h x (by omega))
def fl (s : CS) : Int32 := if s.2.1 = true then 1 else 0
theorem c_signs {to : Nat} (hn : i 1 1 = Int32.ofNat n) (h80 : n ≤ 80) (hT : ∀ x, x < n → i 2 x = T x) (h8 : m ≤ 8) (hto : to ≤ n ∧ to ≤ 79) {v7 v8 : Value} : ∀ k, k ≤ to → (∀ z, z < k → ¬ cBad T z (cSt T m (i 6) (i 7) z)) → ∃ v7' v8' : Value, kWP sc (d + 2) 31 26 [.ref 5, .ref 1, .int (Int32.ofNat to), .int (Int32.ofNat m - 1), .int 1, .int 0, .int (Int32.ofNat 0), v7, v8] [] ((120, cu, su), i, l, kR f t sp) K = kWP sc (d + 2) 31 26 [.ref 5, .ref 1, .int (Int32.ofNat to), .int (Int32.ofNat (cSt T m (i 6) (i 7) k).1 - 1), .int (fl (cSt T m (i 6) (i 7) k)), .int (Int32.ofNat (cSt T m (i 6) (i 7) k).2.2.1), .int (Int32.ofNat k), v7', v8'] [] ((120, cu, su), pS i (cSt T m (i 6) (i 7) k).2.2.2.1 (cSt T m (i 6) (i 7) k).2.2.2.2, l, kR f t sp) K := by
  intro k
  induction k with
  | zero =>
    intro _ _
    refine ⟨v7, v8, ?_⟩
    show _ = kWP sc (d + 2) _ _ _ _ (_, pS i (i 6) (i 7), _, _) K
    rw [pS_g]; rfl
  | succ k ih =>
    intro hk hb
    obtain ⟨u7, u8, e⟩ := ih (by omega) (fun z hz => hb z (by omega))
    have ok := cSt_ok (T := T) (b := i 6) (w := i 7) h8 k (fun z hz => hb z (by omega))
    have hnb := hb k (by omega)
    have eS : cSt T m (i 6) (i 7) (k + 1) = cStep T k (cSt T m (i 6) (i 7) k) := rfl
    rw [eS]
    generalize cSt T m (i 6) (i 7) k = s at e ok hnb
    have hA : tA T n k = T k := by unfold tA; rw [if_pos (by omega)]
    have hnS : pS i s.2.2.2.1 s.2.2.2.2 1 1 = Int32.ofNat n := by rw [pS_o (by decide) (by decide)]; exact hn
    have hTS : ∀ x, x < n → pS i s.2.2.2.1 s.2.2.2.2 2 x = T x := by rw [pS_o (by decide) (by decide)]; exact hT
    have hat : ∀ (y nx : Nat) (hd : List (Int × Nat)) (L st : List Value) (K : Option (Option Value) → kS → Prop), kCA sc (d + 2) 92 [.ref 1, .int (Int32.ofNat k)] y nx hd L st ((120, cu, su), pS i s.2.2.2.1 s.2.2.2.2, l, kR f t sp) K = kWP sc (d + 2) y nx L (.int (T k) :: st) ((120, cu, su), pS i s.2.2.2.1 s.2.2.2.2, l, kR f t sp) K := by
      intro y nx hd L st K
      rw [c_atN (d := d + 1) hnS h80 hTS (show k < 100000 by omega), hA]
    obtain ⟨h1, h2, h3, h4⟩ := ok
    unfold cBad at hnb
    unfold cStep
    by_cases c1 : s.2.1 = true
    · rw [if_pos c1] at hnb ⊢
      rw [Classical.not_not] at hnb
      have c8 : ((8 : Int32) ≤ Int32.ofNat s.1) = False := jpF (n := 8) hnb.1 (by decide)
      have hlen := hnb.2
      have ef : fl s = 1 := if_pos c1
      refine ⟨.int (T k), .int (T k - 97), e.trans ?_⟩
      rw [ef]
      refine e_X3_readLines_26.trans ?_
      simp only [e_X3_readLines_0, e_X3_readLines_1, e_X3_readLines_4, e_X3_readLines_6, e_X3_readLines_9, e_X3_readLines_10, e_X3_readLines_11, e_X3_readLines_14, e_X3_readLines_15, e_X3_readLines_16, e_X3_readLines_17, e_X3_readLines_18, e_X3_readLines_20, e_X3_readLines_21, e_X3_readLines_23, e_X3_readLines_24, e_X3_readLines_28, e_X3_readLines_29, e_X3_readLines_32, e_X3_readLines_33, e_X3_readLines_35, e_X3_readLines_38, e_X3_readLines_40, e_X3_readLines_42, e_X3_readLines_44, e_X3_readLines_45, e_X3_readLines_47, e_X3_readLines_49, e_X3_readLines_52, e_X3_readLines_55, e_X3_readLines_56, e_X3_readLines_58, e_X3_readLines_61, e_X3_readLines_63, e_X3_readLines_65, e_X3_readLines_66, e_X3_readLines_69, e_X3_readLines_72, e_X3_readLines_73, e_X3_readLines_75, e_X3_readLines_76, e_X3_readLines_77, e_X3_readLines_78, e_X3_readLines_81, e_X3_readLines_82, e_X3_readLines_84, e_X3_readLines_86, e_X3_readLines_87, e_X3_readLines_88, e_X3_readLines_89, e_X3_readLines_92, e_X3_readLines_93, e_X3_readLines_94, e_X3_readLines_95, e_X3_readLines_96, e_X3_readLines_98, e_X3_readLines_99, e_X3_readLines_101, e_X3_readLines_104, e_X3_readLines_106, e_X3_readLines_108, e_X3_readLines_111, e_X3_readLines_112, e_X3_readLines_114, e_X3_readLines_117, e_X3_readLines_119, e_X3_readLines_122, e_X3_readLines_125, e_X3_readLines_127, e_X3_readLines_129, e_X3_readLines_132, e_X3_readLines_133, e_X3_readLines_136, e_X3_readLines_137, e_X3_readLines_139, e_X3_readLines_142, e_X3_readLines_143, e_X3_readLines_146, e_X3_readLines_147, e_X3_readLines_148, e_X3_readLines_149, e_X3_readLines_150, e_X3_readLines_152, e_X3_readLines_153, e_X3_readLines_154, e_X3_readLines_155, e_X3_readLines_157, e_X3_readLines_158, e_X3_readLines_159, e_X3_readLines_161, e_X3_readLines_164, e_X3_readLines_165, e_X3_readLines_167, e_X3_readLines_168, e_X3_readLines_169, e_X3_readLines_172, e_X3_readLines_175, e_X3_readLines_176, e_X3_readLines_179, e_X3_readLines_181, e_X3_readLines_184, e_X3_readLines_186, e_X3_readLines_189, e_X3_readLines_190, e_X3_readLines_193, e_X3_readLines_194, e_X3_readLines_195, e_X3_readLines_196, e_X3_readLines_197, e_X3_readLines_198, e_X3_readLines_199, e_X3_readLines_200, e_X3_readLines_201, e_X3_readLines_204, ob_1, ob_5, rk_5_1, ar_6, rk_5_2, ar_7, kcl_i, kcl_r, kcl_l, kcl_0, kcl_n, true_and, and_true, jpF (show k < to by omega) (by omega), if_false, hat, z10, Int32.sub_add_cancel, c8, c_isLength, kb_0, hlen, not_true_eq_false, not_false_eq_true, and_self, if_true, kin8 hnb.1, cl_n (show s.1 < 100000 by omega), pU_6, pU_7, true_and, tn_s, sub1]
      rfl
    · rw [if_neg c1] at hnb ⊢
      have h4' := h4 (by simpa using c1)
      have ef : fl s = 0 := if_neg c1
      by_cases c2 : T k = 59
      · rw [if_pos c2]
        refine ⟨.int (T k), .int (T k - 97), e.trans ?_⟩
        rw [ef]
        refine e_X3_readLines_26.trans ?_
        simp only [e_X3_readLines_0, e_X3_readLines_1, e_X3_readLines_4, e_X3_readLines_6, e_X3_readLines_9, e_X3_readLines_10, e_X3_readLines_11, e_X3_readLines_14, e_X3_readLines_15, e_X3_readLines_16, e_X3_readLines_17, e_X3_readLines_18, e_X3_readLines_20, e_X3_readLines_21, e_X3_readLines_23, e_X3_readLines_24, e_X3_readLines_28, e_X3_readLines_29, e_X3_readLines_32, e_X3_readLines_33, e_X3_readLines_35, e_X3_readLines_38, e_X3_readLines_40, e_X3_readLines_42, e_X3_readLines_44, e_X3_readLines_45, e_X3_readLines_47, e_X3_readLines_49, e_X3_readLines_52, e_X3_readLines_55, e_X3_readLines_56, e_X3_readLines_58, e_X3_readLines_61, e_X3_readLines_63, e_X3_readLines_65, e_X3_readLines_66, e_X3_readLines_69, e_X3_readLines_72, e_X3_readLines_73, e_X3_readLines_75, e_X3_readLines_76, e_X3_readLines_77, e_X3_readLines_78, e_X3_readLines_81, e_X3_readLines_82, e_X3_readLines_84, e_X3_readLines_86, e_X3_readLines_87, e_X3_readLines_88, e_X3_readLines_89, e_X3_readLines_92, e_X3_readLines_93, e_X3_readLines_94, e_X3_readLines_95, e_X3_readLines_96, e_X3_readLines_98, e_X3_readLines_99, e_X3_readLines_101, e_X3_readLines_104, e_X3_readLines_106, e_X3_readLines_108, e_X3_readLines_111, e_X3_readLines_112, e_X3_readLines_114, e_X3_readLines_117, e_X3_readLines_119, e_X3_readLines_122, e_X3_readLines_125, e_X3_readLines_127, e_X3_readLines_129, e_X3_readLines_132, e_X3_readLines_133, e_X3_readLines_136, e_X3_readLines_137, e_X3_readLines_139, e_X3_readLines_142, e_X3_readLines_143, e_X3_readLines_146, e_X3_readLines_147, e_X3_readLines_148, e_X3_readLines_149, e_X3_readLines_150, e_X3_readLines_152, e_X3_readLines_153, e_X3_readLines_154, e_X3_readLines_155, e_X3_readLines_157, e_X3_readLines_158, e_X3_readLines_159, e_X3_readLines_161, e_X3_readLines_164, e_X3_readLines_165, e_X3_readLines_167, e_X3_readLines_168, e_X3_readLines_169, e_X3_readLines_172, e_X3_readLines_175, e_X3_readLines_176, e_X3_readLines_179, e_X3_readLines_181, e_X3_readLines_184, e_X3_readLines_186, e_X3_readLines_189, e_X3_readLines_190, e_X3_readLines_193, e_X3_readLines_194, e_X3_readLines_195, e_X3_readLines_196, e_X3_readLines_197, e_X3_readLines_198, e_X3_readLines_199, e_X3_readLines_200, e_X3_readLines_201, e_X3_readLines_204, ob_1, ob_5, rk_5_1, ar_6, rk_5_2, ar_7, kcl_i, kcl_r, kcl_l, kcl_0, kcl_n, true_and, and_true, jpF (show k < to by omega) (by omega), if_false, hat, if_true, c2, not_true_eq_false, tn_s]
        rfl
      · rw [if_neg c2]
        have hb2 : isTh (T k - 97) ∧ ¬ T k - 97 < Int32.ofNat s.2.2.1 := Classical.byContradiction fun z => hnb ⟨c2, z⟩
        obtain ⟨z, hz, ez⟩ := isTh_nat hb2.1
        have em : Int32.ofNat s.1 - 1 = Int32.ofNat (s.1 - 1) := sub_nat (b := 1) (by omega)
        have e1 : (Int32.ofNat (s.1 - 1) < 0) = False := eq_false (tn_nn (by omega))
        have e2 : ((8 : Int32) ≤ Int32.ofNat (s.1 - 1)) = False := jpF (n := 8) (by omega) (by decide)
        have hth : isTh (Int32.ofNat z) := by rw [← ez]; exact hb2.1
        have hlt : ¬ Int32.ofNat z < Int32.ofNat s.2.2.1 := by rw [← ez]; exact hb2.2
        refine ⟨.int (T k), .int (T k - 97), e.trans ?_⟩
        rw [ef, em]
        refine e_X3_readLines_26.trans ?_
        simp only [e_X3_readLines_0, e_X3_readLines_1, e_X3_readLines_4, e_X3_readLines_6, e_X3_readLines_9, e_X3_readLines_10, e_X3_readLines_11, e_X3_readLines_14, e_X3_readLines_15, e_X3_readLines_16, e_X3_readLines_17, e_X3_readLines_18, e_X3_readLines_20, e_X3_readLines_21, e_X3_readLines_23, e_X3_readLines_24, e_X3_readLines_28, e_X3_readLines_29, e_X3_readLines_32, e_X3_readLines_33, e_X3_readLines_35, e_X3_readLines_38, e_X3_readLines_40, e_X3_readLines_42, e_X3_readLines_44, e_X3_readLines_45, e_X3_readLines_47, e_X3_readLines_49, e_X3_readLines_52, e_X3_readLines_55, e_X3_readLines_56, e_X3_readLines_58, e_X3_readLines_61, e_X3_readLines_63, e_X3_readLines_65, e_X3_readLines_66, e_X3_readLines_69, e_X3_readLines_72, e_X3_readLines_73, e_X3_readLines_75, e_X3_readLines_76, e_X3_readLines_77, e_X3_readLines_78, e_X3_readLines_81, e_X3_readLines_82, e_X3_readLines_84, e_X3_readLines_86, e_X3_readLines_87, e_X3_readLines_88, e_X3_readLines_89, e_X3_readLines_92, e_X3_readLines_93, e_X3_readLines_94, e_X3_readLines_95, e_X3_readLines_96, e_X3_readLines_98, e_X3_readLines_99, e_X3_readLines_101, e_X3_readLines_104, e_X3_readLines_106, e_X3_readLines_108, e_X3_readLines_111, e_X3_readLines_112, e_X3_readLines_114, e_X3_readLines_117, e_X3_readLines_119, e_X3_readLines_122, e_X3_readLines_125, e_X3_readLines_127, e_X3_readLines_129, e_X3_readLines_132, e_X3_readLines_133, e_X3_readLines_136, e_X3_readLines_137, e_X3_readLines_139, e_X3_readLines_142, e_X3_readLines_143, e_X3_readLines_146, e_X3_readLines_147, e_X3_readLines_148, e_X3_readLines_149, e_X3_readLines_150, e_X3_readLines_152, e_X3_readLines_153, e_X3_readLines_154, e_X3_readLines_155, e_X3_readLines_157, e_X3_readLines_158, e_X3_readLines_159, e_X3_readLines_161, e_X3_readLines_164, e_X3_readLines_165, e_X3_readLines_167, e_X3_readLines_168, e_X3_readLines_169, e_X3_readLines_172, e_X3_readLines_175, e_X3_readLines_176, e_X3_readLines_179, e_X3_readLines_181, e_X3_readLines_184, e_X3_readLines_186, e_X3_readLines_189, e_X3_readLines_190, e_X3_readLines_193, e_X3_readLines_194, e_X3_readLines_195, e_X3_readLines_196, e_X3_readLines_197, e_X3_readLines_198, e_X3_readLines_199, e_X3_readLines_200, e_X3_readLines_201, e_X3_readLines_204, ob_1, ob_5, rk_5_1, ar_6, rk_5_2, ar_7, kcl_i, kcl_r, kcl_l, kcl_0, kcl_n, true_and, and_true, jpF (show k < to by omega) (by omega), if_false, hat, if_true, c2, not_false_eq_true, ez, c_isThing, kb_0, hth, hlt, e1, e2, not_true_eq_false, and_self, kin8 (show s.1 - 1 < 8 by omega), cl_n (show s.1 - 1 < 100000 by omega), pU_7, pS_7, true_and, tn_s, tn_cl (show z < 2147483648 by omega)]
        rfl
/-- the fault's place, or none -/
def cFt (T : Nat → Int32) (m : Nat) (b w : Nat → Int32) (to : Nat) : Option Nat := kfi (fun x => cBad T x (cSt T m b w x)) to 0
theorem c_readLines {to : Nat} (hn : i 1 1 = Int32.ofNat n) (h80 : n ≤ 80) (hT : ∀ x, x < n → i 2 x = T x) (hm : i 5 0 = Int32.ofNat m) (h8 : m ≤ 8) (hto : to = min n 79) :
    (∀ z, cFt T m (i 6) (i 7) to = some z → ∀ K, kWP sc (d + 2) 31 0 [.ref 5, .ref 1, .retAddr 0, .retAddr 0, .retAddr 0, .retAddr 0, .retAddr 0, .retAddr 0, .retAddr 0] [] ((120, cu, su), i, l, kR f t sp) K = K (some (some (.int (-1 - Int32.ofNat z)))) ((120, cu, su), pS i (cSt T m (i 6) (i 7) z).2.2.2.1 (cSt T m (i 6) (i 7) z).2.2.2.2, l, kR f t sp)) ∧
    (cFt T m (i 6) (i 7) to = none → ∀ K, ∃ v7 v8 : Value, kWP sc (d + 2) 31 0 [.ref 5, .ref 1, .retAddr 0, .retAddr 0, .retAddr 0, .retAddr 0, .retAddr 0, .retAddr 0, .retAddr 0] [] ((120, cu, su), i, l, kR f t sp) K = kWP sc (d + 2) 31 175 [.ref 5, .ref 1, .int (Int32.ofNat to), .int (Int32.ofNat (cSt T m (i 6) (i 7) to).1 - 1), .int (fl (cSt T m (i 6) (i 7) to)), .int (Int32.ofNat (cSt T m (i 6) (i 7) to).2.2.1), .int (Int32.ofNat to), v7, v8] [] ((120, cu, su), pS i (cSt T m (i 6) (i 7) to).2.2.2.1 (cSt T m (i 6) (i 7) to).2.2.2.2, l, kR f t sp) K) := by
  have emin : (if (79 : Int32) < Int32.ofNat n then (79 : Int32) else Int32.ofNat n) = Int32.ofNat to := by
    rw [show (79 : Int32) = Int32.ofNat 79 from rfl]
    by_cases c : 79 < n
    · rw [if_pos (by rw [tn_lt (by decide) (by omega)]; exact c), hto, Nat.min_eq_right (by omega)]
    · rw [if_neg (by rw [tn_lt (by decide) (by omega)]; exact c), hto, Nat.min_eq_left (by omega)]
  have hto' : to ≤ n ∧ to ≤ 79 := by omega
  constructor
  · intro z hz K
    have hz1 := kfi_some hz
    have hz2 := kfi_before hz
    obtain ⟨u7, u8, e⟩ := c_signs (sc := sc) (d := d) (cu := cu) (su := su) (i := i) (l := l) (f := f) (t := t) (sp := sp) (K := K) (T := T) (v7 := .retAddr 0) (v8 := .retAddr 0) hn h80 hT h8 hto' z (by omega) (fun x hx => hz2 x (Nat.zero_le _) hx)
    have ok := cSt_ok (T := T) (b := i 6) (w := i 7) h8 z (fun x hx => hz2 x (Nat.zero_le _) hx)
    have hbad := hz1.2.2
    simp only [e_X3_readLines_0, e_X3_readLines_1, e_X3_readLines_4, e_X3_readLines_6, e_X3_readLines_9, e_X3_readLines_10, e_X3_readLines_11, e_X3_readLines_14, e_X3_readLines_15, e_X3_readLines_16, e_X3_readLines_17, e_X3_readLines_18, e_X3_readLines_20, e_X3_readLines_21, e_X3_readLines_23, e_X3_readLines_24, e_X3_readLines_28, e_X3_readLines_29, e_X3_readLines_32, e_X3_readLines_33, e_X3_readLines_35, e_X3_readLines_38, e_X3_readLines_40, e_X3_readLines_42, e_X3_readLines_44, e_X3_readLines_45, e_X3_readLines_47, e_X3_readLines_49, e_X3_readLines_52, e_X3_readLines_55, e_X3_readLines_56, e_X3_readLines_58, e_X3_readLines_61, e_X3_readLines_63, e_X3_readLines_65, e_X3_readLines_66, e_X3_readLines_69, e_X3_readLines_72, e_X3_readLines_73, e_X3_readLines_75, e_X3_readLines_76, e_X3_readLines_77, e_X3_readLines_78, e_X3_readLines_81, e_X3_readLines_82, e_X3_readLines_84, e_X3_readLines_86, e_X3_readLines_87, e_X3_readLines_88, e_X3_readLines_89, e_X3_readLines_92, e_X3_readLines_93, e_X3_readLines_94, e_X3_readLines_95, e_X3_readLines_96, e_X3_readLines_98, e_X3_readLines_99, e_X3_readLines_101, e_X3_readLines_104, e_X3_readLines_106, e_X3_readLines_108, e_X3_readLines_111, e_X3_readLines_112, e_X3_readLines_114, e_X3_readLines_117, e_X3_readLines_119, e_X3_readLines_122, e_X3_readLines_125, e_X3_readLines_127, e_X3_readLines_129, e_X3_readLines_132, e_X3_readLines_133, e_X3_readLines_136, e_X3_readLines_137, e_X3_readLines_139, e_X3_readLines_142, e_X3_readLines_143, e_X3_readLines_146, e_X3_readLines_147, e_X3_readLines_148, e_X3_readLines_149, e_X3_readLines_150, e_X3_readLines_152, e_X3_readLines_153, e_X3_readLines_154, e_X3_readLines_155, e_X3_readLines_157, e_X3_readLines_158, e_X3_readLines_159, e_X3_readLines_161, e_X3_readLines_164, e_X3_readLines_165, e_X3_readLines_167, e_X3_readLines_168, e_X3_readLines_169, e_X3_readLines_172, e_X3_readLines_175, e_X3_readLines_176, e_X3_readLines_179, e_X3_readLines_181, e_X3_readLines_184, e_X3_readLines_186, e_X3_readLines_189, e_X3_readLines_190, e_X3_readLines_193, e_X3_readLines_194, e_X3_readLines_195, e_X3_readLines_196, e_X3_readLines_197, e_X3_readLines_198, e_X3_readLines_199, e_X3_readLines_200, e_X3_readLines_201, e_X3_readLines_204, ob_1, ob_5, rk_5_1, ar_6, rk_5_2, ar_7, kcl_i, kcl_r, kcl_l, kcl_0, kcl_n, true_and, and_true, hn, hm, emin]
    refine e.trans ?_
    generalize cSt T m (i 6) (i 7) z = s at ok hbad
    have hA : tA T n z = T z := by unfold tA; rw [if_pos (by omega)]
    have hnS : pS i s.2.2.2.1 s.2.2.2.2 1 1 = Int32.ofNat n := by rw [pS_o (by decide) (by decide)]; exact hn
    have hTS : ∀ x, x < n → pS i s.2.2.2.1 s.2.2.2.2 2 x = T x := by rw [pS_o (by decide) (by decide)]; exact hT
    have hat : ∀ (y nx : Nat) (hd : List (Int × Nat)) (L st : List Value) (K : Option (Option Value) → kS → Prop), kCA sc (d + 2) 92 [.ref 1, .int (Int32.ofNat z)] y nx hd L st ((120, cu, su), pS i s.2.2.2.1 s.2.2.2.2, l, kR f t sp) K = kWP sc (d + 2) y nx L (.int (T z) :: st) ((120, cu, su), pS i s.2.2.2.1 s.2.2.2.2, l, kR f t sp) K := by
      intro y nx hd L st K
      rw [c_atN (d := d + 1) hnS h80 hTS (show z < 100000 by omega), hA]
    obtain ⟨h1, h2, h3, h4⟩ := ok
    unfold cBad at hbad
    refine e_X3_readLines_26.trans ?_
    by_cases c1 : s.2.1 = true
    · rw [if_pos c1] at hbad
      have ef : fl s = 1 := if_pos c1
      by_cases c8 : s.1 < 8
      · have hlen : ¬ isLen (T z) := fun q => hbad ⟨c8, q⟩
        simp only [e_X3_readLines_0, e_X3_readLines_1, e_X3_readLines_4, e_X3_readLines_6, e_X3_readLines_9, e_X3_readLines_10, e_X3_readLines_11, e_X3_readLines_14, e_X3_readLines_15, e_X3_readLines_16, e_X3_readLines_17, e_X3_readLines_18, e_X3_readLines_20, e_X3_readLines_21, e_X3_readLines_23, e_X3_readLines_24, e_X3_readLines_28, e_X3_readLines_29, e_X3_readLines_32, e_X3_readLines_33, e_X3_readLines_35, e_X3_readLines_38, e_X3_readLines_40, e_X3_readLines_42, e_X3_readLines_44, e_X3_readLines_45, e_X3_readLines_47, e_X3_readLines_49, e_X3_readLines_52, e_X3_readLines_55, e_X3_readLines_56, e_X3_readLines_58, e_X3_readLines_61, e_X3_readLines_63, e_X3_readLines_65, e_X3_readLines_66, e_X3_readLines_69, e_X3_readLines_72, e_X3_readLines_73, e_X3_readLines_75, e_X3_readLines_76, e_X3_readLines_77, e_X3_readLines_78, e_X3_readLines_81, e_X3_readLines_82, e_X3_readLines_84, e_X3_readLines_86, e_X3_readLines_87, e_X3_readLines_88, e_X3_readLines_89, e_X3_readLines_92, e_X3_readLines_93, e_X3_readLines_94, e_X3_readLines_95, e_X3_readLines_96, e_X3_readLines_98, e_X3_readLines_99, e_X3_readLines_101, e_X3_readLines_104, e_X3_readLines_106, e_X3_readLines_108, e_X3_readLines_111, e_X3_readLines_112, e_X3_readLines_114, e_X3_readLines_117, e_X3_readLines_119, e_X3_readLines_122, e_X3_readLines_125, e_X3_readLines_127, e_X3_readLines_129, e_X3_readLines_132, e_X3_readLines_133, e_X3_readLines_136, e_X3_readLines_137, e_X3_readLines_139, e_X3_readLines_142, e_X3_readLines_143, e_X3_readLines_146, e_X3_readLines_147, e_X3_readLines_148, e_X3_readLines_149, e_X3_readLines_150, e_X3_readLines_152, e_X3_readLines_153, e_X3_readLines_154, e_X3_readLines_155, e_X3_readLines_157, e_X3_readLines_158, e_X3_readLines_159, e_X3_readLines_161, e_X3_readLines_164, e_X3_readLines_165, e_X3_readLines_167, e_X3_readLines_168, e_X3_readLines_169, e_X3_readLines_172, e_X3_readLines_175, e_X3_readLines_176, e_X3_readLines_179, e_X3_readLines_181, e_X3_readLines_184, e_X3_readLines_186, e_X3_readLines_189, e_X3_readLines_190, e_X3_readLines_193, e_X3_readLines_194, e_X3_readLines_195, e_X3_readLines_196, e_X3_readLines_197, e_X3_readLines_198, e_X3_readLines_199, e_X3_readLines_200, e_X3_readLines_201, e_X3_readLines_204, ob_1, ob_5, rk_5_1, ar_6, rk_5_2, ar_7, kcl_i, kcl_r, kcl_l, kcl_0, kcl_n, true_and, and_true, jpF (show z < to by omega) (by omega), if_false, hat, ef, z10, Int32.sub_add_cancel, jpF (n := 8) c8 (by decide), show (8 : Int32) = Int32.ofNat 8 from rfl, c_isLength, kb_0, hlen, not_false_eq_true, not_true_eq_false, if_true]
      · have e8 : s.1 = 8 := by omega
        simp only [e_X3_readLines_0, e_X3_readLines_1, e_X3_readLines_4, e_X3_readLines_6, e_X3_readLines_9, e_X3_readLines_10, e_X3_readLines_11, e_X3_readLines_14, e_X3_readLines_15, e_X3_readLines_16, e_X3_readLines_17, e_X3_readLines_18, e_X3_readLines_20, e_X3_readLines_21, e_X3_readLines_23, e_X3_readLines_24, e_X3_readLines_28, e_X3_readLines_29, e_X3_readLines_32, e_X3_readLines_33, e_X3_readLines_35, e_X3_readLines_38, e_X3_readLines_40, e_X3_readLines_42, e_X3_readLines_44, e_X3_readLines_45, e_X3_readLines_47, e_X3_readLines_49, e_X3_readLines_52, e_X3_readLines_55, e_X3_readLines_56, e_X3_readLines_58, e_X3_readLines_61, e_X3_readLines_63, e_X3_readLines_65, e_X3_readLines_66, e_X3_readLines_69, e_X3_readLines_72, e_X3_readLines_73, e_X3_readLines_75, e_X3_readLines_76, e_X3_readLines_77, e_X3_readLines_78, e_X3_readLines_81, e_X3_readLines_82, e_X3_readLines_84, e_X3_readLines_86, e_X3_readLines_87, e_X3_readLines_88, e_X3_readLines_89, e_X3_readLines_92, e_X3_readLines_93, e_X3_readLines_94, e_X3_readLines_95, e_X3_readLines_96, e_X3_readLines_98, e_X3_readLines_99, e_X3_readLines_101, e_X3_readLines_104, e_X3_readLines_106, e_X3_readLines_108, e_X3_readLines_111, e_X3_readLines_112, e_X3_readLines_114, e_X3_readLines_117, e_X3_readLines_119, e_X3_readLines_122, e_X3_readLines_125, e_X3_readLines_127, e_X3_readLines_129, e_X3_readLines_132, e_X3_readLines_133, e_X3_readLines_136, e_X3_readLines_137, e_X3_readLines_139, e_X3_readLines_142, e_X3_readLines_143, e_X3_readLines_146, e_X3_readLines_147, e_X3_readLines_148, e_X3_readLines_149, e_X3_readLines_150, e_X3_readLines_152, e_X3_readLines_153, e_X3_readLines_154, e_X3_readLines_155, e_X3_readLines_157, e_X3_readLines_158, e_X3_readLines_159, e_X3_readLines_161, e_X3_readLines_164, e_X3_readLines_165, e_X3_readLines_167, e_X3_readLines_168, e_X3_readLines_169, e_X3_readLines_172, e_X3_readLines_175, e_X3_readLines_176, e_X3_readLines_179, e_X3_readLines_181, e_X3_readLines_184, e_X3_readLines_186, e_X3_readLines_189, e_X3_readLines_190, e_X3_readLines_193, e_X3_readLines_194, e_X3_readLines_195, e_X3_readLines_196, e_X3_readLines_197, e_X3_readLines_198, e_X3_readLines_199, e_X3_readLines_200, e_X3_readLines_201, e_X3_readLines_204, ob_1, ob_5, rk_5_1, ar_6, rk_5_2, ar_7, kcl_i, kcl_r, kcl_l, kcl_0, kcl_n, true_and, and_true, jpF (show z < to by omega) (by omega), if_false, hat, ef, z10, Int32.sub_add_cancel, e8, jp88, if_true]
    · rw [if_neg c1] at hbad
      have h4' := h4 (by simpa using c1)
      have ef : fl s = 0 := if_neg c1
      by_cases c3 : isTh (T z - 97)
      · have c4 : T z - 97 < Int32.ofNat s.2.2.1 := Classical.byContradiction fun q => hbad.2 ⟨c3, q⟩
        simp only [e_X3_readLines_0, e_X3_readLines_1, e_X3_readLines_4, e_X3_readLines_6, e_X3_readLines_9, e_X3_readLines_10, e_X3_readLines_11, e_X3_readLines_14, e_X3_readLines_15, e_X3_readLines_16, e_X3_readLines_17, e_X3_readLines_18, e_X3_readLines_20, e_X3_readLines_21, e_X3_readLines_23, e_X3_readLines_24, e_X3_readLines_28, e_X3_readLines_29, e_X3_readLines_32, e_X3_readLines_33, e_X3_readLines_35, e_X3_readLines_38, e_X3_readLines_40, e_X3_readLines_42, e_X3_readLines_44, e_X3_readLines_45, e_X3_readLines_47, e_X3_readLines_49, e_X3_readLines_52, e_X3_readLines_55, e_X3_readLines_56, e_X3_readLines_58, e_X3_readLines_61, e_X3_readLines_63, e_X3_readLines_65, e_X3_readLines_66, e_X3_readLines_69, e_X3_readLines_72, e_X3_readLines_73, e_X3_readLines_75, e_X3_readLines_76, e_X3_readLines_77, e_X3_readLines_78, e_X3_readLines_81, e_X3_readLines_82, e_X3_readLines_84, e_X3_readLines_86, e_X3_readLines_87, e_X3_readLines_88, e_X3_readLines_89, e_X3_readLines_92, e_X3_readLines_93, e_X3_readLines_94, e_X3_readLines_95, e_X3_readLines_96, e_X3_readLines_98, e_X3_readLines_99, e_X3_readLines_101, e_X3_readLines_104, e_X3_readLines_106, e_X3_readLines_108, e_X3_readLines_111, e_X3_readLines_112, e_X3_readLines_114, e_X3_readLines_117, e_X3_readLines_119, e_X3_readLines_122, e_X3_readLines_125, e_X3_readLines_127, e_X3_readLines_129, e_X3_readLines_132, e_X3_readLines_133, e_X3_readLines_136, e_X3_readLines_137, e_X3_readLines_139, e_X3_readLines_142, e_X3_readLines_143, e_X3_readLines_146, e_X3_readLines_147, e_X3_readLines_148, e_X3_readLines_149, e_X3_readLines_150, e_X3_readLines_152, e_X3_readLines_153, e_X3_readLines_154, e_X3_readLines_155, e_X3_readLines_157, e_X3_readLines_158, e_X3_readLines_159, e_X3_readLines_161, e_X3_readLines_164, e_X3_readLines_165, e_X3_readLines_167, e_X3_readLines_168, e_X3_readLines_169, e_X3_readLines_172, e_X3_readLines_175, e_X3_readLines_176, e_X3_readLines_179, e_X3_readLines_181, e_X3_readLines_184, e_X3_readLines_186, e_X3_readLines_189, e_X3_readLines_190, e_X3_readLines_193, e_X3_readLines_194, e_X3_readLines_195, e_X3_readLines_196, e_X3_readLines_197, e_X3_readLines_198, e_X3_readLines_199, e_X3_readLines_200, e_X3_readLines_201, e_X3_readLines_204, ob_1, ob_5, rk_5_1, ar_6, rk_5_2, ar_7, kcl_i, kcl_r, kcl_l, kcl_0, kcl_n, true_and, and_true, jpF (show z < to by omega) (by omega), if_false, hat, ef, if_true, hbad.1, not_false_eq_true, c_isThing, kb_0, c3, not_true_eq_false, c4]
      · simp only [e_X3_readLines_0, e_X3_readLines_1, e_X3_readLines_4, e_X3_readLines_6, e_X3_readLines_9, e_X3_readLines_10, e_X3_readLines_11, e_X3_readLines_14, e_X3_readLines_15, e_X3_readLines_16, e_X3_readLines_17, e_X3_readLines_18, e_X3_readLines_20, e_X3_readLines_21, e_X3_readLines_23, e_X3_readLines_24, e_X3_readLines_28, e_X3_readLines_29, e_X3_readLines_32, e_X3_readLines_33, e_X3_readLines_35, e_X3_readLines_38, e_X3_readLines_40, e_X3_readLines_42, e_X3_readLines_44, e_X3_readLines_45, e_X3_readLines_47, e_X3_readLines_49, e_X3_readLines_52, e_X3_readLines_55, e_X3_readLines_56, e_X3_readLines_58, e_X3_readLines_61, e_X3_readLines_63, e_X3_readLines_65, e_X3_readLines_66, e_X3_readLines_69, e_X3_readLines_72, e_X3_readLines_73, e_X3_readLines_75, e_X3_readLines_76, e_X3_readLines_77, e_X3_readLines_78, e_X3_readLines_81, e_X3_readLines_82, e_X3_readLines_84, e_X3_readLines_86, e_X3_readLines_87, e_X3_readLines_88, e_X3_readLines_89, e_X3_readLines_92, e_X3_readLines_93, e_X3_readLines_94, e_X3_readLines_95, e_X3_readLines_96, e_X3_readLines_98, e_X3_readLines_99, e_X3_readLines_101, e_X3_readLines_104, e_X3_readLines_106, e_X3_readLines_108, e_X3_readLines_111, e_X3_readLines_112, e_X3_readLines_114, e_X3_readLines_117, e_X3_readLines_119, e_X3_readLines_122, e_X3_readLines_125, e_X3_readLines_127, e_X3_readLines_129, e_X3_readLines_132, e_X3_readLines_133, e_X3_readLines_136, e_X3_readLines_137, e_X3_readLines_139, e_X3_readLines_142, e_X3_readLines_143, e_X3_readLines_146, e_X3_readLines_147, e_X3_readLines_148, e_X3_readLines_149, e_X3_readLines_150, e_X3_readLines_152, e_X3_readLines_153, e_X3_readLines_154, e_X3_readLines_155, e_X3_readLines_157, e_X3_readLines_158, e_X3_readLines_159, e_X3_readLines_161, e_X3_readLines_164, e_X3_readLines_165, e_X3_readLines_167, e_X3_readLines_168, e_X3_readLines_169, e_X3_readLines_172, e_X3_readLines_175, e_X3_readLines_176, e_X3_readLines_179, e_X3_readLines_181, e_X3_readLines_184, e_X3_readLines_186, e_X3_readLines_189, e_X3_readLines_190, e_X3_readLines_193, e_X3_readLines_194, e_X3_readLines_195, e_X3_readLines_196, e_X3_readLines_197, e_X3_readLines_198, e_X3_readLines_199, e_X3_readLines_200, e_X3_readLines_201, e_X3_readLines_204, ob_1, ob_5, rk_5_1, ar_6, rk_5_2, ar_7, kcl_i, kcl_r, kcl_l, kcl_0, kcl_n, true_and, and_true, jpF (show z < to by omega) (by omega), if_false, hat, ef, if_true, hbad.1, not_false_eq_true, c_isThing, kb_0, c3]
  · intro hz K
    obtain ⟨u7, u8, e⟩ := c_signs (sc := sc) (d := d) (cu := cu) (su := su) (i := i) (l := l) (f := f) (t := t) (sp := sp) (K := K) (T := T) (v7 := .retAddr 0) (v8 := .retAddr 0) hn h80 hT h8 hto' to (Nat.le_refl _) (fun x hx => kfi_none hz x (Nat.zero_le _) (by omega))
    refine ⟨u7, u8, ?_⟩
    simp only [e_X3_readLines_0, e_X3_readLines_1, e_X3_readLines_4, e_X3_readLines_6, e_X3_readLines_9, e_X3_readLines_10, e_X3_readLines_11, e_X3_readLines_14, e_X3_readLines_15, e_X3_readLines_16, e_X3_readLines_17, e_X3_readLines_18, e_X3_readLines_20, e_X3_readLines_21, e_X3_readLines_23, e_X3_readLines_24, e_X3_readLines_28, e_X3_readLines_29, e_X3_readLines_32, e_X3_readLines_33, e_X3_readLines_35, e_X3_readLines_38, e_X3_readLines_40, e_X3_readLines_42, e_X3_readLines_44, e_X3_readLines_45, e_X3_readLines_47, e_X3_readLines_49, e_X3_readLines_52, e_X3_readLines_55, e_X3_readLines_56, e_X3_readLines_58, e_X3_readLines_61, e_X3_readLines_63, e_X3_readLines_65, e_X3_readLines_66, e_X3_readLines_69, e_X3_readLines_72, e_X3_readLines_73, e_X3_readLines_75, e_X3_readLines_76, e_X3_readLines_77, e_X3_readLines_78, e_X3_readLines_81, e_X3_readLines_82, e_X3_readLines_84, e_X3_readLines_86, e_X3_readLines_87, e_X3_readLines_88, e_X3_readLines_89, e_X3_readLines_92, e_X3_readLines_93, e_X3_readLines_94, e_X3_readLines_95, e_X3_readLines_96, e_X3_readLines_98, e_X3_readLines_99, e_X3_readLines_101, e_X3_readLines_104, e_X3_readLines_106, e_X3_readLines_108, e_X3_readLines_111, e_X3_readLines_112, e_X3_readLines_114, e_X3_readLines_117, e_X3_readLines_119, e_X3_readLines_122, e_X3_readLines_125, e_X3_readLines_127, e_X3_readLines_129, e_X3_readLines_132, e_X3_readLines_133, e_X3_readLines_136, e_X3_readLines_137, e_X3_readLines_139, e_X3_readLines_142, e_X3_readLines_143, e_X3_readLines_146, e_X3_readLines_147, e_X3_readLines_148, e_X3_readLines_149, e_X3_readLines_150, e_X3_readLines_152, e_X3_readLines_153, e_X3_readLines_154, e_X3_readLines_155, e_X3_readLines_157, e_X3_readLines_158, e_X3_readLines_159, e_X3_readLines_161, e_X3_readLines_164, e_X3_readLines_165, e_X3_readLines_167, e_X3_readLines_168, e_X3_readLines_169, e_X3_readLines_172, e_X3_readLines_176, e_X3_readLines_179, e_X3_readLines_181, e_X3_readLines_184, e_X3_readLines_186, e_X3_readLines_189, e_X3_readLines_190, e_X3_readLines_193, e_X3_readLines_194, e_X3_readLines_195, e_X3_readLines_196, e_X3_readLines_197, e_X3_readLines_198, e_X3_readLines_199, e_X3_readLines_200, e_X3_readLines_201, e_X3_readLines_204, ob_1, ob_5, rk_5_1, ar_6, rk_5_2, ar_7, kcl_i, kcl_r, kcl_l, kcl_0, kcl_n, true_and, and_true, hn, hm, emin]
    refine e.trans ?_
    refine e_X3_readLines_26.trans ?_
    simp only [e_X3_readLines_0, e_X3_readLines_1, e_X3_readLines_4, e_X3_readLines_6, e_X3_readLines_9, e_X3_readLines_10, e_X3_readLines_11, e_X3_readLines_14, e_X3_readLines_15, e_X3_readLines_16, e_X3_readLines_17, e_X3_readLines_18, e_X3_readLines_20, e_X3_readLines_21, e_X3_readLines_23, e_X3_readLines_24, e_X3_readLines_28, e_X3_readLines_29, e_X3_readLines_32, e_X3_readLines_33, e_X3_readLines_35, e_X3_readLines_38, e_X3_readLines_40, e_X3_readLines_42, e_X3_readLines_44, e_X3_readLines_45, e_X3_readLines_47, e_X3_readLines_49, e_X3_readLines_52, e_X3_readLines_55, e_X3_readLines_56, e_X3_readLines_58, e_X3_readLines_61, e_X3_readLines_63, e_X3_readLines_65, e_X3_readLines_66, e_X3_readLines_69, e_X3_readLines_72, e_X3_readLines_73, e_X3_readLines_75, e_X3_readLines_76, e_X3_readLines_77, e_X3_readLines_78, e_X3_readLines_81, e_X3_readLines_82, e_X3_readLines_84, e_X3_readLines_86, e_X3_readLines_87, e_X3_readLines_88, e_X3_readLines_89, e_X3_readLines_92, e_X3_readLines_93, e_X3_readLines_94, e_X3_readLines_95, e_X3_readLines_96, e_X3_readLines_98, e_X3_readLines_99, e_X3_readLines_101, e_X3_readLines_104, e_X3_readLines_106, e_X3_readLines_108, e_X3_readLines_111, e_X3_readLines_112, e_X3_readLines_114, e_X3_readLines_117, e_X3_readLines_119, e_X3_readLines_122, e_X3_readLines_125, e_X3_readLines_127, e_X3_readLines_129, e_X3_readLines_132, e_X3_readLines_133, e_X3_readLines_136, e_X3_readLines_137, e_X3_readLines_139, e_X3_readLines_142, e_X3_readLines_143, e_X3_readLines_146, e_X3_readLines_147, e_X3_readLines_148, e_X3_readLines_149, e_X3_readLines_150, e_X3_readLines_152, e_X3_readLines_153, e_X3_readLines_154, e_X3_readLines_155, e_X3_readLines_157, e_X3_readLines_158, e_X3_readLines_159, e_X3_readLines_161, e_X3_readLines_164, e_X3_readLines_165, e_X3_readLines_167, e_X3_readLines_168, e_X3_readLines_169, e_X3_readLines_172, e_X3_readLines_176, e_X3_readLines_179, e_X3_readLines_181, e_X3_readLines_184, e_X3_readLines_186, e_X3_readLines_189, e_X3_readLines_190, e_X3_readLines_193, e_X3_readLines_194, e_X3_readLines_195, e_X3_readLines_196, e_X3_readLines_197, e_X3_readLines_198, e_X3_readLines_199, e_X3_readLines_200, e_X3_readLines_201, e_X3_readLines_204, ob_1, ob_5, rk_5_1, ar_6, rk_5_2, ar_7, kcl_i, kcl_r, kcl_l, kcl_0, kcl_n, true_and, and_true, Int32.le_refl, if_true]
/-- the end of the text is no end of the lines -/
abbrev cEnd (n to : Nat) (s : CS) : Prop := 79 < n ∨ (s.2.1 = true ∧ 0 < to)
theorem c_council {to : Nat} (hn : i 1 1 = Int32.ofNat n) (h80 : n ≤ 80) (hT : ∀ x, x < n → i 2 x = T x) (hm : i 5 0 = Int32.ofNat m) (h8 : m ≤ 8) (hto : to = min n 79) :
    (∀ z, cFt T m (i 6) (i 7) to = some z → CC 98 [.ref 0] i l f t sp (.int (-1 - Int32.ofNat z)) (kupi (pS i (cSt T m (i 6) (i 7) z).2.2.2.1 (cSt T m (i 6) (i 7) z).2.2.2.2) 1 1 0) l f t sp) ∧
    (cFt T m (i 6) (i 7) to = none → cEnd n to (cSt T m (i 6) (i 7) to) → CC 98 [.ref 0] i l f t sp (.int (-1 - Int32.ofNat to)) (kupi (pS i (cSt T m (i 6) (i 7) to).2.2.2.1 (cSt T m (i 6) (i 7) to).2.2.2.2) 1 1 0) l f t sp) := by
  have neg1 : ∀ z, z < 100000 → (-1 - Int32.ofNat z ≤ 0) = True := fun z hz => eq_true (by
    rw [Int32.le_iff_toInt_le]
    have e1 : (Int32.ofNat z).toInt = z := Int32.toInt_ofNat_of_lt (by omega)
    have e2 : (-1 - Int32.ofNat z).toInt = -1 - (z : Int) := by
      rw [Int32.toInt_sub, e1, show (-1 : Int32).toInt = -1 from by decide]
      apply Int.bmod_eq_of_le <;> omega
    rw [e2, show (0 : Int32).toInt = 0 from by decide]; omega)
  constructor
  · intro z hz sc d y nx hd L st cu su K
    have hz1 := kfi_some hz
    have P := fun (y nx : Nat) (L st : List Value) (hd : List (Int × Nat)) (K : Option (Option Value) → kS → Prop) => kCA_of (sc := sc) (d := d + 498) (z := 31) (as := [.ref 5, .ref 1]) (y := y) (nx := nx) (hd := hd) (L := L) (st := st) (S := ((120, cu, su), i, l, kR f t sp)) (S2 := ((120, cu, su), pS i (cSt T m (i 6) (i 7) z).2.2.2.1 (cSt T m (i 6) (i 7) z).2.2.2.2, l, kR f t sp)) (v := some (.int (-1 - Int32.ofNat z))) (K := K) (fun K => by
      rw [km_31]
      exact (c_readLines (sc := sc) (d := d + 496) (cu := cu) (su := su) (l := l) (f := f) (t := t) (sp := sp) hn h80 hT hm h8 hto).1 z hz K)
    refine kCA_of (d := d + 499) (v := some (.int _)) (fun K => ?_)
    rw [km_98]
    show kWP sc (d + 499) 98 0 [.ref 0, .retAddr 0] [] _ K = _
    simp only [e_X10_council_0, e_X10_council_1, e_X10_council_4, e_X10_council_5, e_X10_council_8, e_X10_council_11, e_X10_council_12, e_X10_council_13, e_X10_council_16, e_X10_council_19, e_X10_council_20, e_X10_council_23, e_X10_council_24, e_X10_council_27, e_X10_council_30, e_X10_council_31, ob_0, rk_0_2, rk_0_0, ob_5, ob_1, rk_0_5, ob_16, kcl_i, kcl_r, kcl_l, kcl_0, kcl_n, true_and, and_true]
    rw [show d + 499 = d + 498 + 1 from rfl, P]
    show kWP sc (d + 498 + 1) _ _ _ [.int (-1 - Int32.ofNat z)] _ K = _
    simp only [e_X10_council_0, e_X10_council_1, e_X10_council_4, e_X10_council_5, e_X10_council_8, e_X10_council_11, e_X10_council_12, e_X10_council_13, e_X10_council_16, e_X10_council_19, e_X10_council_20, e_X10_council_23, e_X10_council_24, e_X10_council_27, e_X10_council_30, e_X10_council_31, ob_0, rk_0_2, rk_0_0, ob_5, ob_1, rk_0_5, ob_16, kcl_i, kcl_r, kcl_l, kcl_0, kcl_n, true_and, and_true, c_empty, neg1 z (by omega), if_true]
  · intro hz hE sc d y nx hd L st cu su K
    have P := fun (y nx : Nat) (L st : List Value) (hd : List (Int × Nat)) (K : Option (Option Value) → kS → Prop) => kCA_of (sc := sc) (d := d + 498) (z := 31) (as := [.ref 5, .ref 1]) (y := y) (nx := nx) (hd := hd) (L := L) (st := st) (S := ((120, cu, su), i, l, kR f t sp)) (S2 := ((120, cu, su), pS i (cSt T m (i 6) (i 7) to).2.2.2.1 (cSt T m (i 6) (i 7) to).2.2.2.2, l, kR f t sp)) (v := some (.int (-1 - Int32.ofNat to))) (K := K) (fun K => by
      rw [km_31]
      obtain ⟨v7, v8, e⟩ := (c_readLines (sc := sc) (d := d + 496) (cu := cu) (su := su) (l := l) (f := f) (t := t) (sp := sp) hn h80 hT hm h8 hto).2 hz K
      refine e.trans ?_
      have e79 : ((79 : Int32) < Int32.ofNat n) = (79 < n) := by rw [show (79 : Int32) = Int32.ofNat 79 from rfl, tn_lt (by decide) (by omega)]
      simp only [e_X3_readLines_0, e_X3_readLines_1, e_X3_readLines_4, e_X3_readLines_6, e_X3_readLines_9, e_X3_readLines_10, e_X3_readLines_11, e_X3_readLines_14, e_X3_readLines_15, e_X3_readLines_16, e_X3_readLines_17, e_X3_readLines_18, e_X3_readLines_20, e_X3_readLines_21, e_X3_readLines_23, e_X3_readLines_24, e_X3_readLines_28, e_X3_readLines_29, e_X3_readLines_32, e_X3_readLines_33, e_X3_readLines_35, e_X3_readLines_38, e_X3_readLines_40, e_X3_readLines_42, e_X3_readLines_44, e_X3_readLines_45, e_X3_readLines_47, e_X3_readLines_49, e_X3_readLines_52, e_X3_readLines_55, e_X3_readLines_56, e_X3_readLines_58, e_X3_readLines_61, e_X3_readLines_63, e_X3_readLines_65, e_X3_readLines_66, e_X3_readLines_69, e_X3_readLines_72, e_X3_readLines_73, e_X3_readLines_75, e_X3_readLines_76, e_X3_readLines_77, e_X3_readLines_78, e_X3_readLines_81, e_X3_readLines_82, e_X3_readLines_84, e_X3_readLines_86, e_X3_readLines_87, e_X3_readLines_88, e_X3_readLines_89, e_X3_readLines_92, e_X3_readLines_93, e_X3_readLines_94, e_X3_readLines_95, e_X3_readLines_96, e_X3_readLines_98, e_X3_readLines_99, e_X3_readLines_101, e_X3_readLines_104, e_X3_readLines_106, e_X3_readLines_108, e_X3_readLines_111, e_X3_readLines_112, e_X3_readLines_114, e_X3_readLines_117, e_X3_readLines_119, e_X3_readLines_122, e_X3_readLines_125, e_X3_readLines_127, e_X3_readLines_129, e_X3_readLines_132, e_X3_readLines_133, e_X3_readLines_136, e_X3_readLines_137, e_X3_readLines_139, e_X3_readLines_142, e_X3_readLines_143, e_X3_readLines_146, e_X3_readLines_147, e_X3_readLines_148, e_X3_readLines_149, e_X3_readLines_150, e_X3_readLines_152, e_X3_readLines_153, e_X3_readLines_154, e_X3_readLines_155, e_X3_readLines_157, e_X3_readLines_158, e_X3_readLines_159, e_X3_readLines_161, e_X3_readLines_164, e_X3_readLines_165, e_X3_readLines_167, e_X3_readLines_168, e_X3_readLines_169, e_X3_readLines_172, e_X3_readLines_175, e_X3_readLines_176, e_X3_readLines_179, e_X3_readLines_181, e_X3_readLines_184, e_X3_readLines_186, e_X3_readLines_189, e_X3_readLines_190, e_X3_readLines_193, e_X3_readLines_194, e_X3_readLines_195, e_X3_readLines_196, e_X3_readLines_197, e_X3_readLines_198, e_X3_readLines_199, e_X3_readLines_200, e_X3_readLines_201, e_X3_readLines_204, ob_1, ob_5, rk_5_1, ar_6, rk_5_2, ar_7, kcl_i, kcl_r, kcl_l, kcl_0, kcl_n, true_and, and_true, pS_o (show 1 ≠ 6 by decide) (show 1 ≠ 7 by decide), hn, e79]
      by_cases c : 79 < n
      · simp only [c, if_true]
      · have hE2 : (cSt T m (i 6) (i 7) to).2.1 = true ∧ 0 < to := by
          rcases hE with q | q
          · exact absurd q c
          · exact q
        have ef : fl (cSt T m (i 6) (i 7) to) = 1 := if_pos hE2.1
        simp only [c, if_false, ef, z10, le0_nat (show to < 100000 by omega), hE2.2, not_true_eq_false])
    refine kCA_of (d := d + 499) (v := some (.int _)) (fun K => ?_)
    rw [km_98]
    show kWP sc (d + 499) 98 0 [.ref 0, .retAddr 0] [] _ K = _
    simp only [e_X10_council_0, e_X10_council_1, e_X10_council_4, e_X10_council_5, e_X10_council_8, e_X10_council_11, e_X10_council_12, e_X10_council_13, e_X10_council_16, e_X10_council_19, e_X10_council_20, e_X10_council_23, e_X10_council_24, e_X10_council_27, e_X10_council_30, e_X10_council_31, ob_0, rk_0_2, rk_0_0, ob_5, ob_1, rk_0_5, ob_16, kcl_i, kcl_r, kcl_l, kcl_0, kcl_n, true_and, and_true]
    rw [show d + 499 = d + 498 + 1 from rfl, P]
    show kWP sc (d + 498 + 1) _ _ _ [.int (-1 - Int32.ofNat to)] _ K = _
    simp only [e_X10_council_0, e_X10_council_1, e_X10_council_4, e_X10_council_5, e_X10_council_8, e_X10_council_11, e_X10_council_12, e_X10_council_13, e_X10_council_16, e_X10_council_19, e_X10_council_20, e_X10_council_23, e_X10_council_24, e_X10_council_27, e_X10_council_30, e_X10_council_31, ob_0, rk_0_2, rk_0_0, ob_5, ob_1, rk_0_5, ob_16, kcl_i, kcl_r, kcl_l, kcl_0, kcl_n, true_and, and_true, c_empty, neg1 to (by omega), if_true]
end TC
