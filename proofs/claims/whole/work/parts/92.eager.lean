/-! the reference's EAGERNESS and turns -/
section TC
variable {sc : Nat × (Nat → Int32)} {d y nx : Nat} {hd : List (Int × Nat)} {L st : List Value} {S : kS} {cu su : Nat} {i : Nat → Nat → Int32} {l : Nat → Nat → Int64} {f t c b m : Nat} {sp : Nat → Nat} {K : Option (Option Value) → kS → Prop}
variable {M Z S1 Q : Nat → Int32}
def pWork (q a b : Int32) : Int32 := if q = 0 then (if b ≤ a then 0 else 1) else if q = 1 then (if a ≤ b then 0 else 1) else if q = 2 then (if a = b then 1 else 0) else if q = 3 then a + b else if q = 4 then a - b else if q = 5 then a * b else (if b = 0 then 0 else a / b)
theorem one0 : ((1 : Int32) = 0) = False := eq_false (by decide)
theorem m_worked {q p v : Int32} : kCA sc (d + 2) 188 [.int q, .int p, .int v] y nx hd L st ((120, cu, su), i, l, kR f t sp) K = kWP sc (d + 2) y nx L (.int (pWork q p v) :: st) ((120, cu, su), i, l, kR f t sp) K := by
  refine kCA_of (d := d + 1) (v := some (.int (pWork q p v))) (S2 := ((120, cu, su), i, l, kR f t sp)) (fun K => ?_)
  rw [km_188]
  show kWP sc (d + 1) 188 0 [.int q, .int p, .int v] [] ((120, cu, su), i, l, kR f t sp) K = K (some (some (.int (pWork q p v)))) ((120, cu, su), i, l, kR f t sp)
  simp only [e_X11_worked_0, e_X11_worked_1, e_X11_worked_40, e_X11_worked_41, e_X11_worked_42, e_X11_worked_45, e_X11_worked_46, e_X11_worked_49, e_X11_worked_50, e_X11_worked_53, e_X11_worked_54, e_X11_worked_55, e_X11_worked_56, e_X11_worked_59, e_X11_worked_60, e_X11_worked_63, e_X11_worked_64, e_X11_worked_67, e_X11_worked_68, e_X11_worked_69, e_X11_worked_70, e_X11_worked_73, e_X11_worked_74, e_X11_worked_77, e_X11_worked_78, e_X11_worked_81, e_X11_worked_82, e_X11_worked_83, e_X11_worked_84, e_X11_worked_85, e_X11_worked_86, e_X11_worked_87, e_X11_worked_88, e_X11_worked_89, e_X11_worked_90, e_X11_worked_91, e_X11_worked_92, e_X11_worked_93, e_X11_worked_94, e_X11_worked_95, e_X11_worked_98, e_X11_worked_99, e_X11_worked_102, e_X11_worked_103, e_X11_worked_104, e_X11_worked_105, kcl_i, kcl_r, kcl_l, kcl_0, kcl_n, true_and, and_true, m_flag, one0, if_true, if_false]
  unfold pWork
  by_cases k0 : q = 0
  · subst k0; simp only [if_true]
    by_cases w : v ≤ p <;> simp [w]
  by_cases k1 : q = 1
  · subst k1; simp only [if_true, z10, if_false]
    by_cases w : p ≤ v <;> simp [w]
  by_cases k2 : q = 2
  · subst k2; simp only [if_true, z20, z21, if_false]
    by_cases w : p = v <;> simp [w]
  by_cases k3 : q = 3
  · subst k3; simp
  by_cases k4 : q = 4
  · subst k4; simp
  by_cases k5 : q = 5
  · subst k5; simp
  simp only [k0, k1, k2, k3, k4, k5, if_false]
  by_cases w : v = 0
  · simp [w]
  · simp [w]
def rDep (code : Nat → Int32) : Nat → Nat
  | 0 => 0
  | k + 1 => if code k = 3000 then rDep code k else if code k < 2000 then rDep code k + 1 else rDep code k - 1
def rWf (code : Nat → Int32) (n : Nat) : Prop := ∀ k, k < n → (code k = 3000 → 1 ≤ rDep code k) ∧ (¬ code k = 3000 → ¬ code k < 2000 → 2 ≤ rDep code k) ∧ (code k < 2000 → ¬ code k < 1000 → code k < 1007)
theorem rDep_le {code : Nat → Int32} : ∀ k, rDep code k ≤ k := by
  intro k
  induction k with
  | zero => exact Nat.le_refl 0
  | succ k ih => unfold rDep; split; omega; split; omega; omega
def gRul (code ask : Nat → Int32) (x : Nat) (S1 : Nat → Int32) : Nat → Int32 := if code x = 3000 then kuf S1 (rDep code x - 1) (-(S1 (rDep code x - 1))) else if code x < 2000 then kuf S1 (rDep code x) (if code x < 1000 then code x else ask (code x - 1000).toNatClampNeg) else kuf S1 (rDep code x - 2) (pWork (code x - 2000) (S1 (rDep code x - 2)) (S1 (rDep code x - 1)))
def sRul (code ask : Nat → Int32) (n : Nat) (S1 : Nat → Int32) : Nat → Int32 := kfo (gRul code ask) n S1
def pRul (code ask : Nat → Int32) (n : Nat) (S1 : Nat → Int32) : Int32 := if n = 0 then 3 * ask 0 - ask 2 + ask 1 else sRul code ask n S1 0
theorem tn_subn {a : Nat} (h : 0 < a) : Int32.ofNat a + -1 = Int32.ofNat (a - 1) := by rw [Int32.add_neg_eq_sub, tn_sub h]
theorem m_ruled {n : Nat} (hb : mRow b = true) (hn : i 91 19 = Int32.ofNat n) (h40 : n ≤ 40) (hw : rWf (i 100) n) : kCA sc (d + 3) 189 [.ref 91] y nx hd L st ((120, cu, su), mPut i b M Z S1 Q, l, kR f t sp) K = kWP sc (d + 3) y nx L (.int (pRul (i 100) Q n S1) :: st) ((120, cu, su), mPut i b M Z (sRul (i 100) Q n S1) Q, l, kR f t sp) K := by
  refine kCA_of (d := d + 2) (v := some (.int (pRul (i 100) Q n S1))) (S2 := ((120, cu, su), mPut i b M Z (sRul (i 100) Q n S1) Q, l, kR f t sp)) (fun K => ?_)
  rw [km_189]
  show kWP sc (d + 2) 189 0 [.ref 91, .retAddr 0, .retAddr 0, .retAddr 0] [] ((120, cu, su), mPut i b M Z S1 Q, l, kR f t sp) K = K (some (some (.int (pRul (i 100) Q n S1)))) ((120, cu, su), mPut i b M Z (sRul (i 100) Q n S1) Q, l, kR f t sp)
  simp only [e_X11_ruled_0, e_X11_ruled_1, e_X11_ruled_2, e_X11_ruled_3, e_X11_ruled_5, e_X11_ruled_6, e_X11_ruled_9, e_X11_ruled_12, e_X11_ruled_13, e_X11_ruled_16, e_X11_ruled_17, e_X11_ruled_18, e_X11_ruled_19, e_X11_ruled_20, e_X11_ruled_23, e_X11_ruled_26, e_X11_ruled_27, e_X11_ruled_30, e_X11_ruled_31, e_X11_ruled_32, e_X11_ruled_33, e_X11_ruled_34, e_X11_ruled_37, e_X11_ruled_38, e_X11_ruled_39, e_X11_ruled_40, e_X11_ruled_41, e_X11_ruled_42, e_X11_ruled_43, e_X11_ruled_46, e_X11_ruled_47, e_X11_ruled_50, e_X11_ruled_53, e_X11_ruled_56, e_X11_ruled_57, e_X11_ruled_60, e_X11_ruled_61, e_X11_ruled_62, e_X11_ruled_63, e_X11_ruled_64, e_X11_ruled_67, e_X11_ruled_68, e_X11_ruled_69, e_X11_ruled_72, e_X11_ruled_73, e_X11_ruled_74, e_X11_ruled_75, e_X11_ruled_76, e_X11_ruled_77, e_X11_ruled_80, e_X11_ruled_81, e_X11_ruled_82, e_X11_ruled_85, e_X11_ruled_86, e_X11_ruled_89, e_X11_ruled_90, e_X11_ruled_93, e_X11_ruled_94, e_X11_ruled_95, e_X11_ruled_98, e_X11_ruled_101, e_X11_ruled_102, e_X11_ruled_105, e_X11_ruled_106, e_X11_ruled_109, e_X11_ruled_110, e_X11_ruled_111, e_X11_ruled_114, e_X11_ruled_115, e_X11_ruled_116, e_X11_ruled_119, e_X11_ruled_122, e_X11_ruled_125, e_X11_ruled_126, e_X11_ruled_129, e_X11_ruled_132, e_X11_ruled_133, e_X11_ruled_134, e_X11_ruled_137, e_X11_ruled_138, e_X11_ruled_139, e_X11_ruled_140, e_X11_ruled_141, e_X11_ruled_144, e_X11_ruled_145, e_X11_ruled_146, e_X11_ruled_147, e_X11_ruled_148, e_X11_ruled_151, e_X11_ruled_152, e_X11_ruled_153, e_X11_ruled_154, e_X11_ruled_157, e_X11_ruled_158, e_X11_ruled_161, e_X11_ruled_162, e_X11_ruled_163, ob_91, rk_91_17, ar_100, rk_91_21, ar_102, rk_91_22, ar_103, kcl_i, kcl_r, kcl_l, kcl_0, kcl_n, true_and, and_true]
  have R := k_for (P := fun x (w : (Nat → Int32) × Value) => kWP sc (d + 2) 189 4 [.ref 91, .int (Int32.ofNat (rDep (i 100) x)), .int (Int32.ofNat x), w.2] [] ((120, cu, su), mPut i b M Z w.1 Q, l, kR f t sp) K) (n := n) (g := fun x w => (gRul (i 100) Q x w.1, .int (i 100 x))) ?_ (S1, .retAddr 0)
  · have G : (kfo (fun x (w : (Nat → Int32) × Value) => (gRul (i 100) Q x w.1, Value.int (i 100 x))) n (S1, .retAddr 0)).1 = sRul (i 100) Q n S1 := kfo_rel (R := fun _ (a : (Nat → Int32) × Value) b => a.1 = b) (fun x a b _ h => by subst h; rfl) rfl
    refine R.trans ?_
    rw [G]
    refine e_X11_ruled_4.trans ?_
    simp only [e_X11_ruled_0, e_X11_ruled_1, e_X11_ruled_2, e_X11_ruled_3, e_X11_ruled_5, e_X11_ruled_6, e_X11_ruled_9, e_X11_ruled_12, e_X11_ruled_13, e_X11_ruled_16, e_X11_ruled_17, e_X11_ruled_18, e_X11_ruled_19, e_X11_ruled_20, e_X11_ruled_23, e_X11_ruled_26, e_X11_ruled_27, e_X11_ruled_30, e_X11_ruled_31, e_X11_ruled_32, e_X11_ruled_33, e_X11_ruled_34, e_X11_ruled_37, e_X11_ruled_38, e_X11_ruled_39, e_X11_ruled_40, e_X11_ruled_41, e_X11_ruled_42, e_X11_ruled_43, e_X11_ruled_46, e_X11_ruled_47, e_X11_ruled_50, e_X11_ruled_53, e_X11_ruled_56, e_X11_ruled_57, e_X11_ruled_60, e_X11_ruled_61, e_X11_ruled_62, e_X11_ruled_63, e_X11_ruled_64, e_X11_ruled_67, e_X11_ruled_68, e_X11_ruled_69, e_X11_ruled_72, e_X11_ruled_73, e_X11_ruled_74, e_X11_ruled_75, e_X11_ruled_76, e_X11_ruled_77, e_X11_ruled_80, e_X11_ruled_81, e_X11_ruled_82, e_X11_ruled_85, e_X11_ruled_86, e_X11_ruled_89, e_X11_ruled_90, e_X11_ruled_93, e_X11_ruled_94, e_X11_ruled_95, e_X11_ruled_98, e_X11_ruled_101, e_X11_ruled_102, e_X11_ruled_105, e_X11_ruled_106, e_X11_ruled_109, e_X11_ruled_110, e_X11_ruled_111, e_X11_ruled_114, e_X11_ruled_115, e_X11_ruled_116, e_X11_ruled_119, e_X11_ruled_122, e_X11_ruled_125, e_X11_ruled_126, e_X11_ruled_129, e_X11_ruled_132, e_X11_ruled_133, e_X11_ruled_134, e_X11_ruled_137, e_X11_ruled_138, e_X11_ruled_139, e_X11_ruled_140, e_X11_ruled_141, e_X11_ruled_144, e_X11_ruled_145, e_X11_ruled_146, e_X11_ruled_147, e_X11_ruled_148, e_X11_ruled_151, e_X11_ruled_152, e_X11_ruled_153, e_X11_ruled_154, e_X11_ruled_157, e_X11_ruled_158, e_X11_ruled_161, e_X11_ruled_162, e_X11_ruled_163, ob_91, rk_91_17, ar_100, rk_91_21, ar_102, rk_91_22, ar_103, kcl_i, kcl_r, kcl_l, kcl_0, kcl_n, true_and, and_true, mP_f hb (show 19 < 25 ∨ 29 ≤ 19 by decide), hn, Int32.le_refl, if_true, show kin 0 7 = True from eq_true (by decide), show kin 1 7 = True from eq_true (by decide), show kin 2 7 = True from eq_true (by decide), show kin 0 80 = True from eq_true (by decide), show Int32.toNatClampNeg 0 = 0 from rfl, show Int32.toNatClampNeg 1 = 1 from rfl, show Int32.toNatClampNeg 2 = 2 from rfl, mP_q hb (show 0 < 7 by decide), mP_q hb (show 1 < 7 by decide), mP_q hb (show 2 < 7 by decide), mP_s hb (show 0 < 80 by decide), tn_z (show n < 2147483648 by omega)]
    unfold pRul
    by_cases q : n = 0
    · simp only [q, if_true]
    · simp only [q, if_false]
  · intro x ⟨S1, v⟩ hx
    have c1 : (Int32.ofNat n ≤ Int32.ofNat x) = False := by rw [tn_le (by omega) (by omega)]; exact eq_false (by omega)
    have c2 : kin (Int32.ofNat x) 80 = True := by rw [tn_kin (by omega)]; exact eq_true (by omega)
    have hd1 : rDep (i 100) x ≤ x := rDep_le x
    have hwx := hw x hx
    refine e_X11_ruled_4.trans ?_
    simp only [e_X11_ruled_0, e_X11_ruled_1, e_X11_ruled_2, e_X11_ruled_3, e_X11_ruled_5, e_X11_ruled_6, e_X11_ruled_9, e_X11_ruled_12, e_X11_ruled_13, e_X11_ruled_16, e_X11_ruled_17, e_X11_ruled_18, e_X11_ruled_19, e_X11_ruled_20, e_X11_ruled_23, e_X11_ruled_26, e_X11_ruled_27, e_X11_ruled_30, e_X11_ruled_31, e_X11_ruled_32, e_X11_ruled_33, e_X11_ruled_34, e_X11_ruled_37, e_X11_ruled_38, e_X11_ruled_39, e_X11_ruled_40, e_X11_ruled_41, e_X11_ruled_42, e_X11_ruled_43, e_X11_ruled_46, e_X11_ruled_47, e_X11_ruled_50, e_X11_ruled_53, e_X11_ruled_56, e_X11_ruled_57, e_X11_ruled_60, e_X11_ruled_61, e_X11_ruled_62, e_X11_ruled_63, e_X11_ruled_64, e_X11_ruled_67, e_X11_ruled_68, e_X11_ruled_69, e_X11_ruled_72, e_X11_ruled_73, e_X11_ruled_74, e_X11_ruled_75, e_X11_ruled_76, e_X11_ruled_77, e_X11_ruled_80, e_X11_ruled_81, e_X11_ruled_82, e_X11_ruled_85, e_X11_ruled_86, e_X11_ruled_89, e_X11_ruled_90, e_X11_ruled_93, e_X11_ruled_94, e_X11_ruled_95, e_X11_ruled_98, e_X11_ruled_101, e_X11_ruled_102, e_X11_ruled_105, e_X11_ruled_106, e_X11_ruled_109, e_X11_ruled_110, e_X11_ruled_111, e_X11_ruled_114, e_X11_ruled_115, e_X11_ruled_116, e_X11_ruled_119, e_X11_ruled_122, e_X11_ruled_125, e_X11_ruled_126, e_X11_ruled_129, e_X11_ruled_132, e_X11_ruled_133, e_X11_ruled_134, e_X11_ruled_137, e_X11_ruled_138, e_X11_ruled_139, e_X11_ruled_140, e_X11_ruled_141, e_X11_ruled_144, e_X11_ruled_145, e_X11_ruled_146, e_X11_ruled_147, e_X11_ruled_148, e_X11_ruled_151, e_X11_ruled_152, e_X11_ruled_153, e_X11_ruled_154, e_X11_ruled_157, e_X11_ruled_158, e_X11_ruled_161, e_X11_ruled_162, e_X11_ruled_163, ob_91, rk_91_17, ar_100, rk_91_21, ar_102, rk_91_22, ar_103, kcl_i, kcl_r, kcl_l, kcl_0, kcl_n, true_and, and_true, mP_f hb (show 19 < 25 ∨ 29 ≤ 19 by decide), hn, c1, c2, if_false, tn_cl (show x < 2147483648 by omega), mP_c hb (show 97 < 100 by decide) (show 100 < 102 by decide)]
    unfold gRul
    show _ = kWP sc (d + 2) 189 4 [.ref 91, .int (Int32.ofNat (if i 100 x = 3000 then rDep (i 100) x else if i 100 x < 2000 then rDep (i 100) x + 1 else rDep (i 100) x - 1)), _, _] _ _ K
    by_cases q1 : i 100 x = 3000
    · have w1 := hwx.1 q1
      have c3 : kin (Int32.ofNat (rDep (i 100) x - 1)) 80 = True := by rw [tn_kin (by omega)]; exact eq_true (by omega)
      simp only [q1, if_true, tn_sub (show 0 < rDep (i 100) x by omega), c3, tn_cl (show rDep (i 100) x - 1 < 2147483648 by omega), mP_s hb (show rDep (i 100) x - 1 < 80 by omega), mW_s hb (show rDep (i 100) x - 1 < 80 by omega), tn_s, true_and]
    · by_cases q2 : i 100 x < 2000
      · have c3 : kin (Int32.ofNat (rDep (i 100) x)) 80 = True := by rw [tn_kin (by omega)]; exact eq_true (by omega)
        by_cases q3 : i 100 x < 1000
        · simp only [q1, q2, q3, if_true, if_false, c3, tn_cl (show rDep (i 100) x < 2147483648 by omega), mW_s hb (show rDep (i 100) x < 80 by omega), tn_s, true_and]
        · have w3 := hwx.2.2 q2 q3
          have w4 : ∃ z, z < 7 ∧ i 100 x - 1000 = Int32.ofNat z := by
            have g0 : 0 ≤ i 100 x - 1000 := Int32.sub_nonneg_of_le (by decide) (Int32.not_lt.1 q3)
            have g1 : i 100 x - 1000 < 7 := by
              rw [Int32.lt_iff_toInt_lt, Int32.toInt_sub_of_le _ _ (by decide) (Int32.not_lt.1 q3)]
              rw [Int32.lt_iff_toInt_lt] at w3
              rw [show (1007 : Int32).toInt = 1007 from by decide] at w3
              rw [show (1000 : Int32).toInt = 1000 from by decide, show (7 : Int32).toInt = 7 from by decide]; omega
            exact tn_ex (m := 7) (by decide) g0 g1
          obtain ⟨z, hz, ez⟩ := w4
          have c4 : kin (Int32.ofNat z) 7 = True := by rw [tn_kin (by omega)]; exact eq_true hz
          simp only [q1, q2, q3, if_true, if_false, c3, ez, c4, tn_cl (show z < 2147483648 by omega), mP_q hb hz, tn_cl (show rDep (i 100) x < 2147483648 by omega), mW_s hb (show rDep (i 100) x < 80 by omega), tn_s, true_and]
      · have w1 := hwx.2.1 q1 q2
        have c3 : kin (Int32.ofNat (rDep (i 100) x - 1)) 80 = True := by rw [tn_kin (by omega)]; exact eq_true (by omega)
        have c4 : kin (Int32.ofNat (rDep (i 100) x - 2)) 80 = True := by rw [tn_kin (by omega)]; exact eq_true (by omega)
        have e4 : Int32.ofNat (rDep (i 100) x - 1) - 1 = Int32.ofNat (rDep (i 100) x - 2) := by rw [tn_sub (by omega)]; rfl
        simp only [q1, q2, if_false, tn_subn (show 0 < rDep (i 100) x by omega), e4, c3, c4, tn_cl (show rDep (i 100) x - 1 < 2147483648 by omega), tn_cl (show rDep (i 100) x - 2 < 2147483648 by omega), mP_s hb (show rDep (i 100) x - 1 < 80 by omega), mP_s hb (show rDep (i 100) x - 2 < 80 by omega), mW_s hb (show rDep (i 100) x - 2 < 80 by omega), tn_s, m_worked, e_X11_ruled_0, e_X11_ruled_1, e_X11_ruled_2, e_X11_ruled_3, e_X11_ruled_5, e_X11_ruled_6, e_X11_ruled_9, e_X11_ruled_12, e_X11_ruled_13, e_X11_ruled_16, e_X11_ruled_17, e_X11_ruled_18, e_X11_ruled_19, e_X11_ruled_20, e_X11_ruled_23, e_X11_ruled_26, e_X11_ruled_27, e_X11_ruled_30, e_X11_ruled_31, e_X11_ruled_32, e_X11_ruled_33, e_X11_ruled_34, e_X11_ruled_37, e_X11_ruled_38, e_X11_ruled_39, e_X11_ruled_40, e_X11_ruled_41, e_X11_ruled_42, e_X11_ruled_43, e_X11_ruled_46, e_X11_ruled_47, e_X11_ruled_50, e_X11_ruled_53, e_X11_ruled_56, e_X11_ruled_57, e_X11_ruled_60, e_X11_ruled_61, e_X11_ruled_62, e_X11_ruled_63, e_X11_ruled_64, e_X11_ruled_67, e_X11_ruled_68, e_X11_ruled_69, e_X11_ruled_72, e_X11_ruled_73, e_X11_ruled_74, e_X11_ruled_75, e_X11_ruled_76, e_X11_ruled_77, e_X11_ruled_80, e_X11_ruled_81, e_X11_ruled_82, e_X11_ruled_85, e_X11_ruled_86, e_X11_ruled_89, e_X11_ruled_90, e_X11_ruled_93, e_X11_ruled_94, e_X11_ruled_95, e_X11_ruled_98, e_X11_ruled_101, e_X11_ruled_102, e_X11_ruled_105, e_X11_ruled_106, e_X11_ruled_109, e_X11_ruled_110, e_X11_ruled_111, e_X11_ruled_114, e_X11_ruled_115, e_X11_ruled_116, e_X11_ruled_119, e_X11_ruled_122, e_X11_ruled_125, e_X11_ruled_126, e_X11_ruled_129, e_X11_ruled_132, e_X11_ruled_133, e_X11_ruled_134, e_X11_ruled_137, e_X11_ruled_138, e_X11_ruled_139, e_X11_ruled_140, e_X11_ruled_141, e_X11_ruled_144, e_X11_ruled_145, e_X11_ruled_146, e_X11_ruled_147, e_X11_ruled_148, e_X11_ruled_151, e_X11_ruled_152, e_X11_ruled_153, e_X11_ruled_154, e_X11_ruled_157, e_X11_ruled_158, e_X11_ruled_161, e_X11_ruled_162, e_X11_ruled_163, ob_91, rk_91_17, ar_100, rk_91_21, ar_102, rk_91_22, ar_103, kcl_i, kcl_r, kcl_l, kcl_0, kcl_n, true_and, and_true, true_and]
def qAsk (co br M Q : Nat → Int32) (m a : Nat) : Nat → Int32 := kuf (kuf (kuf (kuf (kuf (kuf (kuf Q 0 (pBC (pSay co (M 17) (M 18) (Int32.ofNat m) (Int32.ofNat a)))) 1 (br a)) 2 (M a)) 3 (M (8 + a))) 4 (kb ((M 16 >>> (Int32.ofNat a &&& 31)) &&& 1 = 1))) 5 (M 19)) 6 (M 20 - M 19)
def eRef (co br M Q : Nat → Int32) (m : Nat) (code : Nat → Int32) (n : Nat) (S1 : Nat → Int32) (a : Nat) : Int32 := pRul code (qAsk co br M Q m a) n S1
theorem tn_8 {a : Nat} : 8 + Int32.ofNat a = Int32.ofNat (8 + a) := (Int32.ofNat_add 8 a).symm
theorem m_eager {n a : Nat} (hb : mRow b = true) (h8 : m ≤ 8) (ha : a < m) (hn : i 91 19 = Int32.ofNat n) (h40 : n ≤ 40) (hw : rWf (i 100) n) : kCA sc (d + 4) 190 [.ref 91, .ref b, .int (Int32.ofNat a)] y nx hd L st ((120, cu, su), mPut i b M Z S1 Q, l, kR f t sp) K = kWP sc (d + 4) y nx L (.int (eRef (mCo i) (i 94) M Q m (i 100) n S1 a) :: st) ((120, cu, su), mPut i b M Z (sRul (i 100) (qAsk (mCo i) (i 94) M Q m a) n S1) (qAsk (mCo i) (i 94) M Q m a), l, kR f t sp) K := by
  refine kCA_of (d := d + 3) (v := some (.int (eRef (mCo i) (i 94) M Q m (i 100) n S1 a))) (S2 := ((120, cu, su), mPut i b M Z (sRul (i 100) (qAsk (mCo i) (i 94) M Q m a) n S1) (qAsk (mCo i) (i 94) M Q m a), l, kR f t sp)) (fun K => ?_)
  rw [km_190]
  show kWP sc (d + 3) 190 0 [.ref 91, .ref b, .int (Int32.ofNat a)] [] ((120, cu, su), mPut i b M Z S1 Q, l, kR f t sp) K = K (some (some (.int (eRef (mCo i) (i 94) M Q m (i 100) n S1 a)))) ((120, cu, su), mPut i b M Z (sRul (i 100) (qAsk (mCo i) (i 94) M Q m a) n S1) (qAsk (mCo i) (i 94) M Q m a), l, kR f t sp)
  have c2 : kin (Int32.ofNat a) 8 = True := by rw [tn_kin (by omega)]; exact eq_true (by omega)
  have c3 : kin (Int32.ofNat a) 25 = True := by rw [tn_kin (by omega)]; exact eq_true (by omega)
  have c4 : kin (Int32.ofNat (8 + a)) 25 = True := by rw [tn_kin (by omega)]; exact eq_true (by omega)
  simp only [e_X11_eager_0, e_X11_eager_1, e_X11_eager_4, e_X11_eager_5, e_X11_eager_6, e_X11_eager_7, e_X11_eager_8, e_X11_eager_11, e_X11_eager_14, e_X11_eager_15, e_X11_eager_16, e_X11_eager_19, e_X11_eager_20, e_X11_eager_21, e_X11_eager_24, e_X11_eager_25, e_X11_eager_26, e_X11_eager_27, e_X11_eager_28, e_X11_eager_31, e_X11_eager_32, e_X11_eager_33, e_X11_eager_34, e_X11_eager_35, e_X11_eager_36, e_X11_eager_37, e_X11_eager_40, e_X11_eager_41, e_X11_eager_42, e_X11_eager_44, e_X11_eager_45, e_X11_eager_46, e_X11_eager_47, e_X11_eager_48, e_X11_eager_49, e_X11_eager_52, e_X11_eager_53, e_X11_eager_54, e_X11_eager_56, e_X11_eager_57, e_X11_eager_58, e_X11_eager_61, e_X11_eager_64, e_X11_eager_65, e_X11_eager_66, e_X11_eager_69, e_X11_eager_70, e_X11_eager_71, e_X11_eager_73, e_X11_eager_74, e_X11_eager_75, e_X11_eager_76, e_X11_eager_79, e_X11_eager_81, e_X11_eager_82, e_X11_eager_84, e_X11_eager_85, e_X11_eager_86, e_X11_eager_88, e_X11_eager_89, e_X11_eager_90, e_X11_eager_91, e_X11_eager_92, e_X11_eager_95, ob_91, rk_91_22, ar_103, rk_91_6, ar_94, kcl_i, kcl_r, kcl_l, kcl_0, kcl_n, true_and, and_true, m_canSayR hb ha h8, c_bitCount, c2, c3, c4, tn_8, ar_b hb, tn_cl (show a < 2147483648 by omega), tn_cl (show 8 + a < 2147483648 by omega), show kin 0 7 = True from eq_true (by decide), show kin 1 7 = True from eq_true (by decide), show kin 2 7 = True from eq_true (by decide), show kin 3 7 = True from eq_true (by decide), show kin 4 7 = True from eq_true (by decide), show kin 5 7 = True from eq_true (by decide), show kin 6 7 = True from eq_true (by decide), show kin 16 25 = True from eq_true (by decide), show kin 19 25 = True from eq_true (by decide), show kin 20 25 = True from eq_true (by decide), show Int32.toNatClampNeg 0 = 0 from rfl, show Int32.toNatClampNeg 1 = 1 from rfl, show Int32.toNatClampNeg 2 = 2 from rfl, show Int32.toNatClampNeg 3 = 3 from rfl, show Int32.toNatClampNeg 4 = 4 from rfl, show Int32.toNatClampNeg 5 = 5 from rfl, show Int32.toNatClampNeg 6 = 6 from rfl, show Int32.toNatClampNeg 16 = 16 from rfl, show Int32.toNatClampNeg 19 = 19 from rfl, show Int32.toNatClampNeg 20 = 20 from rfl, mW_q hb (show 0 < 7 by decide), mW_q hb (show 1 < 7 by decide), mW_q hb (show 2 < 7 by decide), mW_q hb (show 3 < 7 by decide), mW_q hb (show 4 < 7 by decide), mW_q hb (show 5 < 7 by decide), mW_q hb (show 6 < 7 by decide), mP_r (show a < 25 by omega), mP_r (show 8 + a < 25 by omega), mP_r (show 16 < 25 by decide), mP_r (show 19 < 25 by decide), mP_r (show 20 < 25 by decide), mP_l hb (show 91 < 94 by decide) (show 94 < 96 by decide), m_has, m_flag, m_flagkb, m_ruled hb hn h40 hw]
  rfl
end TC
