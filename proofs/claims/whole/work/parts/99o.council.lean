/-! council: the reference reads a man -/
section TC
variable {sc : Nat × (Nat → Int32)} {d y nx : Nat} {hd : List (Int × Nat)} {L st : List Value} {S : kS} {cu su : Nat} {i : Nat → Nat → Int32} {l : Nat → Nat → Int64} {f t c b m : Nat} {sp : Nat → Nat} {K : Option (Option Value) → kS → Prop}
variable {N M Z S1 Q A b w R : Nat → Int32} {i1 i2 i3 j : Nat → Nat → Int32} {l2 : Nat → Nat → Int64} {n n2 k x a o g c : Nat} {v r p q : Int32} {T : Nat → Int32}
/-- what is read, how many -/
def kS2 (i : Nat → Nat → Int32) (R : Nat → Int32) (k : Nat) : Nat → Nat → Int32 := fun c z => if c = 99 then R z else if c = 91 ∧ z = 16 then Int32.ofNat k else i c z
theorem kS2_99 : kS2 i R k 99 = R := by funext z; unfold kS2; rw [if_pos rfl]
theorem kS2_16 : kS2 i R k 91 16 = Int32.ofNat k := rfl
theorem kS2_o {c : Nat} (h1 : c ≠ 99) (h2 : c ≠ 91) : kS2 i R k c = i c := by funext z; unfold kS2; rw [if_neg h1, if_neg (fun e => h2 e.1)]
theorem kS2_f {z : Nat} (h : z ≠ 16) : kS2 i R k 91 z = i 91 z := by unfold kS2; rw [if_neg (by decide), if_neg (fun e => h e.2)]
theorem kU_99 {x : Nat} {v : Int32} : kupi (tS (kS2 i R k) a o g) 99 x v = tS (kS2 i (kuf R x v) k) a o g := by
  rw [tU (by decide)]
  congr 1
  funext c z; unfold kupi kS2 kuf
  by_cases h1 : c = 99
  · subst h1; by_cases h2 : z = x
    · simp [h2]
    · simp [h2]
  · simp [h1]
theorem kU_16 {k2 : Nat} : kupi (tS (kS2 i R k) a o g) 91 16 (Int32.ofNat k2) = tS (kS2 i R k2) a o g := by
  funext c z; unfold kupi tS kS2
  by_cases h : c = 91 ∧ z = 16
  · obtain ⟨rfl, rfl⟩ := h; rfl
  · simp only [h, if_false]
/-- the letters' place -/
def thA (T : Nat → Int32) (o x : Nat) : Int32 := if x < o then pAm (kchr 1000006) 8 (T x) else -1
/-- the letters that follow: where they end, what they are -/
def lets (T : Nat → Int32) (o : Nat) : Nat → Nat → Int32 → Nat × Int32
  | 0, x, v => (x, v)
  | f + 1, x, v => if thA T o x < 0 ∨ ¬ v >>> (thA T o x &&& 31) = 0 then (x, v) else lets T o f (x + 1) (v ||| (1 <<< (thA T o x &&& 31)))
theorem str6 : (kStA ≤ 1000006 ∧ 1000006 < kStA + kStr.length) ∧ kstl 1000006 = 8 := by decide +kernel
theorem l_lets {v1 : Int32} (ho : o ≤ 80) (hT : ∀ x, x < o → i 98 x = T x) (h0 : ¬ R v1.toNatClampNeg ≤ 0) (hv1 : kin v1 16 = True) : ∀ (F x : Nat) (v : Int32), x ≤ o → o - x ≤ F → kWP sc (d + 3) 180 38 [.ref 91, .int v1, .int v] [] ((120, cu, su), tS (kS2 i R k) x o g, l, kR f t sp) K = kWP sc (d + 3) 180 81 [.ref 91, .int v1, .int (lets T o F x v).2] [] ((120, cu, su), tS (kS2 i R k) (lets T o F x v).1 o g, l, kR f t sp) K := by
  intro F
  have e98 : kS2 i R k 98 = i 98 := kS2_o (by decide) (by decide)
  have eth : ∀ x, (if x < o then pAm (kchr 1000006) 8 (kS2 i R k 98 x) else -1) = thA T o x := fun x => by
    unfold thA
    by_cases c : x < o
    · rw [if_pos c, if_pos c, e98, hT x c]
    · rw [if_neg c, if_neg c]
  have end0 : ∀ x v, x ≤ o → (thA T o x < 0 ∨ ¬ v >>> (thA T o x &&& 31) = 0) → kWP sc (d + 3) 180 38 [.ref 91, .int v1, .int v] [] ((120, cu, su), tS (kS2 i R k) x o g, l, kR f t sp) K = kWP sc (d + 3) 180 81 [.ref 91, .int v1, .int v] [] ((120, cu, su), tS (kS2 i R k) x o g, l, kR f t sp) K := by
    intro x v hx hc
    refine e_X11_readsMan_38.trans ?_
    simp only [e_X11_readsMan_0, e_X11_readsMan_1, e_X11_readsMan_4, e_X11_readsMan_5, e_X11_readsMan_8, e_X11_readsMan_9, e_X11_readsMan_11, e_X11_readsMan_14, e_X11_readsMan_15, e_X11_readsMan_16, e_X11_readsMan_17, e_X11_readsMan_18, e_X11_readsMan_21, e_X11_readsMan_22, e_X11_readsMan_23, e_X11_readsMan_24, e_X11_readsMan_27, e_X11_readsMan_28, e_X11_readsMan_29, e_X11_readsMan_30, e_X11_readsMan_32, e_X11_readsMan_35, e_X11_readsMan_36, e_X11_readsMan_37, e_X11_readsMan_39, e_X11_readsMan_42, e_X11_readsMan_43, e_X11_readsMan_44, e_X11_readsMan_47, e_X11_readsMan_48, e_X11_readsMan_50, e_X11_readsMan_53, e_X11_readsMan_56, e_X11_readsMan_57, e_X11_readsMan_58, e_X11_readsMan_60, e_X11_readsMan_63, e_X11_readsMan_64, e_X11_readsMan_67, e_X11_readsMan_68, e_X11_readsMan_69, e_X11_readsMan_70, e_X11_readsMan_72, e_X11_readsMan_75, e_X11_readsMan_76, e_X11_readsMan_77, e_X11_readsMan_78, e_X11_readsMan_82, e_X11_readsMan_85, e_X11_readsMan_86, e_X11_readsMan_87, e_X11_readsMan_88, e_X11_readsMan_89, e_X11_readsMan_90, e_X11_readsMan_91, e_X11_readsMan_92, e_X11_readsMan_95, e_X11_readsMan_96, e_X11_readsMan_97, e_X11_readsMan_100, e_X11_readsMan_101, e_X11_readsMan_104, e_X11_readsMan_105, e_X11_readsMan_106, e_X11_readsMan_109, e_X11_readsMan_110, e_X11_readsMan_113, e_X11_readsMan_114, ob_91, rk_91_15, ar_99, kcl_i, kcl_r, kcl_l, kcl_0, kcl_n, true_and, and_true, tS_o (show 99 ≠ 91 by decide), kS2_99, hv1, true_and, h0, if_false, m_among ho hx str6.1 str6.2 (show 8 < 100000 by decide), eth]
    by_cases c1 : thA T o x < 0
    · simp only [c1, if_true]
    · have c2 : ¬ v >>> (thA T o x &&& 31) = 0 := by
        rcases hc with z | z
        · exact absurd z c1
        · exact z
      simp only [c1, c2, if_false, not_false_eq_true, if_true]
  induction F with
  | zero =>
    intro x v hx hF
    have : x = o := by omega
    subst this
    refine end0 x v (Nat.le_refl _) (Or.inl ?_)
    unfold thA
    rw [if_neg (by omega)]; decide
  | succ F ih =>
    intro x v hx hF
    rw [lets]
    by_cases c : thA T o x < 0 ∨ ¬ v >>> (thA T o x &&& 31) = 0
    · rw [if_pos c]
      exact end0 x v hx c
    · rw [if_neg c]
      have c1 : ¬ thA T o x < 0 := fun z => c (Or.inl z)
      have c2 : v >>> (thA T o x &&& 31) = 0 := Classical.byContradiction fun z => c (Or.inr z)
      have hxo : x < o := Classical.byContradiction fun z => c1 (by unfold thA; rw [if_neg z]; decide)
      have c3 : ¬ pAm (kchr 1000006) 8 (kS2 i R k 98 x) = -1 := fun z => c1 (by rw [← eth x, if_pos hxo, z]; decide)
      have e5 : pAm (kchr 1000006) 8 (kS2 i R k 98 x) = thA T o x := by rw [← eth x, if_pos hxo]
      have c4 : ¬ thA T o x = -1 := by rw [← e5]; exact c3
      refine Eq.trans ?_ (ih (x + 1) (v ||| (1 <<< (thA T o x &&& 31))) (by omega) (by omega))
      refine e_X11_readsMan_38.trans ?_
      simp only [e_X11_readsMan_0, e_X11_readsMan_1, e_X11_readsMan_4, e_X11_readsMan_5, e_X11_readsMan_8, e_X11_readsMan_9, e_X11_readsMan_11, e_X11_readsMan_14, e_X11_readsMan_15, e_X11_readsMan_16, e_X11_readsMan_17, e_X11_readsMan_18, e_X11_readsMan_21, e_X11_readsMan_22, e_X11_readsMan_23, e_X11_readsMan_24, e_X11_readsMan_27, e_X11_readsMan_28, e_X11_readsMan_29, e_X11_readsMan_30, e_X11_readsMan_32, e_X11_readsMan_35, e_X11_readsMan_36, e_X11_readsMan_37, e_X11_readsMan_39, e_X11_readsMan_42, e_X11_readsMan_43, e_X11_readsMan_44, e_X11_readsMan_47, e_X11_readsMan_48, e_X11_readsMan_50, e_X11_readsMan_53, e_X11_readsMan_56, e_X11_readsMan_57, e_X11_readsMan_58, e_X11_readsMan_60, e_X11_readsMan_63, e_X11_readsMan_64, e_X11_readsMan_67, e_X11_readsMan_68, e_X11_readsMan_69, e_X11_readsMan_70, e_X11_readsMan_72, e_X11_readsMan_75, e_X11_readsMan_76, e_X11_readsMan_77, e_X11_readsMan_78, e_X11_readsMan_82, e_X11_readsMan_85, e_X11_readsMan_86, e_X11_readsMan_87, e_X11_readsMan_88, e_X11_readsMan_89, e_X11_readsMan_90, e_X11_readsMan_91, e_X11_readsMan_92, e_X11_readsMan_95, e_X11_readsMan_96, e_X11_readsMan_97, e_X11_readsMan_100, e_X11_readsMan_101, e_X11_readsMan_104, e_X11_readsMan_105, e_X11_readsMan_106, e_X11_readsMan_109, e_X11_readsMan_110, e_X11_readsMan_113, e_X11_readsMan_114, ob_91, rk_91_15, ar_99, kcl_i, kcl_r, kcl_l, kcl_0, kcl_n, true_and, and_true, tS_o (show 99 ≠ 91 by decide), kS2_99, hv1, true_and, h0, if_false, m_among ho hx str6.1 str6.2 (show 8 < 100000 by decide), hxo, e5, c1, c2, c4, not_true_eq_false, m_takesOf ho hx str6.1 str6.2 (show 8 < 100000 by decide), not_false_eq_true, and_self, if_true]
theorem two_k {k : Nat} : (2 : Int32) * Int32.ofNat k = Int32.ofNat (2 * k) := by rw [show (2 : Int32) = Int32.ofNat 2 from rfl, mul_nat]
theorem m_readsMan {F : Nat} (hF : 80 ≤ F) (h91 : i 91 3 = Int32.ofNat m) (h8 : m + k ≤ 8) (ho : o ≤ 80) (hx : x ≤ o) (hT : ∀ x, x < o → i 98 x = T x) :
    (m + k = 8 → kCA sc (d + 4) 180 [.ref 91] y nx hd L st ((120, cu, su), tS (kS2 i R k) x o g, l, kR f t sp) K = kWP sc (d + 4) y nx L (.int 0 :: st) ((120, cu, su), tS (kS2 i R k) x o g, l, kR f t sp) K) ∧
    (m + k < 8 → ¬ (x < o ∧ dgIn (T x) 1 9 = true) → kCA sc (d + 4) 180 [.ref 91] y nx hd L st ((120, cu, su), tS (kS2 i R k) x o g, l, kR f t sp) K = kWP sc (d + 4) y nx L (.int 0 :: st) ((120, cu, su), tS (kS2 i (kuf (kuf R (2 * k) (-1)) (2 * k + 1) 0) (k + 1)) x o g, l, kR f t sp) K) ∧
    (m + k < 8 → x < o ∧ dgIn (T x) 1 9 = true → kCA sc (d + 4) 180 [.ref 91] y nx hd L st ((120, cu, su), tS (kS2 i R k) x o g, l, kR f t sp) K = kWP sc (d + 4) y nx L (.int 1 :: st) ((120, cu, su), tS (kS2 i (kuf (kuf R (2 * k) (T x - 48)) (2 * k + 1) (lets T o F (x + 1) 0).2) (k + 1)) (lets T o F (x + 1) 0).1 o g, l, kR f t sp) K) := by
  have e3 : ∀ R k a, tS (kS2 i R k) a o g 91 3 = Int32.ofNat m := fun R k a => by rw [tS_f (by decide) (by decide) (by decide), kS2_f (by decide)]; exact h91
  have e16 : ∀ R k a, tS (kS2 i R k) a o g 91 16 = Int32.ofNat k := fun R k a => by rw [tS_f (by decide) (by decide) (by decide), kS2_16]
  have e98 : ∀ R k, kS2 i R k 98 = i 98 := fun R k => kS2_o (by decide) (by decide)
  have e8 : (Int32.ofNat m + Int32.ofNat k = 8) = (m + k = 8) := by rw [← Int32.ofNat_add, show (8 : Int32) = Int32.ofNat 8 from rfl, tn_eq (by omega) (by decide)]
  have kn : ∀ c : Nat, c < 16 → kin (Int32.ofNat c) 16 = True := fun c hc => kin16 hc
  refine ⟨fun h => ?_, fun h hd' => ?_, fun h hd' => ?_⟩
  · refine kCA_of (d := d + 3) (v := some (.int 0)) (S2 := ((120, cu, su), tS (kS2 i R k) x o g, l, kR f t sp)) (fun K => ?_)
    rw [km_180]
    show kWP sc (d + 3) 180 0 [.ref 91, .retAddr 0, .retAddr 0] [] _ K = _
    simp only [e_X11_readsMan_0, e_X11_readsMan_1, e_X11_readsMan_4, e_X11_readsMan_5, e_X11_readsMan_8, e_X11_readsMan_9, e_X11_readsMan_11, e_X11_readsMan_14, e_X11_readsMan_15, e_X11_readsMan_16, e_X11_readsMan_17, e_X11_readsMan_18, e_X11_readsMan_21, e_X11_readsMan_22, e_X11_readsMan_23, e_X11_readsMan_24, e_X11_readsMan_27, e_X11_readsMan_28, e_X11_readsMan_29, e_X11_readsMan_30, e_X11_readsMan_32, e_X11_readsMan_35, e_X11_readsMan_36, e_X11_readsMan_37, e_X11_readsMan_39, e_X11_readsMan_42, e_X11_readsMan_43, e_X11_readsMan_44, e_X11_readsMan_47, e_X11_readsMan_48, e_X11_readsMan_50, e_X11_readsMan_53, e_X11_readsMan_56, e_X11_readsMan_57, e_X11_readsMan_58, e_X11_readsMan_60, e_X11_readsMan_63, e_X11_readsMan_64, e_X11_readsMan_67, e_X11_readsMan_68, e_X11_readsMan_69, e_X11_readsMan_70, e_X11_readsMan_72, e_X11_readsMan_75, e_X11_readsMan_76, e_X11_readsMan_77, e_X11_readsMan_78, e_X11_readsMan_81, e_X11_readsMan_82, e_X11_readsMan_85, e_X11_readsMan_86, e_X11_readsMan_87, e_X11_readsMan_88, e_X11_readsMan_89, e_X11_readsMan_90, e_X11_readsMan_91, e_X11_readsMan_92, e_X11_readsMan_95, e_X11_readsMan_96, e_X11_readsMan_97, e_X11_readsMan_100, e_X11_readsMan_101, e_X11_readsMan_104, e_X11_readsMan_105, e_X11_readsMan_106, e_X11_readsMan_109, e_X11_readsMan_110, e_X11_readsMan_113, e_X11_readsMan_114, ob_91, rk_91_15, ar_99, kcl_i, kcl_r, kcl_l, kcl_0, kcl_n, true_and, and_true, e3, e16, e8, h, not_true_eq_false, if_true, if_false, kbool_0, true_and]
  · have hq : ¬ (x < o ∧ dgIn (i 98 x) 1 9 = true) := fun z => hd' ⟨z.1, by rw [← hT x z.1]; exact z.2⟩
    refine kCA_of (d := d + 3) (v := some (.int 0)) (S2 := ((120, cu, su), tS (kS2 i (kuf (kuf R (2 * k) (-1)) (2 * k + 1) 0) (k + 1)) x o g, l, kR f t sp)) (fun K => ?_)
    rw [km_180]
    show kWP sc (d + 3) 180 0 [.ref 91, .retAddr 0, .retAddr 0] [] _ K = _
    have h8' : (m + k = 8) = False := eq_false (by omega)
    simp only [e_X11_readsMan_0, e_X11_readsMan_1, e_X11_readsMan_4, e_X11_readsMan_5, e_X11_readsMan_8, e_X11_readsMan_9, e_X11_readsMan_11, e_X11_readsMan_14, e_X11_readsMan_15, e_X11_readsMan_16, e_X11_readsMan_17, e_X11_readsMan_18, e_X11_readsMan_21, e_X11_readsMan_22, e_X11_readsMan_23, e_X11_readsMan_24, e_X11_readsMan_27, e_X11_readsMan_28, e_X11_readsMan_29, e_X11_readsMan_30, e_X11_readsMan_32, e_X11_readsMan_35, e_X11_readsMan_36, e_X11_readsMan_37, e_X11_readsMan_39, e_X11_readsMan_42, e_X11_readsMan_43, e_X11_readsMan_44, e_X11_readsMan_47, e_X11_readsMan_48, e_X11_readsMan_50, e_X11_readsMan_53, e_X11_readsMan_56, e_X11_readsMan_57, e_X11_readsMan_58, e_X11_readsMan_60, e_X11_readsMan_63, e_X11_readsMan_64, e_X11_readsMan_67, e_X11_readsMan_68, e_X11_readsMan_69, e_X11_readsMan_70, e_X11_readsMan_72, e_X11_readsMan_75, e_X11_readsMan_76, e_X11_readsMan_77, e_X11_readsMan_78, e_X11_readsMan_81, e_X11_readsMan_82, e_X11_readsMan_85, e_X11_readsMan_86, e_X11_readsMan_87, e_X11_readsMan_88, e_X11_readsMan_89, e_X11_readsMan_90, e_X11_readsMan_91, e_X11_readsMan_92, e_X11_readsMan_95, e_X11_readsMan_96, e_X11_readsMan_97, e_X11_readsMan_100, e_X11_readsMan_101, e_X11_readsMan_104, e_X11_readsMan_105, e_X11_readsMan_106, e_X11_readsMan_109, e_X11_readsMan_110, e_X11_readsMan_113, e_X11_readsMan_114, ob_91, rk_91_15, ar_99, kcl_i, kcl_r, kcl_l, kcl_0, kcl_n, true_and, and_true, e3, e16, e8, h8', not_false_eq_true, if_true, if_false, two_k, m_digitIn ho hx, e98, hq, kn (2 * k) (by omega), cl_n (show 2 * k < 100000 by omega), kU_99, true_and]
    refine e_X11_readsMan_38.trans ?_
    simp only [e_X11_readsMan_0, e_X11_readsMan_1, e_X11_readsMan_4, e_X11_readsMan_5, e_X11_readsMan_8, e_X11_readsMan_9, e_X11_readsMan_11, e_X11_readsMan_14, e_X11_readsMan_15, e_X11_readsMan_16, e_X11_readsMan_17, e_X11_readsMan_18, e_X11_readsMan_21, e_X11_readsMan_22, e_X11_readsMan_23, e_X11_readsMan_24, e_X11_readsMan_27, e_X11_readsMan_28, e_X11_readsMan_29, e_X11_readsMan_30, e_X11_readsMan_32, e_X11_readsMan_35, e_X11_readsMan_36, e_X11_readsMan_37, e_X11_readsMan_39, e_X11_readsMan_42, e_X11_readsMan_43, e_X11_readsMan_44, e_X11_readsMan_47, e_X11_readsMan_48, e_X11_readsMan_50, e_X11_readsMan_53, e_X11_readsMan_56, e_X11_readsMan_57, e_X11_readsMan_58, e_X11_readsMan_60, e_X11_readsMan_63, e_X11_readsMan_64, e_X11_readsMan_67, e_X11_readsMan_68, e_X11_readsMan_69, e_X11_readsMan_70, e_X11_readsMan_72, e_X11_readsMan_75, e_X11_readsMan_76, e_X11_readsMan_77, e_X11_readsMan_78, e_X11_readsMan_81, e_X11_readsMan_82, e_X11_readsMan_85, e_X11_readsMan_86, e_X11_readsMan_87, e_X11_readsMan_88, e_X11_readsMan_89, e_X11_readsMan_90, e_X11_readsMan_91, e_X11_readsMan_92, e_X11_readsMan_95, e_X11_readsMan_96, e_X11_readsMan_97, e_X11_readsMan_100, e_X11_readsMan_101, e_X11_readsMan_104, e_X11_readsMan_105, e_X11_readsMan_106, e_X11_readsMan_109, e_X11_readsMan_110, e_X11_readsMan_113, e_X11_readsMan_114, ob_91, rk_91_15, ar_99, kcl_i, kcl_r, kcl_l, kcl_0, kcl_n, true_and, and_true, tS_o (show 99 ≠ 91 by decide), kS2_99, kn (2 * k) (by omega), cl_n (show 2 * k < 100000 by omega), kuf_s, kuf_n (show 2 * k ≠ 2 * k + 1 by omega), show ((-1 : Int32) ≤ 0) = True from eq_true (by decide), if_true, tn_s, kn (2 * k + 1) (by omega), cl_n (show 2 * k + 1 < 100000 by omega), kU_99, kU_16, e16, kbool_0, true_and]
  · have hq : x < o ∧ dgIn (i 98 x) 1 9 = true := ⟨hd'.1, by rw [hT x hd'.1]; exact hd'.2⟩
    have hpos : ¬ T x - 48 ≤ 0 := fun z => (dgIn_iff.1 hd'.2).1 (Int32.lt_of_le_of_lt z (by decide))
    refine kCA_of (d := d + 3) (v := some (.int 1)) (S2 := ((120, cu, su), tS (kS2 i (kuf (kuf R (2 * k) (T x - 48)) (2 * k + 1) (lets T o F (x + 1) 0).2) (k + 1)) (lets T o F (x + 1) 0).1 o g, l, kR f t sp)) (fun K => ?_)
    rw [km_180]
    show kWP sc (d + 3) 180 0 [.ref 91, .retAddr 0, .retAddr 0] [] _ K = _
    have h8' : (m + k = 8) = False := eq_false (by omega)
    have W := l_lets (sc := sc) (d := d) (cu := cu) (su := su) (i := i) (l := l) (f := f) (t := t) (sp := sp) (K := K) (k := k) (g := g) (R := kuf R (2 * k) (T x - 48)) (v1 := Int32.ofNat (2 * k)) (T := T) ho hT (by rw [cl_n (by omega), kuf_s]; exact hpos) (kn (2 * k) (by omega)) F (x + 1) 0 (by omega) (by omega)
    simp only [e_X11_readsMan_0, e_X11_readsMan_1, e_X11_readsMan_4, e_X11_readsMan_5, e_X11_readsMan_8, e_X11_readsMan_9, e_X11_readsMan_11, e_X11_readsMan_14, e_X11_readsMan_15, e_X11_readsMan_16, e_X11_readsMan_17, e_X11_readsMan_18, e_X11_readsMan_21, e_X11_readsMan_22, e_X11_readsMan_23, e_X11_readsMan_24, e_X11_readsMan_27, e_X11_readsMan_28, e_X11_readsMan_29, e_X11_readsMan_30, e_X11_readsMan_32, e_X11_readsMan_35, e_X11_readsMan_36, e_X11_readsMan_37, e_X11_readsMan_39, e_X11_readsMan_42, e_X11_readsMan_43, e_X11_readsMan_44, e_X11_readsMan_47, e_X11_readsMan_48, e_X11_readsMan_50, e_X11_readsMan_53, e_X11_readsMan_56, e_X11_readsMan_57, e_X11_readsMan_58, e_X11_readsMan_60, e_X11_readsMan_63, e_X11_readsMan_64, e_X11_readsMan_67, e_X11_readsMan_68, e_X11_readsMan_69, e_X11_readsMan_70, e_X11_readsMan_72, e_X11_readsMan_75, e_X11_readsMan_76, e_X11_readsMan_77, e_X11_readsMan_78, e_X11_readsMan_81, e_X11_readsMan_82, e_X11_readsMan_85, e_X11_readsMan_86, e_X11_readsMan_87, e_X11_readsMan_88, e_X11_readsMan_89, e_X11_readsMan_90, e_X11_readsMan_91, e_X11_readsMan_92, e_X11_readsMan_95, e_X11_readsMan_96, e_X11_readsMan_97, e_X11_readsMan_100, e_X11_readsMan_101, e_X11_readsMan_104, e_X11_readsMan_105, e_X11_readsMan_106, e_X11_readsMan_109, e_X11_readsMan_110, e_X11_readsMan_113, e_X11_readsMan_114, ob_91, rk_91_15, ar_99, kcl_i, kcl_r, kcl_l, kcl_0, kcl_n, true_and, and_true, e3, e16, e8, h8', not_false_eq_true, if_true, if_false, two_k, m_digitIn ho hx, e98, hT x hd'.1, hd', and_self, kn (2 * k) (by omega), cl_n (show 2 * k < 100000 by omega), kU_99, true_and]
    refine W.trans ?_
    simp only [e_X11_readsMan_0, e_X11_readsMan_1, e_X11_readsMan_4, e_X11_readsMan_5, e_X11_readsMan_8, e_X11_readsMan_9, e_X11_readsMan_11, e_X11_readsMan_14, e_X11_readsMan_15, e_X11_readsMan_16, e_X11_readsMan_17, e_X11_readsMan_18, e_X11_readsMan_21, e_X11_readsMan_22, e_X11_readsMan_23, e_X11_readsMan_24, e_X11_readsMan_27, e_X11_readsMan_28, e_X11_readsMan_29, e_X11_readsMan_30, e_X11_readsMan_32, e_X11_readsMan_35, e_X11_readsMan_36, e_X11_readsMan_37, e_X11_readsMan_39, e_X11_readsMan_42, e_X11_readsMan_43, e_X11_readsMan_44, e_X11_readsMan_47, e_X11_readsMan_48, e_X11_readsMan_50, e_X11_readsMan_53, e_X11_readsMan_56, e_X11_readsMan_57, e_X11_readsMan_58, e_X11_readsMan_60, e_X11_readsMan_63, e_X11_readsMan_64, e_X11_readsMan_67, e_X11_readsMan_68, e_X11_readsMan_69, e_X11_readsMan_70, e_X11_readsMan_72, e_X11_readsMan_75, e_X11_readsMan_76, e_X11_readsMan_77, e_X11_readsMan_78, e_X11_readsMan_81, e_X11_readsMan_82, e_X11_readsMan_85, e_X11_readsMan_86, e_X11_readsMan_87, e_X11_readsMan_88, e_X11_readsMan_89, e_X11_readsMan_90, e_X11_readsMan_91, e_X11_readsMan_92, e_X11_readsMan_95, e_X11_readsMan_96, e_X11_readsMan_97, e_X11_readsMan_100, e_X11_readsMan_101, e_X11_readsMan_104, e_X11_readsMan_105, e_X11_readsMan_106, e_X11_readsMan_109, e_X11_readsMan_110, e_X11_readsMan_113, e_X11_readsMan_114, ob_91, rk_91_15, ar_99, kcl_i, kcl_r, kcl_l, kcl_0, kcl_n, true_and, and_true, tS_o (show 99 ≠ 91 by decide), kS2_99, kn (2 * k) (by omega), cl_n (show 2 * k < 100000 by omega), kuf_s, kuf_n (show 2 * k ≠ 2 * k + 1 by omega), hpos, if_false, tn_s, kn (2 * k + 1) (by omega), cl_n (show 2 * k + 1 < 100000 by omega), kU_99, kU_16, e16, kbool_1, true_and]
end TC
