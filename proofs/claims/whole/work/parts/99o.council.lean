/-! council: the reference reads a man -/
section TC
variable {sc : Nat × (Nat → Int32)} {d y nx : Nat} {hd : List (Int × Nat)} {L st : List Value} {S : kS} {cu su : Nat} {i : Nat → Nat → Int32} {l : Nat → Nat → Int64} {f t c b m : Nat} {sp : Nat → Nat} {K : Option (Option Value) → kS → Prop}
variable {N M Z S1 Q A b w R : Nat → Int32} {i1 i2 i3 j : Nat → Nat → Int32} {l2 : Nat → Nat → Int64} {n n2 k x a o g c : Nat} {v r p q : Int32} {T : Nat → Int32}
/-- what is read, how many -/
def kS2 (i : Nat → Nat → Int32) (R : Nat → Int32) (k : Nat) : Nat → Nat → Int32 := fun c z => if c = 99 then R z else if c = 91 ∧ z = 16 then Int32.ofNat k else i c z
theorem kS2_99 : kS2 i R k 99 = R := by funext z; unfold kS2; rw [if_pos rfl]
theorem kS2_16 : kS2 i R k 91 16 = Int32.ofNat k := rfl
theorem kS2_o {c : Nat} (h1 : c ≠ 99) (h2 : c ≠ 91) : kS2 i R k c = i c := by funext z; unfold kS2; rw [if_neg h1, if_neg (fun e => h2 e.1)]
theorem kS2_f {z : Nat} (h : z ≠ 16) : kS2 i R k 91 z = i 91 z := by unfold kS2; rw [if_neg (by decide), if_neg (fun e => h e.2)]
theorem kU_99 {x : Nat} {v : Int32} : kupi (tS (kS2 i R k) a o g) 99 x v = tS (kS2 i (kuf R x v) k) a o g := by
  rw [tU (by decide)]
  congr 1
  funext c z; unfold kupi kS2 kuf
  by_cases h1 : c = 99
  · subst h1; by_cases h2 : z = x
    · simp [h2]
    · simp [h2]
  · simp [h1]
theorem kU_16 {k2 : Nat} : kupi (tS (kS2 i R k) a o g) 91 16 (Int32.ofNat k2) = tS (kS2 i R k2) a o g := by
  funext c z; unfold kupi tS kS2
  by_cases h : c = 91 ∧ z = 16
  · obtain ⟨rfl, rfl⟩ := h; rfl
  · simp only [h, if_false]
/-- the letters' place -/
def thA (T : Nat → Int32) (o x : Nat) : Int32 := if x < o then pAm (kchr 1000006) 8 (T x) else -1
/-- the letters that follow: where they end, what they are -/
def lets (T : Nat → Int32) (o : Nat) : Nat → Nat → Int32 → Nat × Int32
  | 0, x, v => (x, v)
  | f + 1, x, v => if thA T o x < 0 ∨ ¬ v >>> (thA T o x &&& 31) = 0 then (x, v) else lets T o f (x + 1) (v ||| (1 <<< (thA T o x &&& 31)))
theorem str6 : (kStA ≤ 1000006 ∧ 1000006 < kStA + kStr.length) ∧ kstl 1000006 = 8 := by decide +kernel
theorem l_lets {v1 : Int32} (ho : o ≤ 80) (hT : ∀ x, x < o → i 98 x = T x) (h0 : ¬ R v1.toNatClampNeg ≤ 0) (hv1 : kin v1 16 = True) : ∀ (F x : Nat) (v : Int32), x ≤ o → o - x ≤ F → kWP sc (d + 3) 180 38 [.ref 91, .int v1, .int v] [] ((120, cu, su), tS (kS2 i R k) x o g, l, kR f t sp) K = kWP sc (d + 3) 180 81 [.ref 91, .int v1, .int (lets T o F x v).2] [] ((120, cu, su), tS (kS2 i R k) (lets T o F x v).1 o g, l, kR f t sp) K := by
  intro F
  have e98 : kS2 i R k 98 = i 98 := kS2_o (by decide) (by decide)
  have eth : ∀ x, (if x < o then pAm (kchr 1000006) 8 (kS2 i R k 98 x) else -1) = thA T o x := fun x => by
    unfold thA
    by_cases c : x < o
    · rw [if_pos c, if_pos c, e98, hT x c]
    · rw [if_neg c, if_neg c]
  have end0 : ∀ x v, x ≤ o → (thA T o x < 0 ∨ ¬ v >>> (thA T o x &&& 31) = 0) → kWP sc (d + 3) 180 38 [.ref 91, .int v1, .int v] [] ((120, cu, su), tS (kS2 i R k) x o g, l, kR f t sp) K = kWP sc (d + 3) 180 81 [.ref 91, .int v1, .int v] [] ((120, cu, su), tS (kS2 i R k) x o g, l, kR f t sp) K := by
    intro x v hx hc
    refine e_X11_readsMan_38.trans ?_
    simp only [e_X11_readsMan_0, e_X11_readsMan_1, e_X11_readsMan_4, e_X11_readsMan_5, e_X11_readsMan_8, e_X11_readsMan_9, e_X11_readsMan_11, e_X11_readsMan_14, e_X11_readsMan_15, e_X11_readsMan_16, e_X11_readsMan_17, e_X11_readsMan_18, e_X11_readsMan_21, e_X11_readsMan_22, e_X11_readsMan_23, e_X11_readsMan_24, e_X11_readsMan_27, e_X11_readsMan_28, e_X11_readsMan_29, e_X11_readsMan_30, e_X11_readsMan_32, e_X11_readsMan_35, e_X11_readsMan_36, e_X11_readsMan_37, e_X11_readsMan_39, e_X11_readsMan_42, e_X11_readsMan_43, e_X11_readsMan_44, e_X11_readsMan_47, e_X11_readsMan_48, e_X11_readsMan_50, e_X11_readsMan_53, e_X11_readsMan_56, e_X11_readsMan_57, e_X11_readsMan_58, e_X11_readsMan_60, e_X11_readsMan_63, e_X11_readsMan_64, e_X11_readsMan_67, e_X11_readsMan_68, e_X11_readsMan_69, e_X11_readsMan_70, e_X11_readsMan_72, e_X11_readsMan_75, e_X11_readsMan_76, e_X11_readsMan_77, e_X11_readsMan_78, e_X11_readsMan_82, e_X11_readsMan_85, e_X11_readsMan_86, e_X11_readsMan_87, e_X11_readsMan_88, e_X11_readsMan_89, e_X11_readsMan_90, e_X11_readsMan_91, e_X11_readsMan_92, e_X11_readsMan_95, e_X11_readsMan_96, e_X11_readsMan_97, e_X11_readsMan_100, e_X11_readsMan_101, e_X11_readsMan_104, e_X11_readsMan_105, e_X11_readsMan_106, e_X11_readsMan_109, e_X11_readsMan_110, e_X11_readsMan_113, e_X11_readsMan_114, ob_91, rk_91_15, ar_99, kcl_i, kcl_r, kcl_l, kcl_0, kcl_n, true_and, and_true, tS_o (show 99 ≠ 91 by decide), kS2_99, hv1, true_and, h0, if_false, m_among ho hx str6.1 str6.2 (show 8 < 100000 by decide), eth]
    by_cases c1 : thA T o x < 0
    · simp only [c1, if_true]
    · have c2 : ¬ v >>> (thA T o x &&& 31) = 0 := by
        rcases hc with z | z
        · exact absurd z c1
        · exact z
      simp only [c1, c2, if_false, not_false_eq_true, if_true]
  induction F with
  | zero =>
    intro x v hx hF
    have : x = o := by omega
    subst this
    refine end0 x v (Nat.le_refl _) (Or.inl ?_)
    unfold thA
    rw [if_neg (by omega)]; decide
  | succ F ih =>
    intro x v hx hF
    rw [lets]
    by_cases c : thA T o x < 0 ∨ ¬ v >>> (thA T o x &&& 31) = 0
    · rw [if_pos c]
      exact end0 x v hx c
    · rw [if_neg c]
      have c1 : ¬ thA T o x < 0 := fun z => c (Or.inl z)
      have c2 : v >>> (thA T o x &&& 31) = 0 := Classical.byContradiction fun z => c (Or.inr z)
      have hxo : x < o := Classical.byContradiction fun z => c1 (by unfold thA; rw [if_neg z]; decide)
      have c3 : ¬ pAm (kchr 1000006) 8 (kS2 i R k 98 x) = -1 := fun z => c1 (by rw [← eth x, if_pos hxo, z]; decide)
      have e5 : pAm (kchr 1000006) 8 (kS2 i R k 98 x) = thA T o x := by rw [← eth x, if_pos hxo]
      have c4 : ¬ thA T o x = -1 := by rw [← e5]; exact c3
      refine Eq.trans ?_ (ih (x + 1) (v ||| (1 <<< (thA T o x &&& 31))) (by omega) (by omega))
      refine e_X11_readsMan_38.trans ?_
      simp only [e_X11_readsMan_0, e_X11_readsMan_1, e_X11_readsMan_4, e_X11_readsMan_5, e_X11_readsMan_8, e_X11_readsMan_9, e_X11_readsMan_11, e_X11_readsMan_14, e_X11_readsMan_15, e_X11_readsMan_16, e_X11_readsMan_17, e_X11_readsMan_18, e_X11_readsMan_21, e_X11_readsMan_22, e_X11_readsMan_23, e_X11_readsMan_24, e_X11_readsMan_27, e_X11_readsMan_28, e_X11_readsMan_29, e_X11_readsMan_30, e_X11_readsMan_32, e_X11_readsMan_35, e_X11_readsMan_36, e_X11_readsMan_37, e_X11_readsMan_39, e_X11_readsMan_42, e_X11_readsMan_43, e_X11_readsMan_44, e_X11_readsMan_47, e_X11_readsMan_48, e_X11_readsMan_50, e_X11_readsMan_53, e_X11_readsMan_56, e_X11_readsMan_57, e_X11_readsMan_58, e_X11_readsMan_60, e_X11_readsMan_63, e_X11_readsMan_64, e_X11_readsMan_67, e_X11_readsMan_68, e_X11_readsMan_69, e_X11_readsMan_70, e_X11_readsMan_72, e_X11_readsMan_75, e_X11_readsMan_76, e_X11_readsMan_77, e_X11_readsMan_78, e_X11_readsMan_82, e_X11_readsMan_85, e_X11_readsMan_86, e_X11_readsMan_87, e_X11_readsMan_88, e_X11_readsMan_89, e_X11_readsMan_90, e_X11_readsMan_91, e_X11_readsMan_92, e_X11_readsMan_95, e_X11_readsMan_96, e_X11_readsMan_97, e_X11_readsMan_100, e_X11_readsMan_101, e_X11_readsMan_104, e_X11_readsMan_105, e_X11_readsMan_106, e_X11_readsMan_109, e_X11_readsMan_110, e_X11_readsMan_113, e_X11_readsMan_114, ob_91, rk_91_15, ar_99, kcl_i, kcl_r, kcl_l, kcl_0, kcl_n, true_and, and_true, tS_o (show 99 ≠ 91 by decide), kS2_99, hv1, true_and, h0, if_false, m_among ho hx str6.1 str6.2 (show 8 < 100000 by decide), hxo, e5, c1, c2, c4, not_true_eq_false, m_takesOf ho hx str6.1 str6.2 (show 8 < 100000 by decide), not_false_eq_true, and_self, if_true]
end TC
