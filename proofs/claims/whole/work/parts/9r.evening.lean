/-! an evening's text: both read it alike -/
section TC
variable {sc : Nat × (Nat → Int32)} {d y nx : Nat} {hd : List (Int × Nat)} {L st : List Value} {S : kS} {cu su : Nat} {i : Nat → Nat → Int32} {l : Nat → Nat → Int64} {f t c b m : Nat} {sp : Nat → Nat} {K : Option (Option Value) → kS → Prop}
variable {N M Z S1 Q A B C A' B' C' S : Nat → Int32} {n n2 k x a o g c h p to z x' : Nat} {v r q u : Int32} {T : Nat → Int32} {j : Nat → Nat → Int32}
/-- where the acts begin -/
def pos (T : Nat → Int32) : Nat → Nat
  | 0 => 0
  | k + 1 => pos T k + wid (T (pos T k))
def holds (T : Nat → Int32) (k : Nat) (A B C : Nat → Int32) : Prop := ∀ j, j < k → A j = sgO (T (pos T j)) ∧ B j = T (pos T j + 1) - 48 ∧ C j = thO T (pos T j) ∧ stA (T (pos T j)) 0 (T (pos T j)) ∧ isDg (T (pos T j + 1)) = true ∧ (wid (T (pos T j)) = 3 → stA (T (pos T j)) 2 (T (pos T j + 2)))
theorem eSt_b (hc : x = 0 ∨ x = eSt T x + wid (T (eSt T x))) : eSt T (x + 1) = x ∧ eSt T (x + 2) = x := by
  have e1 : eSt T (x + 1) = x := by
    rw [eSt_s]
    rcases hc with rfl | q
    · have := @wid_23 (T (eSt T 0))
      rw [if_neg (by omega)]; rfl
    · rw [if_pos q]
  refine ⟨e1, ?_⟩
  rw [eSt_s (x := x + 1), e1]
  have := @wid_23 (T x)
  rw [if_neg (by omega)]
theorem eSt_b3 (e2 : eSt T (x + 2) = x) (hw : wid (T x) = 3) : eSt T (x + 3) = x := by
  rw [eSt_s (x := x + 2), e2, if_neg (by omega)]
theorem st_1 {v w : Int32} : stA v 1 w ↔ isDg w = true := by
  unfold stA; rw [if_neg (by decide), if_neg (fun q => absurd q.1 (by decide))]
theorem acts_ok (ho : o ≤ 60) : ∀ (F k : Nat) (A B C : Nat → Int32), pos T k ≤ o → o - pos T k < F → 2 * k ≤ pos T k → holds T k A B C → (∀ z, z < pos T k → ¬ eBad T z) → (pos T k = 0 ∨ pos T k = eSt T (pos T k) + wid (T (eSt T (pos T k)))) → ∃ (v : Int32) (x' k' : Nat) (A' B' C' : Nat → Int32),
    (∀ (i : Nat → Nat → Int32), (∀ x, x < o → i 98 x = T x) → ∀ (sc : Nat × (Nat → Int32)) (d cu su : Nat) (l : Nat → Nat → Int64) (f t : Nat) (sp : Nat → Nat) (K : Option (Option Value) → kS → Prop) (g : Nat) (nn : Int32) (v3 v4 : Value), kWP sc (d + 4) 211 19 [.ref 91, .int nn, .int 1, v3, v4] [] ((120, cu, su), tS (kS4 i A B C k) (pos T k) o g, l, kR f t sp) K = kWP sc (d + 4) 211 42 [.ref 91, .int nn, .int v, v3, v4] [] ((120, cu, su), tS (kS4 i A' B' C' k') x' o g, l, kR f t sp) K) ∧ x' ≤ o ∧
    ((v = 1 ∧ x' = o ∧ pos T k' = o ∧ 2 * k' ≤ o ∧ holds T k' A' B' C' ∧ (∀ z, z < o → ¬ eBad T z) ∧ ¬ eCut T o) ∨ (v = 0 ∧ (∀ z, z < x' → ¬ eBad T z) ∧ (x' < o → eBad T x') ∧ (x' = o → eCut T o))) := by
  intro F
  induction F with
  | zero => intro k A B C _ h; omega
  | succ F ih =>
    intro k A B C hp hF h2k hh hb hc
    obtain ⟨b1, b2⟩ := eSt_b hc
    by_cases c0 : pos T k < o
    · obtain ⟨v, x', A', B', C', hm, hkeep, alt⟩ := act_ok (T := T) (A := A) (B := B) (C := C) (k := k) ho c0 (by omega)
      have w3 := @wid_23 (T (pos T k))
      rcases alt with ⟨a1, a2, a3, a4, a5, a6, a7, a8, a9⟩ | ⟨z1, z2⟩
      · subst a1
        have ep : pos T (k + 1) = pos T k + wid (T (pos T k)) := rfl
        rw [a2] at a3 hm
        have hb' : ∀ z, z < pos T (k + 1) → ¬ eBad T z := by
          intro z hz
          rw [ep] at hz
          by_cases q0 : z < pos T k
          · exact hb z q0
          · have : z = pos T k ∨ z = pos T k + 1 ∨ (z = pos T k + 2 ∧ wid (T (pos T k)) = 3) := by omega
            rcases this with rfl | rfl | ⟨rfl, w⟩
            · unfold eBad; rw [b1, Nat.sub_self, Classical.not_not]; exact a7
            · unfold eBad; rw [b2, show pos T k + 1 - pos T k = 1 by omega, Classical.not_not]; exact st_1.2 a8
            · unfold eBad; rw [eSt_b3 b2 w, show pos T k + 2 - pos T k = 2 by omega, Classical.not_not]; exact a9 w
        have hc' : pos T (k + 1) = 0 ∨ pos T (k + 1) = eSt T (pos T (k + 1)) + wid (T (eSt T (pos T (k + 1)))) := by
          right
          rw [ep]
          rcases w3 with w | w
          · rw [w, b2, w]
          · rw [w, eSt_b3 b2 w, w]
        have hh' : holds T (k + 1) A' B' C' := by
          intro j hj
          by_cases q : j = k
          · subst q; exact ⟨a4, a5, a6, a7, a8, a9⟩
          · have e := hkeep j (by omega)
            rw [e.1, e.2.1, e.2.2]; exact hh j (by omega)
        obtain ⟨v, x2, k2, A2, B2, C2, m2, r2, r3⟩ := ih (k + 1) A' B' C' (by rw [ep]; exact a3) (by rw [ep]; omega) (by rw [ep]; omega) hh' hb' hc'
        refine ⟨v, x2, k2, A2, B2, C2, ?_, r2, r3⟩
        intro i hT sc d cu su l f t sp K g nn v3 v4
        refine Eq.trans ?_ (m2 i hT sc d cu su l f t sp K g nn v3 v4)
        refine e_X11_evening_19.trans ?_
        simp only [e_X11_evening_0, e_X11_evening_1, e_X11_evening_2, e_X11_evening_5, e_X11_evening_6, e_X11_evening_8, e_X11_evening_11, e_X11_evening_12, e_X11_evening_13, e_X11_evening_14, e_X11_evening_17, e_X11_evening_18, e_X11_evening_20, e_X11_evening_23, e_X11_evening_24, e_X11_evening_27, e_X11_evening_28, e_X11_evening_31, e_X11_evening_34, e_X11_evening_35, e_X11_evening_38, e_X11_evening_39, e_X11_evening_43, e_X11_evening_44, e_X11_evening_46, e_X11_evening_47, e_X11_evening_50, e_X11_evening_51, e_X11_evening_52, e_X11_evening_55, e_X11_evening_56, e_X11_evening_57, e_X11_evening_58, e_X11_evening_61, e_X11_evening_62, e_X11_evening_66, e_X11_evening_67, e_X11_evening_70, e_X11_evening_73, e_X11_evening_74, e_X11_evening_76, e_X11_evening_79, e_X11_evening_82, e_X11_evening_85, e_X11_evening_88, e_X11_evening_89, e_X11_evening_90, e_X11_evening_93, e_X11_evening_94, e_X11_evening_96, e_X11_evening_97, e_X11_evening_100, e_X11_evening_103, e_X11_evening_104, e_X11_evening_107, e_X11_evening_108, e_X11_evening_111, e_X11_evening_112, e_X11_evening_115, e_X11_evening_116, e_X11_evening_117, e_X11_evening_120, e_X11_evening_122, e_X11_evening_123, e_X11_evening_124, e_X11_evening_127, e_X11_evening_129, e_X11_evening_132, e_X11_evening_133, e_X11_evening_135, e_X11_evening_138, e_X11_evening_141, e_X11_evening_142, ob_91, rk_91_8, ar_96, kcl_i, kcl_r, kcl_l, kcl_0, kcl_n, true_and, and_true, z10, if_false, tS_12, tS_13, ge_nat (show o < 100000 by omega) (show pos T k < 100000 by omega), show (o ≤ pos T k) = False from eq_false (by omega), hm i hT sc d, ← ep]
      · subst z1
        have hx' : x' ≤ o := by rcases z2 with q | q | q <;> omega
        have post : (∀ z, z < x' → ¬ eBad T z) ∧ (x' < o → eBad T x') ∧ (x' = o → eCut T o) := by
          rcases z2 with ⟨rfl, q1⟩ | ⟨rfl, q1, q2⟩ | ⟨rfl, q0, w, q1, q2, q3⟩
          · refine ⟨hb, fun _ => ?_, fun e => by omega⟩
            unfold eBad; rw [b1, Nat.sub_self]; exact q1
          · refine ⟨fun z hz => ?_, fun hz => ?_, fun e => ?_⟩
            · by_cases q : z < pos T k
              · exact hb z q
              · have : z = pos T k := by omega
                subst this
                unfold eBad; rw [b1, Nat.sub_self, Classical.not_not]; exact q1
            · unfold eBad; rw [b2, show pos T k + 1 - pos T k = 1 by omega]
              exact fun y => q2 hz (st_1.1 y)
            · rw [← e]
              refine ⟨by omega, ?_⟩
              rw [b1]; omega
          · refine ⟨fun z hz => ?_, fun hz => ?_, fun e => ?_⟩
            · by_cases q : z < pos T k
              · exact hb z q
              · have : z = pos T k ∨ z = pos T k + 1 := by omega
                rcases this with rfl | rfl
                · unfold eBad; rw [b1, Nat.sub_self, Classical.not_not]; exact q1
                · unfold eBad; rw [b2, show pos T k + 1 - pos T k = 1 by omega, Classical.not_not]; exact st_1.2 q2
            · unfold eBad; rw [eSt_b3 b2 w, show pos T k + 2 - pos T k = 2 by omega]
              exact q3 hz
            · rw [← e]
              refine ⟨by omega, ?_⟩
              rw [b2]; omega
        refine ⟨0, x', k + 1, A', B', C', ?_, hx', Or.inr ⟨rfl, post⟩⟩
        intro i hT sc d cu su l f t sp K g nn v3 v4
        refine e_X11_evening_19.trans ?_
        simp only [e_X11_evening_0, e_X11_evening_1, e_X11_evening_2, e_X11_evening_5, e_X11_evening_6, e_X11_evening_8, e_X11_evening_11, e_X11_evening_12, e_X11_evening_13, e_X11_evening_14, e_X11_evening_17, e_X11_evening_18, e_X11_evening_20, e_X11_evening_23, e_X11_evening_24, e_X11_evening_27, e_X11_evening_28, e_X11_evening_31, e_X11_evening_34, e_X11_evening_35, e_X11_evening_38, e_X11_evening_39, e_X11_evening_43, e_X11_evening_44, e_X11_evening_46, e_X11_evening_47, e_X11_evening_50, e_X11_evening_51, e_X11_evening_52, e_X11_evening_55, e_X11_evening_56, e_X11_evening_57, e_X11_evening_58, e_X11_evening_61, e_X11_evening_62, e_X11_evening_66, e_X11_evening_67, e_X11_evening_70, e_X11_evening_73, e_X11_evening_74, e_X11_evening_76, e_X11_evening_79, e_X11_evening_82, e_X11_evening_85, e_X11_evening_88, e_X11_evening_89, e_X11_evening_90, e_X11_evening_93, e_X11_evening_94, e_X11_evening_96, e_X11_evening_97, e_X11_evening_100, e_X11_evening_103, e_X11_evening_104, e_X11_evening_107, e_X11_evening_108, e_X11_evening_111, e_X11_evening_112, e_X11_evening_115, e_X11_evening_116, e_X11_evening_117, e_X11_evening_120, e_X11_evening_122, e_X11_evening_123, e_X11_evening_124, e_X11_evening_127, e_X11_evening_129, e_X11_evening_132, e_X11_evening_133, e_X11_evening_135, e_X11_evening_138, e_X11_evening_141, e_X11_evening_142, ob_91, rk_91_8, ar_96, kcl_i, kcl_r, kcl_l, kcl_0, kcl_n, true_and, and_true, z10, if_false, tS_12, tS_13, ge_nat (show o < 100000 by omega) (show pos T k < 100000 by omega), show (o ≤ pos T k) = False from eq_false (by omega), hm i hT sc d]
        refine e_X11_evening_19.trans ?_
        simp only [e_X11_evening_0, e_X11_evening_1, e_X11_evening_2, e_X11_evening_5, e_X11_evening_6, e_X11_evening_8, e_X11_evening_11, e_X11_evening_12, e_X11_evening_13, e_X11_evening_14, e_X11_evening_17, e_X11_evening_18, e_X11_evening_20, e_X11_evening_23, e_X11_evening_24, e_X11_evening_27, e_X11_evening_28, e_X11_evening_31, e_X11_evening_34, e_X11_evening_35, e_X11_evening_38, e_X11_evening_39, e_X11_evening_43, e_X11_evening_44, e_X11_evening_46, e_X11_evening_47, e_X11_evening_50, e_X11_evening_51, e_X11_evening_52, e_X11_evening_55, e_X11_evening_56, e_X11_evening_57, e_X11_evening_58, e_X11_evening_61, e_X11_evening_62, e_X11_evening_66, e_X11_evening_67, e_X11_evening_70, e_X11_evening_73, e_X11_evening_74, e_X11_evening_76, e_X11_evening_79, e_X11_evening_82, e_X11_evening_85, e_X11_evening_88, e_X11_evening_89, e_X11_evening_90, e_X11_evening_93, e_X11_evening_94, e_X11_evening_96, e_X11_evening_97, e_X11_evening_100, e_X11_evening_103, e_X11_evening_104, e_X11_evening_107, e_X11_evening_108, e_X11_evening_111, e_X11_evening_112, e_X11_evening_115, e_X11_evening_116, e_X11_evening_117, e_X11_evening_120, e_X11_evening_122, e_X11_evening_123, e_X11_evening_124, e_X11_evening_127, e_X11_evening_129, e_X11_evening_132, e_X11_evening_133, e_X11_evening_135, e_X11_evening_138, e_X11_evening_141, e_X11_evening_142, ob_91, rk_91_8, ar_96, kcl_i, kcl_r, kcl_l, kcl_0, kcl_n, true_and, and_true, if_true]
    · have e : pos T k = o := by omega
      refine ⟨1, o, k, A, B, C, ?_, Nat.le_refl _, Or.inl ⟨rfl, rfl, e, by omega, hh, by rw [← e]; exact hb, ?_⟩⟩
      · intro i hT sc d cu su l f t sp K g nn v3 v4
        refine e_X11_evening_19.trans ?_
        simp only [e_X11_evening_0, e_X11_evening_1, e_X11_evening_2, e_X11_evening_5, e_X11_evening_6, e_X11_evening_8, e_X11_evening_11, e_X11_evening_12, e_X11_evening_13, e_X11_evening_14, e_X11_evening_17, e_X11_evening_18, e_X11_evening_20, e_X11_evening_23, e_X11_evening_24, e_X11_evening_27, e_X11_evening_28, e_X11_evening_31, e_X11_evening_34, e_X11_evening_35, e_X11_evening_38, e_X11_evening_39, e_X11_evening_43, e_X11_evening_44, e_X11_evening_46, e_X11_evening_47, e_X11_evening_50, e_X11_evening_51, e_X11_evening_52, e_X11_evening_55, e_X11_evening_56, e_X11_evening_57, e_X11_evening_58, e_X11_evening_61, e_X11_evening_62, e_X11_evening_66, e_X11_evening_67, e_X11_evening_70, e_X11_evening_73, e_X11_evening_74, e_X11_evening_76, e_X11_evening_79, e_X11_evening_82, e_X11_evening_85, e_X11_evening_88, e_X11_evening_89, e_X11_evening_90, e_X11_evening_93, e_X11_evening_94, e_X11_evening_96, e_X11_evening_97, e_X11_evening_100, e_X11_evening_103, e_X11_evening_104, e_X11_evening_107, e_X11_evening_108, e_X11_evening_111, e_X11_evening_112, e_X11_evening_115, e_X11_evening_116, e_X11_evening_117, e_X11_evening_120, e_X11_evening_122, e_X11_evening_123, e_X11_evening_124, e_X11_evening_127, e_X11_evening_129, e_X11_evening_132, e_X11_evening_133, e_X11_evening_135, e_X11_evening_138, e_X11_evening_141, e_X11_evening_142, ob_91, rk_91_8, ar_96, kcl_i, kcl_r, kcl_l, kcl_0, kcl_n, true_and, and_true, z10, if_false, tS_12, tS_13, e, Int32.le_refl, if_true]
      · rintro ⟨q1, q2⟩
        rw [e] at hc
        rcases hc with q | q
        · omega
        · omega
/-- the reference's reading of an evening, up to its fault -/
def ME (n : Nat) (T A0 B0 C0 : Nat → Int32) (fault : Int32) (o x' k : Nat) (A B C : Nat → Int32) (v : Int32) : Prop :=
  ∀ (j : Nat → Nat → Int32), j 91 11 = Int32.ofNat n → (∀ x, x < n → j 98 x = T x) → j 105 = A0 → j 106 = B0 → j 107 = C0 → ∀ (sc : Nat × (Nat → Int32)) (d cu su : Nat) (l : Nat → Nat → Int64) (f t : Nat) (sp : Nat → Nat) (K : Option (Option Value) → kS → Prop), kWP sc (d + 499) 211 0 [.ref 91, .retAddr 0, .retAddr 0, .retAddr 0, .retAddr 0] [] ((120, cu, su), j, l, kR f t sp) K = kWP sc (d + 499) 211 50 [.ref 91, .int (Int32.ofNat n), .int v, .retAddr 0, .retAddr 0] [.int fault] ((120, cu, su), tS (kS4 (kupi (uPut j) 91 11 0) A B C k) x' o 0, l, kR f t sp) K
theorem kS4_in : kupi (tS j 0 o 0) 91 32 0 = tS (kS4 j (j 105) (j 106) (j 107) 0) 0 o 0 := by
  funext c z; unfold kupi tS kS4
  by_cases h : c = 91 ∧ z = 32
  · obtain ⟨rfl, rfl⟩ := h; rfl
  · rw [if_neg h]
    by_cases h1 : c = 105
    · subst h1; rfl
    · by_cases h2 : c = 106
      · subst h2; rfl
      · by_cases h3 : c = 107
        · subst h3; rfl
        · simp only [h, h1, h2, h3, if_false]
theorem evening_ok (h80 : n ≤ 80) (x1 : i 1 1 = Int32.ofNat n) (x4 : ∀ x, x < n → i 2 x = T x) (A0 B0 C0 : Nat → Int32) : ∃ (r0 fault : Int32) (o x' k : Nat) (A B C : Nat → Int32) (v : Int32), BE i r0 ∧ ME n T A0 B0 C0 fault o x' k A B C v ∧
    ((r0 = -1 ∧ fault = 0 ∧ n ≤ 60 ∧ pos T k = n ∧ 2 * k ≤ n ∧ holds T k A B C) ∨ (∃ z, z ≤ 60 ∧ r0 = Int32.ofNat z ∧ fault = -1 - Int32.ofNat z)) := by
  generalize hto : min n 60 = o
  have hto' : o = min n 60 := hto.symm
  obtain ⟨v, x', k, A, B, C, hm, h2, h4⟩ := acts_ok (T := T) (o := o) (by omega) (o + 1) 0 A0 B0 C0 (Nat.zero_le _) (by show o - 0 < o + 1; omega) (Nat.le_refl _) (fun j hj => absurd hj (Nat.not_lt_zero j)) (fun z hz => absurd hz (Nat.not_lt_zero z)) (Or.inl rfl)
  have E := c_bad (i := i) (T := T) (n := n) (to := o) x1 h80 x4 hto'
  have M : ME n T A0 B0 C0 (pFault n 60 x' o v) o x' k A B C v := by
    intro j h11 h98 h1 h2 h3 sc d cu su l f t sp K
    have Bg := fun (y nx : Nat) (L st : List Value) (hd : List (Int × Nat)) (K : Option (Option Value) → kS → Prop) => m_begins (sc := sc) (d := d + 498) (y := y) (nx := nx) (hd := hd) (L := L) (st := st) (cu := cu) (su := su) (i := uPut j) (l := l) (f := f) (t := t) (sp := sp) (K := K) (n := n) (k := 60) (by rw [uP_f (by decide)]; exact h11) (by omega) (by decide)
    rw [show (Int32.ofNat 60) = (60 : Int32) from rfl, ← hto'] at Bg
    have e1 : kupi (uPut j) 91 11 0 105 = A0 := by rw [kupi_cf (by decide), uP_o (by decide)]; exact h1
    have e2 : kupi (uPut j) 91 11 0 106 = B0 := by rw [kupi_cf (by decide), uP_o (by decide)]; exact h2
    have e3 : kupi (uPut j) 91 11 0 107 = C0 := by rw [kupi_cf (by decide), uP_o (by decide)]; exact h3
    have F := fun (y nx : Nat) (L st : List Value) (hd : List (Int × Nat)) (K : Option (Option Value) → kS → Prop) => m_faultOf (sc := sc) (d := d + 498) (y := y) (nx := nx) (hd := hd) (L := L) (st := st) (cu := cu) (su := su) (i := kS4 (kupi (uPut j) 91 11 0) A B C k) (l := l) (f := f) (t := t) (sp := sp) (K := K) (a := x') (o := o) (g := 0) (n := n) (k := 60) (v := v) (by omega) (by omega) (by omega) (by decide)
    rw [show Int32.ofNat 60 = (60 : Int32) from rfl] at F
    simp only [e_X11_evening_0, e_X11_evening_1, e_X11_evening_2, e_X11_evening_5, e_X11_evening_6, e_X11_evening_8, e_X11_evening_11, e_X11_evening_12, e_X11_evening_13, e_X11_evening_14, e_X11_evening_17, e_X11_evening_18, e_X11_evening_20, e_X11_evening_23, e_X11_evening_24, e_X11_evening_27, e_X11_evening_28, e_X11_evening_31, e_X11_evening_34, e_X11_evening_35, e_X11_evening_38, e_X11_evening_39, e_X11_evening_43, e_X11_evening_44, e_X11_evening_46, e_X11_evening_47, e_X11_evening_51, e_X11_evening_52, e_X11_evening_55, e_X11_evening_56, e_X11_evening_57, e_X11_evening_58, e_X11_evening_61, e_X11_evening_62, e_X11_evening_66, e_X11_evening_67, e_X11_evening_70, e_X11_evening_73, e_X11_evening_74, e_X11_evening_76, e_X11_evening_79, e_X11_evening_82, e_X11_evening_85, e_X11_evening_88, e_X11_evening_89, e_X11_evening_90, e_X11_evening_93, e_X11_evening_94, e_X11_evening_96, e_X11_evening_97, e_X11_evening_100, e_X11_evening_103, e_X11_evening_104, e_X11_evening_107, e_X11_evening_108, e_X11_evening_111, e_X11_evening_112, e_X11_evening_115, e_X11_evening_116, e_X11_evening_117, e_X11_evening_120, e_X11_evening_122, e_X11_evening_123, e_X11_evening_124, e_X11_evening_127, e_X11_evening_129, e_X11_evening_132, e_X11_evening_133, e_X11_evening_135, e_X11_evening_138, e_X11_evening_141, e_X11_evening_142, ob_91, rk_91_8, ar_96, kcl_i, kcl_r, kcl_l, kcl_0, kcl_n, true_and, and_true, uP_0, Bg, kS4_in, e1, e2, e3]
    refine (hm (kupi (uPut j) 91 11 0) (fun x hx => by rw [kupi_c (by decide), uP_o (by decide)]; exact h98 x (by omega)) sc (d + 495) cu su l f t sp K 0 (Int32.ofNat n) (.retAddr 0) (.retAddr 0)).trans ?_
    simp only [e_X11_evening_0, e_X11_evening_1, e_X11_evening_2, e_X11_evening_5, e_X11_evening_6, e_X11_evening_8, e_X11_evening_11, e_X11_evening_12, e_X11_evening_13, e_X11_evening_14, e_X11_evening_17, e_X11_evening_18, e_X11_evening_20, e_X11_evening_23, e_X11_evening_24, e_X11_evening_27, e_X11_evening_28, e_X11_evening_31, e_X11_evening_34, e_X11_evening_35, e_X11_evening_38, e_X11_evening_39, e_X11_evening_42, e_X11_evening_43, e_X11_evening_44, e_X11_evening_46, e_X11_evening_47, e_X11_evening_51, e_X11_evening_52, e_X11_evening_55, e_X11_evening_56, e_X11_evening_57, e_X11_evening_58, e_X11_evening_61, e_X11_evening_62, e_X11_evening_66, e_X11_evening_67, e_X11_evening_70, e_X11_evening_73, e_X11_evening_74, e_X11_evening_76, e_X11_evening_79, e_X11_evening_82, e_X11_evening_85, e_X11_evening_88, e_X11_evening_89, e_X11_evening_90, e_X11_evening_93, e_X11_evening_94, e_X11_evening_96, e_X11_evening_97, e_X11_evening_100, e_X11_evening_103, e_X11_evening_104, e_X11_evening_107, e_X11_evening_108, e_X11_evening_111, e_X11_evening_112, e_X11_evening_115, e_X11_evening_116, e_X11_evening_117, e_X11_evening_120, e_X11_evening_122, e_X11_evening_123, e_X11_evening_124, e_X11_evening_127, e_X11_evening_129, e_X11_evening_132, e_X11_evening_133, e_X11_evening_135, e_X11_evening_138, e_X11_evening_141, e_X11_evening_142, ob_91, rk_91_8, ar_96, kcl_i, kcl_r, kcl_l, kcl_0, kcl_n, true_and, and_true, F]
  rcases h4 with ⟨a1, a2, a3, a4, a5, a6, a7⟩ | ⟨z1, b1, b2, b3⟩
  · subst a1; subst a2
    by_cases c2 : 60 < n
    · refine ⟨Int32.ofNat x', _, _, _, _, _, _, _, _, E.2.1 a6 (Or.inr c2), M, Or.inr ⟨x', by omega, rfl, ?_⟩⟩
      unfold pFault
      rw [if_pos ⟨c2, Or.inr (by omega)⟩, show x' = 60 by omega]
    · refine ⟨-1, _, _, _, _, _, _, _, _, E.2.2 a6 (fun q => by rcases q with q | q; exact a7 q; exact c2 q), M, Or.inl ⟨rfl, ?_, by omega, by rw [a3]; omega, by omega, a5⟩⟩
      unfold pFault
      rw [if_neg (fun z => c2 z.1), if_pos ⟨by decide, rfl⟩]
  · subst z1
    by_cases c1 : x' = o
    · subst c1
      refine ⟨Int32.ofNat x', _, _, _, _, _, _, _, _, E.2.1 b1 (Or.inl (b3 rfl)), M, Or.inr ⟨x', by omega, rfl, ?_⟩⟩
      unfold pFault
      by_cases c2 : 60 < n
      · rw [if_pos ⟨c2, Or.inr (by omega)⟩, show x' = 60 by omega]
      · rw [if_neg (fun z => c2 z.1), if_neg (fun z => z.1 rfl)]
    · have hlt : x' < o := by omega
      refine ⟨Int32.ofNat x', _, _, _, _, _, _, _, _, E.1 x' hlt b1 (b2 hlt), M, Or.inr ⟨x', by omega, rfl, ?_⟩⟩
      unfold pFault
      rw [if_neg (fun z => by rcases z.2 with y | y <;> omega), if_neg (fun z => by omega)]
end TC
