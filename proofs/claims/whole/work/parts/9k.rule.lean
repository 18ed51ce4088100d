/-! rule -/
section TC
variable {sc : Nat × (Nat → Int32)} {d y nx : Nat} {hd : List (Int × Nat)} {L st : List Value} {S : kS} {cu su : Nat} {i : Nat → Nat → Int32} {l : Nat → Nat → Int64} {f t c b m : Nat} {sp : Nat → Nat} {K : Option (Option Value) → kS → Prop}
variable {N M Z S1 Q A S C C' C1 acts acts2 code code2 C0 : Nat → Int32} {n n2 k x a o g c h p to x' g' c' r x1 g1 c1 e n1 : Nat} {v q u fault : Int32} {T : Nat → Int32} {w s σ : List Int32} {v3 : Value} {i0 i2 j : Nat → Nat → Int32} {l2 : Nat → Nat → Int64}
/-- the reference reads a rule -/
def MR (n : Nat) (T C0 : Nat → Int32) (fault : Int32) (o x' g' c' : Nat) (C' : Nat → Int32) : Prop :=
  ∀ (j : Nat → Nat → Int32), j 91 11 = Int32.ofNat n → (∀ x, x < n → j 98 x = T x) → j 101 = C0 → ∀ (sc : Nat × (Nat → Int32)) (d y nx : Nat) (hd : List (Int × Nat)) (L st : List Value) (cu su : Nat) (l : Nat → Nat → Int64) (f t : Nat) (sp : Nat → Nat) (K : Option (Option Value) → kS → Prop), kCA sc (d + 300) 185 [.ref 91] y nx hd L st ((120, cu, su), j, l, kR f t sp) K = kWP sc (d + 300) y nx L (.int fault :: st) ((120, cu, su), tS (kS3 (kupi j 91 11 0) C' c') x' o g', l, kR f t sp) K
theorem kS3_in : kupi (tS j 0 o 0) 91 20 0 = tS (kS3 j (j 101) 0) 0 o 0 := by
  funext c z; unfold kupi tS kS3
  by_cases h : c = 91 ∧ z = 20
  · obtain ⟨rfl, rfl⟩ := h; rfl
  · rw [if_neg h]
    by_cases h2 : c = 101
    · subst h2; rfl
    · simp only [h, h2, if_false]
theorem m_readsRule (hn : 0 < n) (h80 : n ≤ 80) (ho : o = min n 40) (hv : v = 0 ∨ v = 1) (hx : x' ≤ o) (hm : ∀ i : Nat → Nat → Int32, (∀ x, x < o → i 98 x = T x) → RM 184 [.int (Int32.ofNat 0)] (6 * (o - 0) + 9 - 0) i o 0 0 0 C0 v x' g' c' C') : MR n T C0 (pFault n 40 x' o v) o x' g' c' C' := by
  intro j h11 h98 h101 sc d y nx hd L st cu su l f t sp K
  have W := fun (y nx : Nat) (hd : List (Int × Nat)) (L st : List Value) (K : Option (Option Value) → kS → Prop) => hm (kupi j 91 11 0) (fun x hx => by rw [kupi_c (by decide)]; exact h98 x (by omega)) sc (d + 299) y nx hd L st cu su l f t sp K (by omega)
  simp only [show Int32.ofNat 0 = (0 : Int32) from rfl] at W
  have B := fun (y nx : Nat) (L st : List Value) (hd : List (Int × Nat)) (K : Option (Option Value) → kS → Prop) => m_begins (sc := sc) (d := d + 298) (y := y) (nx := nx) (hd := hd) (L := L) (st := st) (cu := cu) (su := su) (i := j) (l := l) (f := f) (t := t) (sp := sp) (K := K) (n := n) (k := 40) h11 (by omega) (by decide)
  rw [show (Int32.ofNat 40) = (40 : Int32) from rfl, ← ho] at B
  have e101 : kupi j 91 11 0 101 = C0 := by rw [kupi_cf (by decide)]; exact h101
  have F := fun (y nx : Nat) (L st : List Value) (hd : List (Int × Nat)) (K : Option (Option Value) → kS → Prop) (v : Int32) => m_faultOf (sc := sc) (d := d + 298) (y := y) (nx := nx) (hd := hd) (L := L) (st := st) (cu := cu) (su := su) (i := kS3 (kupi j 91 11 0) C' c') (l := l) (f := f) (t := t) (sp := sp) (K := K) (a := x') (o := o) (g := g') (n := n) (k := 40) (v := v) (by omega) (by omega) (by omega) (by decide)
  rw [show Int32.ofNat 40 = (40 : Int32) from rfl] at F
  have n0 : (Int32.ofNat n = 0) = False := by rw [tn_z (by omega)]; exact eq_false (by omega)
  refine kCA_of (d := d + 299) (v := some (.int (pFault n 40 x' o v))) (fun K => ?_)
  rw [km_185]
  show kWP sc (d + 299) 185 0 [.ref 91, .retAddr 0, .retAddr 0] [] _ K = _
  rcases hv with rfl | rfl
  · simp only [e_X11_readsRule_0, e_X11_readsRule_1, e_X11_readsRule_3, e_X11_readsRule_6, e_X11_readsRule_7, e_X11_readsRule_8, e_X11_readsRule_9, e_X11_readsRule_12, e_X11_readsRule_13, e_X11_readsRule_16, e_X11_readsRule_17, e_X11_readsRule_18, e_X11_readsRule_21, e_X11_readsRule_24, e_X11_readsRule_25, e_X11_readsRule_28, e_X11_readsRule_29, e_X11_readsRule_30, e_X11_readsRule_31, e_X11_readsRule_32, e_X11_readsRule_34, e_X11_readsRule_35, e_X11_readsRule_38, ob_91, kcl_i, kcl_r, kcl_l, kcl_0, kcl_n, true_and, and_true, B, kS3_in, e101, n0, if_false, W, if_true, F]
  · simp only [e_X11_readsRule_0, e_X11_readsRule_1, e_X11_readsRule_3, e_X11_readsRule_6, e_X11_readsRule_7, e_X11_readsRule_8, e_X11_readsRule_9, e_X11_readsRule_12, e_X11_readsRule_13, e_X11_readsRule_16, e_X11_readsRule_17, e_X11_readsRule_18, e_X11_readsRule_21, e_X11_readsRule_24, e_X11_readsRule_25, e_X11_readsRule_28, e_X11_readsRule_29, e_X11_readsRule_30, e_X11_readsRule_31, e_X11_readsRule_32, e_X11_readsRule_34, e_X11_readsRule_35, e_X11_readsRule_38, ob_91, kcl_i, kcl_r, kcl_l, kcl_0, kcl_n, true_and, and_true, B, kS3_in, e101, n0, z10, if_false, W, if_true, F]
theorem m_readsRule0 : MR 0 T C0 0 0 0 0 0 C0 := by
  intro j h11 h98 h101 sc d y nx hd L st cu su l f t sp K
  have B := fun (y nx : Nat) (L st : List Value) (hd : List (Int × Nat)) (K : Option (Option Value) → kS → Prop) => m_begins (sc := sc) (d := d + 298) (y := y) (nx := nx) (hd := hd) (L := L) (st := st) (cu := cu) (su := su) (i := j) (l := l) (f := f) (t := t) (sp := sp) (K := K) (n := 0) (k := 40) h11 (by omega) (by decide)
  rw [show (Int32.ofNat 40) = (40 : Int32) from rfl, show min 0 40 = 0 from rfl] at B
  have e101 : kupi j 91 11 0 101 = C0 := by rw [kupi_cf (by decide)]; exact h101
  have F := fun (y nx : Nat) (L st : List Value) (hd : List (Int × Nat)) (K : Option (Option Value) → kS → Prop) => m_faultOf (sc := sc) (d := d + 298) (y := y) (nx := nx) (hd := hd) (L := L) (st := st) (cu := cu) (su := su) (i := kS3 (kupi j 91 11 0) C0 0) (l := l) (f := f) (t := t) (sp := sp) (K := K) (a := 0) (o := 0) (g := 0) (n := 0) (k := 40) (v := 1) (by omega) (by omega) (by omega) (by decide)
  have pf : pFault 0 40 0 0 1 = 0 := by decide
  rw [show Int32.ofNat 40 = (40 : Int32) from rfl, pf] at F
  have n0 : (Int32.ofNat 0 = 0) = True := eq_true rfl
  refine kCA_of (d := d + 299) (v := some (.int 0)) (fun K => ?_)
  rw [km_185]
  show kWP sc (d + 299) 185 0 [.ref 91, .retAddr 0, .retAddr 0] [] _ K = _
  simp only [e_X11_readsRule_0, e_X11_readsRule_1, e_X11_readsRule_3, e_X11_readsRule_6, e_X11_readsRule_7, e_X11_readsRule_8, e_X11_readsRule_9, e_X11_readsRule_12, e_X11_readsRule_13, e_X11_readsRule_16, e_X11_readsRule_17, e_X11_readsRule_18, e_X11_readsRule_21, e_X11_readsRule_24, e_X11_readsRule_25, e_X11_readsRule_28, e_X11_readsRule_29, e_X11_readsRule_30, e_X11_readsRule_31, e_X11_readsRule_32, e_X11_readsRule_34, e_X11_readsRule_35, e_X11_readsRule_38, ob_91, kcl_i, kcl_r, kcl_l, kcl_0, kcl_n, true_and, and_true, B, kS3_in, e101, n0, if_true, F]
/-- both read THE TEXT as a rule -/
theorem rule_ok (hf : kRc t = true) (h80 : n ≤ 80) (x1 : i 1 1 = Int32.ofNat n) (x3 : ∀ x, x < n → i 2 x = T x ∧ ∃ c, c < 256 ∧ i 2 x = Int32.ofNat c) (C0 : Nat → Int32) : ∃ (r0 fault : Int32) (o x' g' c' : Nat) (C' : Nat → Int32) (n1 : Nat) (A : Nat → Int32) (p : Nat) (S : Nat → Int32) (g h : Nat) (u : Int32) (i0 : Nat → Nat → Int32), CR i t r0 (kupi (qP i0 t n1 A p S g h u) 1 1 0) ∧ (∀ z, z ≠ 1 → z ≠ 2 → i0 z = i z) ∧ MR n T C0 fault o x' g' c' C' ∧ c' ≤ 40 ∧
    ((r0 = -1 ∧ fault = 0 ∧ n1 ≤ 40 ∧ RR A n1 C' c') ∨ (∃ z, z ≤ 40 ∧ r0 = Int32.ofNat z ∧ fault = -1 - Int32.ofNat z)) := by
  by_cases hn : n = 0
  · subst hn
    obtain ⟨n1, A, p, S, g, h, u, X, h1, h2, h3⟩ := c_readRule0 (i := i) (t := t) hf x1
    exact ⟨-1, 0, 0, 0, 0, 0, C0, n1, A, p, S, g, h, u, _, h3, fun z z1 z2 => xP_o z1 z2, m_readsRule0, by decide, Or.inl ⟨rfl, rfl, h1, RR_first h2⟩⟩
  · have hn0 : 0 < n := by omega
    have x4 : ∀ x, x < n → i 2 x = T x := fun x hx => (x3 x hx).1
    have h1000 : ∀ x, x < n → ¬ T x = 1000 := by
      intro x hx e
      obtain ⟨q1, c, hc, q2⟩ := x3 x hx
      rw [← q1, q2, show (1000 : Int32) = Int32.ofNat 1000 from rfl, tn_eq (by omega) (by decide)] at e
      omega
    have hnz : ¬ i 1 1 = 0 := by rw [x1, tn_z (by omega)]; exact hn
    generalize hto : min n 40 = o
    have hto' : o = min n 40 := hto.symm
    have Q := q_read (i := i) (b := t) (T := T) (n2 := n) (to := o) hf x1 h80 x4 hto'
    obtain ⟨v, x', g', c', C', hm, h1, h2, h3, h4⟩ := (all_of (T := T) (o := o) (by omega) (fun x hx => h1000 x (by omega)) o 0 (Nat.zero_le _) (by omega)).2.2.2.2 0 0 C0 [] 0 (by decide) (Nat.le_refl _) trivial (Nat.le_refl _)
    have hv : v = 0 ∨ v = 1 := by
      rcases h4 with z | z
      · exact Or.inr z.1
      · exact Or.inl z.1
    have M := m_readsRule hn0 h80 hto' hv h2 hm
    have fin : ∀ z, z ≤ 40 → (∃ n1 A p S g h u, QQ t i (Int32.ofNat z) n1 A p S g h u) → pFault n 40 x' o v = -1 - Int32.ofNat z → ∃ (r0 fault : Int32) (o x' g' c' : Nat) (C' : Nat → Int32) (n1 : Nat) (A : Nat → Int32) (p : Nat) (S : Nat → Int32) (g h : Nat) (u : Int32) (i0 : Nat → Nat → Int32), CR i t r0 (kupi (qP i0 t n1 A p S g h u) 1 1 0) ∧ (∀ z, z ≠ 1 → z ≠ 2 → i0 z = i z) ∧ MR n T C0 fault o x' g' c' C' ∧ c' ≤ 40 ∧
        ((r0 = -1 ∧ fault = 0 ∧ n1 ≤ 40 ∧ RR A n1 C' c') ∨ (∃ z, z ≤ 40 ∧ r0 = Int32.ofNat z ∧ fault = -1 - Int32.ofNat z)) := by
      rintro z hz ⟨n1, A, p, S, g, h, u, hq⟩ e
      exact ⟨_, _, o, x', g', c', C', n1, A, p, S, g, h, u, i, c_readRule hf hnz hq, fun _ _ _ => rfl, M, by omega, Or.inr ⟨z, hz, rfl, e⟩⟩
    rcases h4 with ⟨a1, a2, a3, a4, w, s, h, a5, a6, a7⟩ | ⟨z1, s2, b1, b2, b3⟩
    · subst a1
      rw [Nat.sub_zero] at a5
      by_cases c1 : x' = o
      · subst c1
        by_cases c2 : 40 < n
        · refine fin x' (by omega) (Q.2.1 _ a5 (Or.inr (Or.inr c2))) ?_
          unfold pFault
          rw [if_pos ⟨c2, Or.inr (by omega)⟩, show x' = 40 by omega]
        · obtain ⟨n1, A, p, S, g, h, u, q1, q2, q3⟩ := Q.2.2 _ a5 rfl rfl (by omega)
          dsimp only at q2
          rw [a6] at q2
          refine ⟨-1, _, _, _, _, _, _, n1, A, p, S, g, h, u, i, c_readRule hf hnz q3, fun _ _ _ => rfl, M, by omega, Or.inl ⟨rfl, ?_, q1, RR_of q2 q1 a3 a4⟩⟩
          unfold pFault
          rw [if_neg (fun z => c2 z.1), if_pos ⟨by decide, rfl⟩]
      · have hlt : x' < o := by omega
        have hb : stepL (w, s, 0, h, false) (T x') = none := by
          rcases a7 hlt with z | z | z
          · exact z
          · show stepJ _ _ _ _ (T x') = none
            unfold stepJ
            rw [z, if_neg (by decide), if_pos rfl, if_pos rfl]
          · omega
        refine fin x' (by omega) (Q.1 x' _ hlt a5 hb) ?_
        unfold pFault
        rw [if_neg (fun z => by rcases z.2 with y | y <;> omega), if_neg (fun z => by omega)]
    · subst z1
      rw [Nat.sub_zero] at b1
      by_cases c1 : x' = o
      · refine fin x' (by omega) ?_ ?_
        · rw [c1]
          rw [c1] at b1
          refine Q.2.1 _ b1 ?_
          rcases b3 c1 with z | z
          · exact Or.inl z
          · exact Or.inr (Or.inl z)
        · unfold pFault
          by_cases c2 : 40 < n
          · rw [if_pos ⟨c2, Or.inr (by omega)⟩, show x' = 40 by omega]
          · rw [if_neg (fun z => c2 z.1), if_neg (fun z => z.1 rfl)]
      · have hlt : x' < o := by omega
        refine fin x' (by omega) (Q.1 x' _ hlt b1 (b2 hlt)) ?_
        unfold pFault
        rw [if_neg (fun z => by rcases z.2 with y | y <;> omega), if_neg (fun z => by omega)]
end TC
