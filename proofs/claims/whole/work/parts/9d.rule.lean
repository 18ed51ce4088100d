/-! a rule's text read by the class: all of it -/
section TC
variable {sc : Nat × (Nat → Int32)} {d y nx : Nat} {hd : List (Int × Nat)} {L st : List Value} {S : kS} {cu su : Nat} {i : Nat → Nat → Int32} {l : Nat → Nat → Int64} {f t c b m : Nat} {sp : Nat → Nat} {K : Option (Option Value) → kS → Prop}
variable {N M Z S1 Q A S A2 S2 : Nat → Int32} {n n2 k x a o g c h p to : Nat} {v r q u : Int32} {T : Nat → Int32}
theorem fb_t : fb true = 1 := rfl
theorem fb_f : fb false = 0 := rfl
/-- some signs taken: the cells hold the lists -/
theorem q_signs (hf : kRc b = true) (hn : i 1 1 = Int32.ofNat n2) (h80 : n2 ≤ 80) (hT : ∀ x, x < n2 → i 2 x = T x) (hto : to ≤ n2 ∧ to ≤ 40) : ∀ k s, k ≤ to → goL T k 0 ([], [], 0, 0, true) = some s → ∃ n A p S, n + p ≤ k ∧ SL n A = s.1 ∧ SL p S = s.2.1 ∧ s.2.2.1 ≤ 4 ∧ s.2.2.2.1 ≤ 3 ∧ ∀ (sc : Nat × (Nat → Int32)) (d cu su : Nat) (l : Nat → Nat → Int64) (f t : Nat) (sp : Nat → Nat) (K : Option (Option Value) → kS → Prop) (v3 : Value), ∃ v3' : Value, kWP sc (d + 5) 44 40 [.ref b, .int (Int32.ofNat to), .int (Int32.ofNat 0), v3] [] ((120, cu, su), qP i b 0 (i (b + 1)) 0 (i (b + 2)) 0 0 1, l, kR f t sp) K = kWP sc (d + 5) 44 40 [.ref b, .int (Int32.ofNat to), .int (Int32.ofNat k), v3'] [] ((120, cu, su), qP i b n A p S s.2.2.1 s.2.2.2.1 (fb s.2.2.2.2), l, kR f t sp) K := by
  intro k
  induction k with
  | zero =>
    intro s _ hs
    cases hs
    exact ⟨0, i (b + 1), 0, i (b + 2), Nat.le_refl _, rfl, rfl, by decide, by decide, fun sc d cu su l f t sp K v3 => ⟨v3, rfl⟩⟩
  | succ k ih =>
    intro s hk hs
    cases e0 : goL T k 0 ([], [], 0, 0, true) with
    | none =>
      exfalso
      have : ∀ (k x : Nat) (s : LT), goL T k x s = none → goL T (k + 1) x s = none := by
        intro k
        induction k with
        | zero => intro x s h; cases h
        | succ k ih =>
          intro x s h
          have h' : (match stepL s (T x) with | none => none | some s2 => goL T k (x + 1) s2) = none := h
          show (match stepL s (T x) with | none => none | some s2 => goL T (k + 1) (x + 1) s2) = none
          cases e : stepL s (T x) with
          | none => rfl
          | some s2 => rw [e] at h'; exact ih _ _ h'
      rw [this k 0 _ e0] at hs; cases hs
    | some s1 =>
      have hs2 := goL_add (c := 1) (s := ([], [], 0, 0, true)) e0
      rw [hs, Nat.zero_add] at hs2
      have hst : stepL s1 (T k) = some s := by
        have : (match stepL s1 (T k) with | none => none | some s2 => goL T 0 (k + 1) s2) = some s := hs2.symm
        cases e : stepL s1 (T k) with
        | none => rw [e] at this; cases this
        | some s2 => rw [e] at this; exact this
      obtain ⟨n, A, p, S, g1, g2, g3, g4, g5, g6⟩ := ih s1 (by omega) e0
      obtain ⟨w, st1, g, h, u⟩ := s1
      dsimp only at g2 g3 g4 g5 g6
      subst g2; subst g3
      have hA : tA T n2 k = T k := by unfold tA; rw [if_pos (by omega)]
      have q := fun n A p S g h u => (show qP i b n A p S g h u 1 1 = Int32.ofNat n2 by rw [qP_lo hf (by decide)]; exact hn)
      have qT := fun n A p S g h u => (show ∀ x, x < n2 → qP i b n A p S g h u 2 x = T x by rw [qP_lo hf (by decide)]; exact hT)
      cases u with
      | true =>
        have hq := (q_part (i := i) (b := b) (n := n) (A := A) (p := p) (S := S) (g := g) (h := h) (v := T k) hf (by omega) g4 g5).1 s hst
        obtain ⟨n', A', p', S', a1, a2, a3, a4, a5, a6⟩ := hq
        refine ⟨n', A', p', S', by omega, a2, a3, a4, a5, fun sc d cu su l f t sp K v3 => ?_⟩
        obtain ⟨v3', e⟩ := g6 sc d cu su l f t sp K v3
        refine ⟨.int (T k), e.trans ?_⟩
        refine e_X5_read_40.trans ?_
        simp only [e_X5_read_0, e_X5_read_1, e_X5_read_2, e_X5_read_5, e_X5_read_6, e_X5_read_7, e_X5_read_10, e_X5_read_11, e_X5_read_12, e_X5_read_15, e_X5_read_16, e_X5_read_17, e_X5_read_20, e_X5_read_21, e_X5_read_22, e_X5_read_25, e_X5_read_26, e_X5_read_29, e_X5_read_32, e_X5_read_34, e_X5_read_37, e_X5_read_38, e_X5_read_39, e_X5_read_41, e_X5_read_42, e_X5_read_45, e_X5_read_46, e_X5_read_49, e_X5_read_50, e_X5_read_53, e_X5_read_54, e_X5_read_55, e_X5_read_58, e_X5_read_61, e_X5_read_62, e_X5_read_63, e_X5_read_66, e_X5_read_69, e_X5_read_72, e_X5_read_73, e_X5_read_74, e_X5_read_77, e_X5_read_80, e_X5_read_81, e_X5_read_82, e_X5_read_85, e_X5_read_88, e_X5_read_89, e_X5_read_92, e_X5_read_95, e_X5_read_96, e_X5_read_99, e_X5_read_102, e_X5_read_103, e_X5_read_106, e_X5_read_109, e_X5_read_111, e_X5_read_114, e_X5_read_115, e_X5_read_116, e_X5_read_117, e_X5_read_118, e_X5_read_121, e_X5_read_122, ob_r hf, rk_r0 hf, ob_1, kcl_i, kcl_r, kcl_l, kcl_0, kcl_n, true_and, and_true, jpF (show k < to by omega) (by omega), if_false, c_atN (q n A p S g h _) h80 (qT n A p S g h _) (show k < 100000 by omega), hA, qP_7, fb_t, z10, a6 sc d, tn_s]
      | false =>
        have hq := (q_join (i := i) (b := b) (n := n) (A := A) (p := p) (S := S) (g := g) (h := h) (v := T k) hf (by omega) g4 g5).1 s hst
        obtain ⟨n', A', p', S', a1, a2, a3, a4, a5, a6⟩ := hq
        refine ⟨n', A', p', S', by omega, a2, a3, a4, a5, fun sc d cu su l f t sp K v3 => ?_⟩
        obtain ⟨v3', e⟩ := g6 sc d cu su l f t sp K v3
        refine ⟨.int (T k), e.trans ?_⟩
        refine e_X5_read_40.trans ?_
        simp only [e_X5_read_0, e_X5_read_1, e_X5_read_2, e_X5_read_5, e_X5_read_6, e_X5_read_7, e_X5_read_10, e_X5_read_11, e_X5_read_12, e_X5_read_15, e_X5_read_16, e_X5_read_17, e_X5_read_20, e_X5_read_21, e_X5_read_22, e_X5_read_25, e_X5_read_26, e_X5_read_29, e_X5_read_32, e_X5_read_34, e_X5_read_37, e_X5_read_38, e_X5_read_39, e_X5_read_41, e_X5_read_42, e_X5_read_45, e_X5_read_46, e_X5_read_49, e_X5_read_50, e_X5_read_53, e_X5_read_54, e_X5_read_55, e_X5_read_58, e_X5_read_61, e_X5_read_62, e_X5_read_63, e_X5_read_66, e_X5_read_69, e_X5_read_72, e_X5_read_73, e_X5_read_74, e_X5_read_77, e_X5_read_80, e_X5_read_81, e_X5_read_82, e_X5_read_85, e_X5_read_88, e_X5_read_89, e_X5_read_92, e_X5_read_95, e_X5_read_96, e_X5_read_99, e_X5_read_102, e_X5_read_103, e_X5_read_106, e_X5_read_109, e_X5_read_111, e_X5_read_114, e_X5_read_115, e_X5_read_116, e_X5_read_117, e_X5_read_118, e_X5_read_121, e_X5_read_122, ob_r hf, rk_r0 hf, ob_1, kcl_i, kcl_r, kcl_l, kcl_0, kcl_n, true_and, and_true, jpF (show k < to by omega) (by omega), if_false, c_atN (q n A p S g h _) h80 (qT n A p S g h _) (show k < 100000 by omega), hA, qP_7, fb_f, if_true, z10, a6 sc d, tn_s]
theorem qP_in : kupi (kupi (kupi (kupi (kupi i b 2 0) b 4 0) b 5 0) b 6 0) b 7 1 = qP i b 0 (i (b + 1)) 0 (i (b + 2)) 0 0 1 := by
  funext x j; unfold kupi qP
  by_cases e : x = b
  · subst e
    by_cases e2 : j = 2
    · subst e2; simp
    · by_cases e4 : j = 4
      · subst e4; simp
      · by_cases e5 : j = 5
        · subst e5; simp
        · by_cases e6 : j = 6
          · subst e6; simp
          · by_cases e7 : j = 7
            · subst e7; simp
            · simp [e2, e4, e5, e6, e7]
  · simp only [e, false_and, if_false]
    by_cases e1 : x = b + 1 ∧ j < 40
    · rw [if_pos e1, e1.1]
    · rw [if_neg e1]
      by_cases e2 : x = b + 2 ∧ j < 40
      · rw [if_pos e2, e2.1]
      · rw [if_neg e2]
/-- a call of read: its answer, its cells -/
def QQ (b : Nat) (i : Nat → Nat → Int32) (r : Int32) (n : Nat) (A : Nat → Int32) (p : Nat) (S : Nat → Int32) (g h : Nat) (u : Int32) : Prop :=
  ∀ (sc : Nat × (Nat → Int32)) (d y nx : Nat) (hd : List (Int × Nat)) (L st : List Value) (cu su : Nat) (l : Nat → Nat → Int64) (f t : Nat) (sp : Nat → Nat) (K : Option (Option Value) → kS → Prop), kCA sc (d + 6) 44 [.ref b] y nx hd L st ((120, cu, su), i, l, kR f t sp) K = kWP sc (d + 6) y nx L (.int r :: st) ((120, cu, su), qP i b n A p S g h u, l, kR f t sp) K
theorem q_read (hf : kRc b = true) (hn : i 1 1 = Int32.ofNat n2) (h80 : n2 ≤ 80) (hT : ∀ x, x < n2 → i 2 x = T x) (hto : to = min n2 40) :
    (∀ z s, z < to → goL T z 0 ([], [], 0, 0, true) = some s → stepL s (T z) = none → ∃ n A p S g h u, QQ b i (Int32.ofNat z) n A p S g h u) ∧
    (∀ s, goL T to 0 ([], [], 0, 0, true) = some s → (s.2.2.2.2 = true ∨ 0 < s.2.2.1 ∨ 40 < n2) → ∃ n A p S g h u, QQ b i (Int32.ofNat to) n A p S g h u) ∧
    (∀ s, goL T to 0 ([], [], 0, 0, true) = some s → s.2.2.2.2 = false → s.2.2.1 = 0 → n2 ≤ 40 → ∃ n A p S g h u, n ≤ 40 ∧ SL n A = (rel 1 s.2.1 s.1).2 ∧ QQ b i (-1) n A p S g h u) := by
  have hto' : to ≤ n2 ∧ to ≤ 40 := by omega
  have emin : (if (40 : Int32) < Int32.ofNat n2 then (40 : Int32) else Int32.ofNat n2) = Int32.ofNat to := by
    rw [show (40 : Int32) = Int32.ofNat 40 from rfl]
    by_cases c : 40 < n2
    · rw [if_pos (by rw [tn_lt (by decide) (by omega)]; exact c), hto, Nat.min_eq_right (by omega)]
    · rw [if_neg (by rw [tn_lt (by decide) (by omega)]; exact c), hto, Nat.min_eq_left (by omega)]
  have q := fun n A p S g h u => (show qP i b n A p S g h u 1 1 = Int32.ofNat n2 by rw [qP_lo hf (by decide)]; exact hn)
  have qT := fun n A p S g h u => (show ∀ x, x < n2 → qP i b n A p S g h u 2 x = T x by rw [qP_lo hf (by decide)]; exact hT)
  have start : ∀ (sc : Nat × (Nat → Int32)) (d cu su : Nat) (l : Nat → Nat → Int64) (f t : Nat) (sp : Nat → Nat) (K : Option (Option Value) → kS → Prop), kWP sc (d + 5) 44 0 [.ref b, .retAddr 0, .retAddr 0, .retAddr 0] [] ((120, cu, su), i, l, kR f t sp) K = kWP sc (d + 5) 44 40 [.ref b, .int (Int32.ofNat to), .int (Int32.ofNat 0), .retAddr 0] [] ((120, cu, su), qP i b 0 (i (b + 1)) 0 (i (b + 2)) 0 0 1, l, kR f t sp) K := by
    intro sc d cu su l f t sp K
    simp only [e_X5_read_0, e_X5_read_1, e_X5_read_2, e_X5_read_5, e_X5_read_6, e_X5_read_7, e_X5_read_10, e_X5_read_11, e_X5_read_12, e_X5_read_15, e_X5_read_16, e_X5_read_17, e_X5_read_20, e_X5_read_21, e_X5_read_22, e_X5_read_25, e_X5_read_26, e_X5_read_29, e_X5_read_32, e_X5_read_34, e_X5_read_37, e_X5_read_38, e_X5_read_39, e_X5_read_41, e_X5_read_42, e_X5_read_45, e_X5_read_46, e_X5_read_49, e_X5_read_50, e_X5_read_53, e_X5_read_54, e_X5_read_55, e_X5_read_58, e_X5_read_61, e_X5_read_62, e_X5_read_63, e_X5_read_66, e_X5_read_69, e_X5_read_72, e_X5_read_73, e_X5_read_74, e_X5_read_77, e_X5_read_80, e_X5_read_81, e_X5_read_82, e_X5_read_85, e_X5_read_88, e_X5_read_89, e_X5_read_92, e_X5_read_95, e_X5_read_96, e_X5_read_99, e_X5_read_102, e_X5_read_103, e_X5_read_106, e_X5_read_109, e_X5_read_111, e_X5_read_114, e_X5_read_115, e_X5_read_116, e_X5_read_117, e_X5_read_118, e_X5_read_121, e_X5_read_122, ob_r hf, rk_r0 hf, ob_1, kcl_i, kcl_r, kcl_l, kcl_0, kcl_n, true_and, and_true, qP_in, q, emin, or_true]
    rfl
  have e40 : (Int32.ofNat n2 ≤ 40) = (n2 ≤ 40) := by rw [show (40 : Int32) = Int32.ofNat 40 from rfl, tn_le (by omega) (by decide)]
  refine ⟨fun z s hz hs hb => ?_, fun s hs hE => ?_, fun s hs hu hg h40 => ?_⟩
  · obtain ⟨n, A, p, S, g1, g2, g3, g4, g5, g6⟩ := q_signs hf hn h80 hT hto' z s (by omega) hs
    obtain ⟨w, st1, g, h, u⟩ := s
    dsimp only at g2 g3 g4 g5 g6
    subst g2; subst g3
    have hA : tA T n2 z = T z := by unfold tA; rw [if_pos (by omega)]
    cases u with
    | true =>
      obtain ⟨n', A', p', S', g', h', u', a6⟩ := (q_part (i := i) (b := b) (n := n) (A := A) (p := p) (S := S) (g := g) (h := h) (v := T z) hf (by omega) g4 g5).2 hb
      refine ⟨n', A', p', S', g', h', u', fun sc d y nx hd L st cu su l f t sp K => ?_⟩
      refine kCA_of (d := d + 5) (v := some (.int (Int32.ofNat z))) (fun K => ?_)
      rw [km_44]
      show kWP sc (d + 5) 44 0 [.ref b, .retAddr 0, .retAddr 0, .retAddr 0] [] _ K = _
      obtain ⟨v3', e⟩ := g6 sc d cu su l f t sp K (.retAddr 0)
      rw [start, e]
      refine e_X5_read_40.trans ?_
      simp only [e_X5_read_0, e_X5_read_1, e_X5_read_2, e_X5_read_5, e_X5_read_6, e_X5_read_7, e_X5_read_10, e_X5_read_11, e_X5_read_12, e_X5_read_15, e_X5_read_16, e_X5_read_17, e_X5_read_20, e_X5_read_21, e_X5_read_22, e_X5_read_25, e_X5_read_26, e_X5_read_29, e_X5_read_32, e_X5_read_34, e_X5_read_37, e_X5_read_38, e_X5_read_39, e_X5_read_41, e_X5_read_42, e_X5_read_45, e_X5_read_46, e_X5_read_49, e_X5_read_50, e_X5_read_53, e_X5_read_54, e_X5_read_55, e_X5_read_58, e_X5_read_61, e_X5_read_62, e_X5_read_63, e_X5_read_66, e_X5_read_69, e_X5_read_72, e_X5_read_73, e_X5_read_74, e_X5_read_77, e_X5_read_80, e_X5_read_81, e_X5_read_82, e_X5_read_85, e_X5_read_88, e_X5_read_89, e_X5_read_92, e_X5_read_95, e_X5_read_96, e_X5_read_99, e_X5_read_102, e_X5_read_103, e_X5_read_106, e_X5_read_109, e_X5_read_111, e_X5_read_114, e_X5_read_115, e_X5_read_116, e_X5_read_117, e_X5_read_118, e_X5_read_121, e_X5_read_122, ob_r hf, rk_r0 hf, ob_1, kcl_i, kcl_r, kcl_l, kcl_0, kcl_n, true_and, and_true, jpF (show z < to by omega) (by omega), if_false, c_atN (q n A p S g h _) h80 (qT n A p S g h _) (show z < 100000 by omega), hA, qP_7, fb_t, z10, a6 sc d, if_true]
    | false =>
      obtain ⟨n', A', p', S', g', h', u', a6⟩ := (q_join (i := i) (b := b) (n := n) (A := A) (p := p) (S := S) (g := g) (h := h) (v := T z) hf (by omega) g4 g5).2 hb
      refine ⟨n', A', p', S', g', h', u', fun sc d y nx hd L st cu su l f t sp K => ?_⟩
      refine kCA_of (d := d + 5) (v := some (.int (Int32.ofNat z))) (fun K => ?_)
      rw [km_44]
      show kWP sc (d + 5) 44 0 [.ref b, .retAddr 0, .retAddr 0, .retAddr 0] [] _ K = _
      obtain ⟨v3', e⟩ := g6 sc d cu su l f t sp K (.retAddr 0)
      rw [start, e]
      refine e_X5_read_40.trans ?_
      simp only [e_X5_read_0, e_X5_read_1, e_X5_read_2, e_X5_read_5, e_X5_read_6, e_X5_read_7, e_X5_read_10, e_X5_read_11, e_X5_read_12, e_X5_read_15, e_X5_read_16, e_X5_read_17, e_X5_read_20, e_X5_read_21, e_X5_read_22, e_X5_read_25, e_X5_read_26, e_X5_read_29, e_X5_read_32, e_X5_read_34, e_X5_read_37, e_X5_read_38, e_X5_read_39, e_X5_read_41, e_X5_read_42, e_X5_read_45, e_X5_read_46, e_X5_read_49, e_X5_read_50, e_X5_read_53, e_X5_read_54, e_X5_read_55, e_X5_read_58, e_X5_read_61, e_X5_read_62, e_X5_read_63, e_X5_read_66, e_X5_read_69, e_X5_read_72, e_X5_read_73, e_X5_read_74, e_X5_read_77, e_X5_read_80, e_X5_read_81, e_X5_read_82, e_X5_read_85, e_X5_read_88, e_X5_read_89, e_X5_read_92, e_X5_read_95, e_X5_read_96, e_X5_read_99, e_X5_read_102, e_X5_read_103, e_X5_read_106, e_X5_read_109, e_X5_read_111, e_X5_read_114, e_X5_read_115, e_X5_read_116, e_X5_read_117, e_X5_read_118, e_X5_read_121, e_X5_read_122, ob_r hf, rk_r0 hf, ob_1, kcl_i, kcl_r, kcl_l, kcl_0, kcl_n, true_and, and_true, jpF (show z < to by omega) (by omega), if_false, c_atN (q n A p S g h _) h80 (qT n A p S g h _) (show z < 100000 by omega), hA, qP_7, fb_f, if_true, a6 sc d]
  · obtain ⟨n, A, p, S, g1, g2, g3, g4, g5, g6⟩ := q_signs hf hn h80 hT hto' to s (Nat.le_refl _) hs
    obtain ⟨w, st1, g, h, u⟩ := s
    dsimp only at g2 g3 g4 g5 g6 hE
    refine ⟨n, A, p, S, g, h, fb u, fun sc d y nx hd L st cu su l f t sp K => ?_⟩
    refine kCA_of (d := d + 5) (v := some (.int (Int32.ofNat to))) (fun K => ?_)
    rw [km_44]
    show kWP sc (d + 5) 44 0 [.ref b, .retAddr 0, .retAddr 0, .retAddr 0] [] _ K = _
    obtain ⟨v3', e⟩ := g6 sc d cu su l f t sp K (.retAddr 0)
    rw [start, e]
    refine e_X5_read_40.trans ?_
    simp only [e_X5_read_0, e_X5_read_1, e_X5_read_2, e_X5_read_5, e_X5_read_6, e_X5_read_7, e_X5_read_10, e_X5_read_11, e_X5_read_12, e_X5_read_15, e_X5_read_16, e_X5_read_17, e_X5_read_20, e_X5_read_21, e_X5_read_22, e_X5_read_25, e_X5_read_26, e_X5_read_29, e_X5_read_32, e_X5_read_34, e_X5_read_37, e_X5_read_38, e_X5_read_39, e_X5_read_41, e_X5_read_42, e_X5_read_45, e_X5_read_46, e_X5_read_49, e_X5_read_50, e_X5_read_53, e_X5_read_54, e_X5_read_55, e_X5_read_58, e_X5_read_61, e_X5_read_62, e_X5_read_63, e_X5_read_66, e_X5_read_69, e_X5_read_72, e_X5_read_73, e_X5_read_74, e_X5_read_77, e_X5_read_80, e_X5_read_81, e_X5_read_82, e_X5_read_85, e_X5_read_88, e_X5_read_89, e_X5_read_92, e_X5_read_95, e_X5_read_96, e_X5_read_99, e_X5_read_102, e_X5_read_103, e_X5_read_106, e_X5_read_109, e_X5_read_111, e_X5_read_114, e_X5_read_115, e_X5_read_116, e_X5_read_117, e_X5_read_118, e_X5_read_121, e_X5_read_122, ob_r hf, rk_r0 hf, ob_1, kcl_i, kcl_r, kcl_l, kcl_0, kcl_n, true_and, and_true, Int32.le_refl, if_true, qP_7, qP_5, q, e40]
    cases u with
    | true => simp only [fb_t, z10, if_false]
    | false =>
      by_cases c1 : 0 < g
      · have : ((0 : Int32) < Int32.ofNat g) = True := by rw [show (0 : Int32) = Int32.ofNat 0 from rfl, tn_lt (by decide) (by omega)]; exact eq_true c1
        simp only [fb_f, if_true, this]
      · have : ((0 : Int32) < Int32.ofNat g) = False := by rw [show (0 : Int32) = Int32.ofNat 0 from rfl, tn_lt (by decide) (by omega)]; exact eq_false c1
        have h3 : (n2 ≤ 40) = False := eq_false (by rcases hE with z | z | z; cases z; omega; omega)
        simp only [fb_f, if_true, this, if_false, h3]
  · obtain ⟨n, A, p, S, g1, g2, g3, g4, g5, g6⟩ := q_signs hf hn h80 hT hto' to s (Nat.le_refl _) hs
    obtain ⟨w, st1, g, h, u⟩ := s
    dsimp only at g2 g3 g4 g5 g6 hu hg
    subst hu; subst hg; subst g2; subst g3
    have hr := relF_L (k := 1) (p := p) (S := S) (n := n) (A := A)
    have hle := @relF_le S 1 p n A
    refine ⟨(relF 1 S p n A).2.1, (relF 1 S p n A).2.2, (relF 1 S p n A).1, S, 0, h, 0, by omega, by rw [hr], fun sc d y nx hd L st cu su l f t sp K => ?_⟩
    refine kCA_of (d := d + 5) (v := some (.int (-1))) (fun K => ?_)
    rw [km_44]
    show kWP sc (d + 5) 44 0 [.ref b, .retAddr 0, .retAddr 0, .retAddr 0] [] _ K = _
    obtain ⟨v3', e⟩ := g6 sc d cu su l f t sp K (.retAddr 0)
    rw [start, e]
    refine e_X5_read_40.trans ?_
    have rl := fun (y nx : Nat) (L st : List Value) (hd : List (Int × Nat)) (K : Option (Option Value) → kS → Prop) => q_release (sc := sc) (d := d + 3) (y := y) (nx := nx) (hd := hd) (L := L) (st := st) (cu := cu) (su := su) (i := i) (l := l) (f := f) (t := t) (sp := sp) (K := K) (b := b) (n := n) (A := A) (p := p) (S := S) (g := 0) (h := h) (u := 0) (k := 1) hf (show 1 ≤ 1 ∧ 1 ≤ 4 by decide) (show p + n ≤ 40 by omega)
    simp only [show Int32.ofNat 1 = (1 : Int32) from rfl] at rl
    simp only [e_X5_read_0, e_X5_read_1, e_X5_read_2, e_X5_read_5, e_X5_read_6, e_X5_read_7, e_X5_read_10, e_X5_read_11, e_X5_read_12, e_X5_read_15, e_X5_read_16, e_X5_read_17, e_X5_read_20, e_X5_read_21, e_X5_read_22, e_X5_read_25, e_X5_read_26, e_X5_read_29, e_X5_read_32, e_X5_read_34, e_X5_read_37, e_X5_read_38, e_X5_read_39, e_X5_read_41, e_X5_read_42, e_X5_read_45, e_X5_read_46, e_X5_read_49, e_X5_read_50, e_X5_read_53, e_X5_read_54, e_X5_read_55, e_X5_read_58, e_X5_read_61, e_X5_read_62, e_X5_read_63, e_X5_read_66, e_X5_read_69, e_X5_read_72, e_X5_read_73, e_X5_read_74, e_X5_read_77, e_X5_read_80, e_X5_read_81, e_X5_read_82, e_X5_read_85, e_X5_read_88, e_X5_read_89, e_X5_read_92, e_X5_read_95, e_X5_read_96, e_X5_read_99, e_X5_read_102, e_X5_read_103, e_X5_read_106, e_X5_read_109, e_X5_read_111, e_X5_read_114, e_X5_read_115, e_X5_read_116, e_X5_read_117, e_X5_read_118, e_X5_read_121, e_X5_read_122, ob_r hf, rk_r0 hf, ob_1, kcl_i, kcl_r, kcl_l, kcl_0, kcl_n, true_and, and_true, Int32.le_refl, if_true, qP_7, qP_5, q, e40, fb_f, show ((0 : Int32) < Int32.ofNat 0) = False from eq_false (by decide), if_false, h40, rl]
end TC
