/-! a rule's text: both read a part alike -/
section TC
variable {sc : Nat × (Nat → Int32)} {d y nx : Nat} {hd : List (Int × Nat)} {L st : List Value} {S : kS} {cu su : Nat} {i : Nat → Nat → Int32} {l : Nat → Nat → Int64} {f t c b m : Nat} {sp : Nat → Nat} {K : Option (Option Value) → kS → Prop}
variable {N M Z S1 Q A S C C' : Nat → Int32} {n n2 k x a o g c h p to x' g' c' r : Nat} {v q u : Int32} {T : Nat → Int32} {w s σ : List Int32}
theorem sub_add1 {c : Nat} : Int32.ofNat (c + 1) - 1 = Int32.ofNat c := sub1
theorem th_of (ho : o ≤ 40) (h1000 : ∀ x, x < o → ¬ T x = 1000) (hx : x ≤ o) (H : ∀ x', x < x' → x' ≤ o → TH T o x' ∧ RK T o 0 x') : TH T o x := by
  intro g c C σ h0 hg hc hok
  have o80 : o ≤ 80 := by omega
  have tS14 : ∀ (i : Nat → Nat → Int32) (C : Nat → Int32) (c x g : Nat), tS (kS3 i C c) x o g 91 14 = Int32.ofNat g := fun _ _ _ _ _ => rfl
  have s7 := str7
  by_cases c1 : x < o ∧ T x = 45
  · obtain ⟨v, x', g', c', C', hm, h1, h2, h3, h4⟩ := (H (x + 1) (by omega) (by omega)).1 g c C (3000 :: σ) h0 hg (by omega) hok
    have st1 : stepL ((SL c C).map trC, σ, g, h0, true) (T x) = some ((SL c C).map trC, 3000 :: σ, g, h0, true) := by
      show stepP _ _ _ _ (T x) = _
      unfold stepP; rw [if_pos c1.2]
    have hv : kbool v = v := by
      rcases h4 with z | z
      · rw [z.1]; decide
      · rw [z.1]; decide
    refine ⟨v, x', g', c' + 1, kuf C' c' 3000, ?_, by omega, h2, by omega, ?_⟩
    · intro i hT sc D y nx hd L st cu su l f t sp K hD
      obtain ⟨e, rfl⟩ : ∃ e, D = e + 3 := ⟨D - 3, by omega⟩
      have W := fun (y nx : Nat) (hd : List (Int × Nat)) (L st : List Value) (K : Option (Option Value) → kS → Prop) => hm i hT sc (e + 2) y nx hd L st cu su l f t sp K (by omega)
      refine kCA_of (d := e + 2) (v := some (.int v)) (fun K => ?_)
      rw [km_183]
      show kWP sc (e + 2) 183 0 [.ref 91, .retAddr 0] [] _ K = _
      simp only [e_X11_readsThing_0, e_X11_readsThing_1, e_X11_readsThing_3, e_X11_readsThing_6, e_X11_readsThing_9, e_X11_readsThing_10, e_X11_readsThing_13, e_X11_readsThing_14, e_X11_readsThing_15, e_X11_readsThing_18, e_X11_readsThing_21, e_X11_readsThing_22, e_X11_readsThing_23, e_X11_readsThing_24, e_X11_readsThing_27, e_X11_readsThing_30, e_X11_readsThing_31, e_X11_readsThing_32, e_X11_readsThing_33, e_X11_readsThing_36, e_X11_readsThing_39, e_X11_readsThing_40, e_X11_readsThing_41, e_X11_readsThing_42, e_X11_readsThing_44, e_X11_readsThing_47, e_X11_readsThing_48, e_X11_readsThing_49, e_X11_readsThing_52, e_X11_readsThing_53, e_X11_readsThing_56, e_X11_readsThing_57, e_X11_readsThing_58, e_X11_readsThing_61, e_X11_readsThing_62, e_X11_readsThing_63, e_X11_readsThing_64, e_X11_readsThing_67, e_X11_readsThing_68, e_X11_readsThing_71, e_X11_readsThing_72, e_X11_readsThing_74, e_X11_readsThing_77, e_X11_readsThing_80, e_X11_readsThing_81, e_X11_readsThing_82, e_X11_readsThing_83, e_X11_readsThing_84, e_X11_readsThing_87, e_X11_readsThing_88, e_X11_readsThing_89, e_X11_readsThing_92, e_X11_readsThing_93, e_X11_readsThing_94, e_X11_readsThing_97, e_X11_readsThing_100, e_X11_readsThing_101, e_X11_readsThing_103, e_X11_readsThing_106, e_X11_readsThing_109, e_X11_readsThing_110, e_X11_readsThing_111, e_X11_readsThing_112, e_X11_readsThing_113, e_X11_readsThing_116, e_X11_readsThing_117, e_X11_readsThing_118, e_X11_readsThing_121, e_X11_readsThing_122, ob_91, kcl_i, kcl_r, kcl_l, kcl_0, kcl_n, true_and, and_true, m_takesT o80 hx hT, kb_0, c1, and_self, not_true_eq_false, if_true, if_false, W, m_codes (show c' < 80 by omega), hv, true_and]
    · rcases h4 with ⟨a1, a2, a3, a4, k, w, h, a5, a6, a7⟩ | ⟨z1, z2⟩
      · have er : List.replicate k (3000 : Int32) ++ 3000 :: σ = List.replicate (k + 1) 3000 ++ σ := by rw [List.replicate_succ', List.append_assoc]; rfl
        rw [er] at a5 a7
        refine Or.inl ⟨a1, a2, ?_, ?_, k + 1, w, h, goL_to (by omega) h1 (goL_s st1) a5, ?_, a7⟩
        · rw [SL_p]
          refine ⟨a3, fun _ => by omega, fun z => absurd rfl z, fun z => absurd z (by decide)⟩
        · rw [SL_p]
          show (if (3000 : Int32) = 3000 then depL (SL c' C') else _) = _
          rw [if_pos rfl, a4]
        · rw [SL_p, List.map_cons, a6, trC_m]; rfl
      · exact Or.inr ⟨z1, bdE_to (by omega) h1 (goL_s st1) z2⟩
  by_cases c2 : x < o ∧ isDg (T x) = true
  · have n45 : (T x = 45) = False := eq_false (fun z => c1 ⟨c2.1, z⟩)
    obtain ⟨k, v, k1, k2, k3, k4, k5, k6, k7⟩ := num_ok ho c2.1 c2.2
    obtain ⟨t1, t2, t3, t4⟩ := trC_n k4
    refine ⟨1, x + k, g, c + 1, kuf C c (Int32.ofNat v), ?_, by omega, k3, by omega, Or.inl ⟨rfl, rfl, ?_, ?_, 0, Int32.ofNat v :: (SL c C).map trC, k, ?_, ?_, ?_⟩⟩
    · intro i hT sc D y nx hd L st cu su l f t sp K hD
      obtain ⟨e, rfl⟩ : ∃ e, D = e + 4 := ⟨D - 4, by omega⟩
      refine kCA_of (d := e + 3) (v := some (.int 1)) (fun K => ?_)
      rw [km_183]
      show kWP sc (e + 3) 183 0 [.ref 91, .retAddr 0] [] _ K = _
      simp only [e_X11_readsThing_0, e_X11_readsThing_1, e_X11_readsThing_3, e_X11_readsThing_6, e_X11_readsThing_9, e_X11_readsThing_10, e_X11_readsThing_13, e_X11_readsThing_14, e_X11_readsThing_15, e_X11_readsThing_18, e_X11_readsThing_21, e_X11_readsThing_22, e_X11_readsThing_23, e_X11_readsThing_24, e_X11_readsThing_27, e_X11_readsThing_30, e_X11_readsThing_31, e_X11_readsThing_32, e_X11_readsThing_33, e_X11_readsThing_36, e_X11_readsThing_39, e_X11_readsThing_40, e_X11_readsThing_41, e_X11_readsThing_42, e_X11_readsThing_44, e_X11_readsThing_47, e_X11_readsThing_48, e_X11_readsThing_49, e_X11_readsThing_52, e_X11_readsThing_53, e_X11_readsThing_56, e_X11_readsThing_57, e_X11_readsThing_58, e_X11_readsThing_61, e_X11_readsThing_62, e_X11_readsThing_63, e_X11_readsThing_64, e_X11_readsThing_67, e_X11_readsThing_68, e_X11_readsThing_71, e_X11_readsThing_72, e_X11_readsThing_74, e_X11_readsThing_77, e_X11_readsThing_80, e_X11_readsThing_81, e_X11_readsThing_82, e_X11_readsThing_83, e_X11_readsThing_84, e_X11_readsThing_87, e_X11_readsThing_88, e_X11_readsThing_89, e_X11_readsThing_92, e_X11_readsThing_93, e_X11_readsThing_94, e_X11_readsThing_97, e_X11_readsThing_100, e_X11_readsThing_101, e_X11_readsThing_103, e_X11_readsThing_106, e_X11_readsThing_109, e_X11_readsThing_110, e_X11_readsThing_111, e_X11_readsThing_112, e_X11_readsThing_113, e_X11_readsThing_116, e_X11_readsThing_117, e_X11_readsThing_118, e_X11_readsThing_121, e_X11_readsThing_122, ob_91, kcl_i, kcl_r, kcl_l, kcl_0, kcl_n, true_and, and_true, m_takesT o80 hx hT, kb_0, n45, and_false, not_false_eq_true, if_true, if_false, m_isDigitT o80 hx hT, c2, and_self, not_true_eq_false, k7 i hT sc e, m_codes (show c < 80 by omega), kbool_1, true_and]
    · rw [SL_p]
      exact ⟨hok, fun z => absurd z t2, fun _ z => absurd t3 z, fun _ z => absurd t4 z⟩
    · rw [SL_p]
      show (if Int32.ofNat v = 3000 then _ else if Int32.ofNat v < 2000 then depL (SL c C) + 1 else _) = _
      rw [if_neg t2, if_pos t3]
    · rw [show x + k - x = k by omega]; exact k5 _ _ _ _
    · rw [SL_p, List.map_cons, t1]; rfl
    · refine nxt_d h1000 ?_
      by_cases q : k = 3
      · exact Or.inl (by omega)
      · exact Or.inr (fun z1 z2 => q (k6 z1 z2))
  by_cases c3 : x < o ∧ isLe (T x) = true
  · have n45 : (T x = 45) = False := eq_false (fun z => c1 ⟨c3.1, z⟩)
    have ndg : (isDg (T x) = true) = False := eq_false (fun z => c2 ⟨c3.1, z⟩)
    rcases @pAm_le (T x) with ⟨_, z⟩ | ⟨k, hk, e1, e2⟩
    · rw [z] at c3; exact absurd c3.2 (by decide)
    · obtain ⟨t1, t2, t3, t4⟩ := trC_l k hk
      obtain ⟨l1, l2, l3, l4⟩ := le_trL k hk
      have st1 : stepL ((SL c C).map trC, σ, g, h0, true) (T x) = some ((1000 + T x) :: (SL c C).map trC, σ, g, 0, false) := by
        show stepP _ _ _ _ (T x) = _
        unfold stepP
        rw [e2, if_neg l3, if_neg l4, if_neg (by rw [l2]; decide), if_pos l1]
      have ek : ¬ Int32.ofNat k = -1 := m1_ne (by omega)
      have e1000 : (1000 : Int32) + Int32.ofNat k = Int32.ofNat (1000 + k) := by rw [show (1000 : Int32) = Int32.ofNat 1000 from rfl, ← Int32.ofNat_add]
      refine ⟨1, x + 1, g, c + 1, kuf C c (Int32.ofNat (1000 + k)), ?_, by omega, by omega, by omega, Or.inl ⟨rfl, rfl, ?_, ?_, 0, (1000 + T x) :: (SL c C).map trC, 0, goL_s st1, ?_, ?_⟩⟩
      · intro i hT sc D y nx hd L st cu su l f t sp K hD
        obtain ⟨e, rfl⟩ : ∃ e, D = e + 4 := ⟨D - 4, by omega⟩
        refine kCA_of (d := e + 3) (v := some (.int 1)) (fun K => ?_)
        rw [km_183]
        show kWP sc (e + 3) 183 0 [.ref 91, .retAddr 0] [] _ K = _
        simp only [e_X11_readsThing_0, e_X11_readsThing_1, e_X11_readsThing_3, e_X11_readsThing_6, e_X11_readsThing_9, e_X11_readsThing_10, e_X11_readsThing_13, e_X11_readsThing_14, e_X11_readsThing_15, e_X11_readsThing_18, e_X11_readsThing_21, e_X11_readsThing_22, e_X11_readsThing_23, e_X11_readsThing_24, e_X11_readsThing_27, e_X11_readsThing_30, e_X11_readsThing_31, e_X11_readsThing_32, e_X11_readsThing_33, e_X11_readsThing_36, e_X11_readsThing_39, e_X11_readsThing_40, e_X11_readsThing_41, e_X11_readsThing_42, e_X11_readsThing_44, e_X11_readsThing_47, e_X11_readsThing_48, e_X11_readsThing_49, e_X11_readsThing_52, e_X11_readsThing_53, e_X11_readsThing_56, e_X11_readsThing_57, e_X11_readsThing_58, e_X11_readsThing_61, e_X11_readsThing_62, e_X11_readsThing_63, e_X11_readsThing_64, e_X11_readsThing_67, e_X11_readsThing_68, e_X11_readsThing_71, e_X11_readsThing_72, e_X11_readsThing_74, e_X11_readsThing_77, e_X11_readsThing_80, e_X11_readsThing_81, e_X11_readsThing_82, e_X11_readsThing_83, e_X11_readsThing_84, e_X11_readsThing_87, e_X11_readsThing_88, e_X11_readsThing_89, e_X11_readsThing_92, e_X11_readsThing_93, e_X11_readsThing_94, e_X11_readsThing_97, e_X11_readsThing_100, e_X11_readsThing_101, e_X11_readsThing_103, e_X11_readsThing_106, e_X11_readsThing_109, e_X11_readsThing_110, e_X11_readsThing_111, e_X11_readsThing_112, e_X11_readsThing_113, e_X11_readsThing_116, e_X11_readsThing_117, e_X11_readsThing_118, e_X11_readsThing_121, e_X11_readsThing_122, ob_91, kcl_i, kcl_r, kcl_l, kcl_0, kcl_n, true_and, and_true, m_takesT o80 hx hT, kb_0, n45, ndg, and_false, not_false_eq_true, if_true, if_false, m_isDigitT o80 hx hT, m_takesOfT o80 hx hT s7.1 s7.2 (show 7 < 100000 by decide), e1, c3.1, ek, and_self, tn_n0 (show k < 2147483648 by omega), e1000, m_codes (show c < 80 by omega), kbool_1, true_and]
      · rw [SL_p]
        exact ⟨hok, fun z => absurd z t2, fun _ z => absurd t3 z, fun _ _ => t4⟩
      · rw [SL_p]
        show (if Int32.ofNat (1000 + k) = 3000 then _ else if Int32.ofNat (1000 + k) < 2000 then depL (SL c C) + 1 else _) = _
        rw [if_neg t2, if_pos t3]
      · rw [SL_p, List.map_cons, t1, ← e2]; rfl
      · exact nxt_d h1000 (Or.inl (by omega))
  have am : (if x < o then pAm (kchr 1000007) 7 (T x) else -1) = (-1 : Int32) := by
    by_cases q : x < o
    · rw [if_pos q]
      rcases @pAm_le (T x) with ⟨z, _⟩ | ⟨k, hk, e1, e2⟩
      · exact z
      · exact absurd ⟨q, by rw [e2]; exact (le_trL k hk).1⟩ c3
    · rw [if_neg q]
  have am2 : ¬ (x < o ∧ ¬ pAm (kchr 1000007) 7 (T x) = -1) := by
    rintro ⟨q, z⟩
    rw [if_pos q] at am
    exact z am
  have m1 : ((-1 : Int32) < 0) = True := eq_true (by decide)
  have e4 : (Int32.ofNat g = 4) = (g = 4) := by rw [show (4 : Int32) = Int32.ofNat 4 from rfl, tn_eq (by omega) (by decide)]
  by_cases c4 : g < 4 ∧ x < o ∧ T x = 40
  · have g4 : (g = 4) = False := eq_false (by omega)
    have st1 : stepL ((SL c C).map trC, σ, g, h0, true) (T x) = some ((SL c C).map trC, 40 :: σ, g + 1, h0, true) := by
      show stepP _ _ _ _ (T x) = _
      unfold stepP
      rw [c4.2.2, if_neg (by decide), if_pos rfl, if_pos c4.1]
    obtain ⟨v, x', g', c', C', hm, h1, h2, h3, h4⟩ := (H (x + 1) (by omega) (by omega)).2 (g + 1) c C (40 :: σ) h0 (by omega) (by omega) hok (show bnd 40 ≤ 0 by decide)
    have hx1 : x < o ∧ T x = 40 := c4.2
    have n45 : (T x = 45) = False := eq_false (fun z => c1 ⟨hx1.1, z⟩)
    have ndg : (isDg (T x) = true) = False := eq_false (fun z => c2 ⟨hx1.1, z⟩)
    have am' : pAm (kchr 1000007) 7 (T x) = -1 := by rw [if_pos hx1.1] at am; exact am
    have pre : ∀ (i : Nat → Nat → Int32) (hT : ∀ x, x < o → i 98 x = T x) (sc : Nat × (Nat → Int32)) (e cu su : Nat) (l : Nat → Nat → Int64) (f t : Nat) (sp : Nat → Nat) (K : Option (Option Value) → kS → Prop), 6 * (o - x) ≤ e → kWP sc (e + 3) 183 0 [.ref 91, .retAddr 0] [] ((120, cu, su), tS (kS3 i C c) x o g, l, kR f t sp) K = kWP sc (e + 3) 183 97 [.ref 91, .int (-1)] [.int v] ((120, cu, su), tS (kS3 i C' c') x' o g', l, kR f t sp) K := by
      intro i hT sc e cu su l f t sp K he
      have W := fun (y nx : Nat) (hd : List (Int × Nat)) (L st : List Value) (K : Option (Option Value) → kS → Prop) => hm i hT sc (e + 3) y nx hd L st cu su l f t sp K (by omega)
      simp only [show Int32.ofNat 0 = (0 : Int32) from rfl] at W
      simp only [e_X11_readsThing_0, e_X11_readsThing_1, e_X11_readsThing_3, e_X11_readsThing_6, e_X11_readsThing_9, e_X11_readsThing_10, e_X11_readsThing_13, e_X11_readsThing_14, e_X11_readsThing_15, e_X11_readsThing_18, e_X11_readsThing_21, e_X11_readsThing_22, e_X11_readsThing_23, e_X11_readsThing_24, e_X11_readsThing_27, e_X11_readsThing_30, e_X11_readsThing_31, e_X11_readsThing_32, e_X11_readsThing_33, e_X11_readsThing_36, e_X11_readsThing_39, e_X11_readsThing_40, e_X11_readsThing_41, e_X11_readsThing_42, e_X11_readsThing_44, e_X11_readsThing_47, e_X11_readsThing_48, e_X11_readsThing_49, e_X11_readsThing_52, e_X11_readsThing_53, e_X11_readsThing_56, e_X11_readsThing_57, e_X11_readsThing_58, e_X11_readsThing_61, e_X11_readsThing_62, e_X11_readsThing_63, e_X11_readsThing_64, e_X11_readsThing_67, e_X11_readsThing_68, e_X11_readsThing_71, e_X11_readsThing_72, e_X11_readsThing_74, e_X11_readsThing_77, e_X11_readsThing_80, e_X11_readsThing_81, e_X11_readsThing_82, e_X11_readsThing_83, e_X11_readsThing_84, e_X11_readsThing_87, e_X11_readsThing_88, e_X11_readsThing_89, e_X11_readsThing_92, e_X11_readsThing_93, e_X11_readsThing_94, e_X11_readsThing_100, e_X11_readsThing_101, e_X11_readsThing_103, e_X11_readsThing_106, e_X11_readsThing_109, e_X11_readsThing_110, e_X11_readsThing_111, e_X11_readsThing_112, e_X11_readsThing_113, e_X11_readsThing_116, e_X11_readsThing_117, e_X11_readsThing_118, e_X11_readsThing_121, e_X11_readsThing_122, ob_91, kcl_i, kcl_r, kcl_l, kcl_0, kcl_n, true_and, and_true, m_takesT o80 hx hT, kb_0, n45, ndg, and_false, not_false_eq_true, if_true, if_false, m_isDigitT o80 hx hT, m_takesOfT o80 hx hT s7.1 s7.2 (show 7 < 100000 by decide), am', m1, tS14, e4, g4, not_true_eq_false]
      simp only [e_X11_readsThing_0, e_X11_readsThing_1, e_X11_readsThing_3, e_X11_readsThing_6, e_X11_readsThing_9, e_X11_readsThing_10, e_X11_readsThing_13, e_X11_readsThing_14, e_X11_readsThing_15, e_X11_readsThing_18, e_X11_readsThing_21, e_X11_readsThing_22, e_X11_readsThing_23, e_X11_readsThing_24, e_X11_readsThing_27, e_X11_readsThing_30, e_X11_readsThing_31, e_X11_readsThing_32, e_X11_readsThing_33, e_X11_readsThing_36, e_X11_readsThing_39, e_X11_readsThing_40, e_X11_readsThing_41, e_X11_readsThing_42, e_X11_readsThing_44, e_X11_readsThing_47, e_X11_readsThing_48, e_X11_readsThing_49, e_X11_readsThing_52, e_X11_readsThing_53, e_X11_readsThing_56, e_X11_readsThing_57, e_X11_readsThing_58, e_X11_readsThing_61, e_X11_readsThing_62, e_X11_readsThing_63, e_X11_readsThing_64, e_X11_readsThing_67, e_X11_readsThing_68, e_X11_readsThing_71, e_X11_readsThing_72, e_X11_readsThing_74, e_X11_readsThing_77, e_X11_readsThing_80, e_X11_readsThing_81, e_X11_readsThing_82, e_X11_readsThing_83, e_X11_readsThing_84, e_X11_readsThing_87, e_X11_readsThing_88, e_X11_readsThing_89, e_X11_readsThing_92, e_X11_readsThing_93, e_X11_readsThing_94, e_X11_readsThing_100, e_X11_readsThing_101, e_X11_readsThing_103, e_X11_readsThing_106, e_X11_readsThing_109, e_X11_readsThing_110, e_X11_readsThing_111, e_X11_readsThing_112, e_X11_readsThing_113, e_X11_readsThing_116, e_X11_readsThing_117, e_X11_readsThing_118, e_X11_readsThing_121, e_X11_readsThing_122, ob_91, kcl_i, kcl_r, kcl_l, kcl_0, kcl_n, true_and, and_true, hx1, ite_self, am', m1, and_self, and_false, not_true_eq_false, not_false_eq_true, if_true, if_false, m_takesT o80 hx hT, kb_0, tS14, e4, g4, tn_s, tW_14, W]
    rcases h4 with ⟨a1, a2, a3, a4, w, s, h, a5, a6, a7⟩ | ⟨z1, z2⟩
    · subst a1; subst a2
      have gx := goL_to (show x ≤ x + 1 by omega) h1 (goL_s st1) a5
      by_cases c5 : x' < o ∧ T x' = 41
      · have st2 : stepL (w, s, g + 1, h, false) (T x') = some ((SL c' C').map trC, σ, g, 0, false) := by
          show stepJ _ _ _ _ (T x') = _
          unfold stepJ
          rw [c5.2, if_neg (by decide), if_pos rfl, if_neg (by omega), a6]
          rfl
        refine ⟨1, x' + 1, g, c', C', ?_, by omega, by omega, by omega, Or.inl ⟨rfl, rfl, a3, a4, 0, (SL c' C').map trC, 0, goL_to (show x ≤ x' by omega) (by omega) gx (goL_s st2), rfl, nxt_d h1000 (Or.inl (by omega))⟩⟩
        intro i hT sc D y nx hd L st cu su l f t sp K hD
        obtain ⟨e, rfl⟩ : ∃ e, D = e + 4 := ⟨D - 4, by omega⟩
        refine kCA_of (d := e + 3) (v := some (.int 1)) (fun K => ?_)
        rw [km_183]
        show kWP sc (e + 3) 183 0 [.ref 91, .retAddr 0] [] _ K = _
        rw [pre i hT sc e cu su l f t sp K (by omega)]
        simp only [e_X11_readsThing_0, e_X11_readsThing_1, e_X11_readsThing_3, e_X11_readsThing_6, e_X11_readsThing_9, e_X11_readsThing_10, e_X11_readsThing_13, e_X11_readsThing_14, e_X11_readsThing_15, e_X11_readsThing_18, e_X11_readsThing_21, e_X11_readsThing_22, e_X11_readsThing_23, e_X11_readsThing_24, e_X11_readsThing_27, e_X11_readsThing_30, e_X11_readsThing_31, e_X11_readsThing_32, e_X11_readsThing_33, e_X11_readsThing_36, e_X11_readsThing_39, e_X11_readsThing_40, e_X11_readsThing_41, e_X11_readsThing_42, e_X11_readsThing_44, e_X11_readsThing_47, e_X11_readsThing_48, e_X11_readsThing_49, e_X11_readsThing_52, e_X11_readsThing_53, e_X11_readsThing_56, e_X11_readsThing_57, e_X11_readsThing_58, e_X11_readsThing_61, e_X11_readsThing_62, e_X11_readsThing_63, e_X11_readsThing_64, e_X11_readsThing_67, e_X11_readsThing_68, e_X11_readsThing_71, e_X11_readsThing_72, e_X11_readsThing_74, e_X11_readsThing_77, e_X11_readsThing_80, e_X11_readsThing_81, e_X11_readsThing_82, e_X11_readsThing_83, e_X11_readsThing_84, e_X11_readsThing_87, e_X11_readsThing_88, e_X11_readsThing_89, e_X11_readsThing_92, e_X11_readsThing_93, e_X11_readsThing_94, e_X11_readsThing_97, e_X11_readsThing_100, e_X11_readsThing_101, e_X11_readsThing_103, e_X11_readsThing_106, e_X11_readsThing_109, e_X11_readsThing_110, e_X11_readsThing_111, e_X11_readsThing_112, e_X11_readsThing_113, e_X11_readsThing_116, e_X11_readsThing_117, e_X11_readsThing_118, e_X11_readsThing_121, e_X11_readsThing_122, ob_91, kcl_i, kcl_r, kcl_l, kcl_0, kcl_n, true_and, and_true, z10, if_false, m_takesT o80 h2 hT, kb_0, c5, and_self, not_true_eq_false, if_true, tS14, sub1, tW_14, kbool_1, true_and]
      · refine ⟨0, x', g + 1, c', C', ?_, by omega, h2, by omega, Or.inr ⟨rfl, (w, s, g + 1, h, false), gx, fun hx' => ?_, fun _ => Or.inr (Nat.succ_pos _)⟩⟩
        · intro i hT sc D y nx hd L st cu su l f t sp K hD
          obtain ⟨e, rfl⟩ : ∃ e, D = e + 4 := ⟨D - 4, by omega⟩
          refine kCA_of (d := e + 3) (v := some (.int 0)) (fun K => ?_)
          rw [km_183]
          show kWP sc (e + 3) 183 0 [.ref 91, .retAddr 0] [] _ K = _
          rw [pre i hT sc e cu su l f t sp K (by omega)]
          simp only [e_X11_readsThing_0, e_X11_readsThing_1, e_X11_readsThing_3, e_X11_readsThing_6, e_X11_readsThing_9, e_X11_readsThing_10, e_X11_readsThing_13, e_X11_readsThing_14, e_X11_readsThing_15, e_X11_readsThing_18, e_X11_readsThing_21, e_X11_readsThing_22, e_X11_readsThing_23, e_X11_readsThing_24, e_X11_readsThing_27, e_X11_readsThing_30, e_X11_readsThing_31, e_X11_readsThing_32, e_X11_readsThing_33, e_X11_readsThing_36, e_X11_readsThing_39, e_X11_readsThing_40, e_X11_readsThing_41, e_X11_readsThing_42, e_X11_readsThing_44, e_X11_readsThing_47, e_X11_readsThing_48, e_X11_readsThing_49, e_X11_readsThing_52, e_X11_readsThing_53, e_X11_readsThing_56, e_X11_readsThing_57, e_X11_readsThing_58, e_X11_readsThing_61, e_X11_readsThing_62, e_X11_readsThing_63, e_X11_readsThing_64, e_X11_readsThing_67, e_X11_readsThing_68, e_X11_readsThing_71, e_X11_readsThing_72, e_X11_readsThing_74, e_X11_readsThing_77, e_X11_readsThing_80, e_X11_readsThing_81, e_X11_readsThing_82, e_X11_readsThing_83, e_X11_readsThing_84, e_X11_readsThing_87, e_X11_readsThing_88, e_X11_readsThing_89, e_X11_readsThing_92, e_X11_readsThing_93, e_X11_readsThing_94, e_X11_readsThing_97, e_X11_readsThing_100, e_X11_readsThing_101, e_X11_readsThing_103, e_X11_readsThing_106, e_X11_readsThing_109, e_X11_readsThing_110, e_X11_readsThing_111, e_X11_readsThing_112, e_X11_readsThing_113, e_X11_readsThing_116, e_X11_readsThing_117, e_X11_readsThing_118, e_X11_readsThing_121, e_X11_readsThing_122, ob_91, kcl_i, kcl_r, kcl_l, kcl_0, kcl_n, true_and, and_true, z10, if_false, m_takesT o80 h2 hT, kb_0, c5, not_false_eq_true, if_true, kbool_0, true_and]
        · rcases a7 hx' with z | z | z
          · exact z
          · exact absurd ⟨hx', z⟩ c5
          · omega
    · subst z1
      refine ⟨0, x', g', c', C', ?_, by omega, h2, by omega, Or.inr ⟨rfl, bdE_to (by omega) h1 (goL_s st1) z2⟩⟩
      intro i hT sc D y nx hd L st cu su l f t sp K hD
      obtain ⟨e, rfl⟩ : ∃ e, D = e + 4 := ⟨D - 4, by omega⟩
      refine kCA_of (d := e + 3) (v := some (.int 0)) (fun K => ?_)
      rw [km_183]
      show kWP sc (e + 3) 183 0 [.ref 91, .retAddr 0] [] _ K = _
      rw [pre i hT sc e cu su l f t sp K (by omega)]
      simp only [e_X11_readsThing_0, e_X11_readsThing_1, e_X11_readsThing_3, e_X11_readsThing_6, e_X11_readsThing_9, e_X11_readsThing_10, e_X11_readsThing_13, e_X11_readsThing_14, e_X11_readsThing_15, e_X11_readsThing_18, e_X11_readsThing_21, e_X11_readsThing_22, e_X11_readsThing_23, e_X11_readsThing_24, e_X11_readsThing_27, e_X11_readsThing_30, e_X11_readsThing_31, e_X11_readsThing_32, e_X11_readsThing_33, e_X11_readsThing_36, e_X11_readsThing_39, e_X11_readsThing_40, e_X11_readsThing_41, e_X11_readsThing_42, e_X11_readsThing_44, e_X11_readsThing_47, e_X11_readsThing_48, e_X11_readsThing_49, e_X11_readsThing_52, e_X11_readsThing_53, e_X11_readsThing_56, e_X11_readsThing_57, e_X11_readsThing_58, e_X11_readsThing_61, e_X11_readsThing_62, e_X11_readsThing_63, e_X11_readsThing_64, e_X11_readsThing_67, e_X11_readsThing_68, e_X11_readsThing_71, e_X11_readsThing_72, e_X11_readsThing_74, e_X11_readsThing_77, e_X11_readsThing_80, e_X11_readsThing_81, e_X11_readsThing_82, e_X11_readsThing_83, e_X11_readsThing_84, e_X11_readsThing_87, e_X11_readsThing_88, e_X11_readsThing_89, e_X11_readsThing_92, e_X11_readsThing_93, e_X11_readsThing_94, e_X11_readsThing_97, e_X11_readsThing_100, e_X11_readsThing_101, e_X11_readsThing_103, e_X11_readsThing_106, e_X11_readsThing_109, e_X11_readsThing_110, e_X11_readsThing_111, e_X11_readsThing_112, e_X11_readsThing_113, e_X11_readsThing_116, e_X11_readsThing_117, e_X11_readsThing_118, e_X11_readsThing_121, e_X11_readsThing_122, ob_91, kcl_i, kcl_r, kcl_l, kcl_0, kcl_n, true_and, and_true, if_true, kbool_0, true_and]
  · refine ⟨0, x, g, c, C, ?_, Nat.le_refl _, hx, Nat.le_refl _, Or.inr ⟨rfl, ((SL c C).map trC, σ, g, h0, true), ?_, fun hx' => ?_, fun _ => Or.inl rfl⟩⟩
    · intro i hT sc D y nx hd L st cu su l f t sp K hD
      obtain ⟨e, rfl⟩ : ∃ e, D = e + 4 := ⟨D - 4, by omega⟩
      refine kCA_of (d := e + 3) (v := some (.int 0)) (fun K => ?_)
      rw [km_183]
      show kWP sc (e + 3) 183 0 [.ref 91, .retAddr 0] [] _ K = _
      simp only [e_X11_readsThing_0, e_X11_readsThing_1, e_X11_readsThing_3, e_X11_readsThing_6, e_X11_readsThing_9, e_X11_readsThing_10, e_X11_readsThing_13, e_X11_readsThing_14, e_X11_readsThing_15, e_X11_readsThing_18, e_X11_readsThing_21, e_X11_readsThing_22, e_X11_readsThing_23, e_X11_readsThing_24, e_X11_readsThing_27, e_X11_readsThing_30, e_X11_readsThing_31, e_X11_readsThing_32, e_X11_readsThing_33, e_X11_readsThing_36, e_X11_readsThing_39, e_X11_readsThing_40, e_X11_readsThing_41, e_X11_readsThing_42, e_X11_readsThing_44, e_X11_readsThing_47, e_X11_readsThing_48, e_X11_readsThing_49, e_X11_readsThing_52, e_X11_readsThing_53, e_X11_readsThing_56, e_X11_readsThing_57, e_X11_readsThing_58, e_X11_readsThing_61, e_X11_readsThing_62, e_X11_readsThing_63, e_X11_readsThing_64, e_X11_readsThing_67, e_X11_readsThing_68, e_X11_readsThing_71, e_X11_readsThing_72, e_X11_readsThing_74, e_X11_readsThing_77, e_X11_readsThing_80, e_X11_readsThing_81, e_X11_readsThing_82, e_X11_readsThing_83, e_X11_readsThing_84, e_X11_readsThing_87, e_X11_readsThing_88, e_X11_readsThing_89, e_X11_readsThing_92, e_X11_readsThing_93, e_X11_readsThing_94, e_X11_readsThing_97, e_X11_readsThing_100, e_X11_readsThing_101, e_X11_readsThing_103, e_X11_readsThing_106, e_X11_readsThing_109, e_X11_readsThing_110, e_X11_readsThing_111, e_X11_readsThing_112, e_X11_readsThing_113, e_X11_readsThing_116, e_X11_readsThing_117, e_X11_readsThing_118, e_X11_readsThing_121, e_X11_readsThing_122, ob_91, kcl_i, kcl_r, kcl_l, kcl_0, kcl_n, true_and, and_true, m_takesT o80 hx hT, kb_0, c1, not_false_eq_true, if_true, if_false, m_isDigitT o80 hx hT, c2, m_takesOfT o80 hx hT s7.1 s7.2 (show 7 < 100000 by decide), am, am2, m1, tS14, e4, kbool_0, true_and]
      by_cases c5 : g = 4
      · simp only [c5, if_true]
      · have c6 : ¬ (x < o ∧ T x = 40) := fun z => c4 ⟨by omega, z⟩
        simp only [c5, c6, if_false, not_false_eq_true, if_true]
    · rw [Nat.sub_self]; rfl
    · show stepP _ _ _ _ (T x) = _
      unfold stepP
      rw [if_neg (fun z => c1 ⟨hx', z⟩)]
      by_cases c5 : T x = 40
      · rw [if_pos c5, if_neg (fun z => c4 ⟨z, hx', c5⟩)]
      · rw [if_neg c5, if_neg (fun z => c2 ⟨hx', z⟩), if_neg (fun z => c3 ⟨hx', z⟩)]
end TC
