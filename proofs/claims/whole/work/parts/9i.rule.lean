/-! a rule's text: all of it -/
section TC
variable {sc : Nat × (Nat → Int32)} {d y nx : Nat} {hd : List (Int × Nat)} {L st : List Value} {S : kS} {cu su : Nat} {i : Nat → Nat → Int32} {l : Nat → Nat → Int64} {f t c b m : Nat} {sp : Nat → Nat} {K : Option (Option Value) → kS → Prop}
variable {N M Z S1 Q A S C C' C1 : Nat → Int32} {n n2 k x a o g c h p to x' g' c' r x1 g1 c1 e : Nat} {v q u : Int32} {T : Nat → Int32} {w s σ : List Int32} {v3 : Value}
theorem rk_st (hr : r < 3) (W : ∀ (y nx : Nat) (hd : List (Int × Nat)) (L st : List Value) (K : Option (Option Value) → kS → Prop), kCA sc e 184 [.ref 91, .int (Int32.ofNat (r + 1))] y nx hd L st ((120, cu, su), tS (kS3 i C c) x o g, l, kR f t sp) K = kWP sc e y nx L (.int v :: st) ((120, cu, su), tS (kS3 i C1 c1) x1 o g1, l, kR f t sp) K) :
    (v = 0 → kWP sc e 184 0 [.ref 91, .int (Int32.ofNat r), .retAddr 0, .retAddr 0] [] ((120, cu, su), tS (kS3 i C c) x o g, l, kR f t sp) K = K (some (some (.int 0))) ((120, cu, su), tS (kS3 i C1 c1) x1 o g1, l, kR f t sp)) ∧
    (v = 1 → kWP sc e 184 0 [.ref 91, .int (Int32.ofNat r), .retAddr 0, .retAddr 0] [] ((120, cu, su), tS (kS3 i C c) x o g, l, kR f t sp) K = kWP sc e 184 24 [.ref 91, .int (Int32.ofNat r), .int 1, .retAddr 0] [] ((120, cu, su), tS (kS3 i C1 c1) x1 o g1, l, kR f t sp) K) := by
  have : r = 0 ∨ r = 1 ∨ r = 2 := by omega
  have z3 : ((0 : Int32) = 3) = False := eq_false (by decide)
  have z4 : ((1 : Int32) = 3) = False := eq_false (by decide)
  have z5 : ((2 : Int32) = 3) = False := eq_false (by decide)
  constructor
  · intro hv; subst hv
    rcases this with rfl | rfl | rfl
    · simp only [show Int32.ofNat 0 = (0 : Int32) from rfl, show Int32.ofNat (0 + 1) = (0 : Int32) + 1 from rfl] at W ⊢
      simp only [e_X11_readsRank_0, e_X11_readsRank_1, e_X11_readsRank_2, e_X11_readsRank_5, e_X11_readsRank_6, e_X11_readsRank_9, e_X11_readsRank_10, e_X11_readsRank_11, e_X11_readsRank_12, e_X11_readsRank_13, e_X11_readsRank_14, e_X11_readsRank_17, e_X11_readsRank_20, e_X11_readsRank_21, e_X11_readsRank_22, e_X11_readsRank_23, e_X11_readsRank_25, e_X11_readsRank_28, e_X11_readsRank_29, e_X11_readsRank_30, e_X11_readsRank_33, e_X11_readsRank_35, e_X11_readsRank_38, e_X11_readsRank_39, e_X11_readsRank_40, e_X11_readsRank_43, e_X11_readsRank_45, e_X11_readsRank_48, e_X11_readsRank_50, e_X11_readsRank_53, e_X11_readsRank_54, e_X11_readsRank_55, e_X11_readsRank_58, e_X11_readsRank_59, e_X11_readsRank_60, e_X11_readsRank_61, e_X11_readsRank_62, e_X11_readsRank_63, e_X11_readsRank_64, e_X11_readsRank_67, e_X11_readsRank_70, e_X11_readsRank_71, e_X11_readsRank_72, e_X11_readsRank_73, e_X11_readsRank_76, e_X11_readsRank_77, e_X11_readsRank_78, e_X11_readsRank_79, e_X11_readsRank_82, e_X11_readsRank_83, e_X11_readsRank_86, e_X11_readsRank_87, e_X11_readsRank_88, e_X11_readsRank_91, e_X11_readsRank_92, e_X11_readsRank_95, e_X11_readsRank_96, e_X11_readsRank_97, e_X11_readsRank_100, e_X11_readsRank_101, e_X11_readsRank_104, e_X11_readsRank_105, e_X11_readsRank_108, e_X11_readsRank_109, e_X11_readsRank_110, e_X11_readsRank_113, e_X11_readsRank_114, ob_91, kcl_i, kcl_r, kcl_l, kcl_0, kcl_n, true_and, and_true, z3, not_false_eq_true, if_true, if_false, W, kbool_0, true_and]
    · simp only [show Int32.ofNat 1 = (1 : Int32) from rfl, show Int32.ofNat (1 + 1) = (1 : Int32) + 1 from rfl] at W ⊢
      simp only [e_X11_readsRank_0, e_X11_readsRank_1, e_X11_readsRank_2, e_X11_readsRank_5, e_X11_readsRank_6, e_X11_readsRank_9, e_X11_readsRank_10, e_X11_readsRank_11, e_X11_readsRank_12, e_X11_readsRank_13, e_X11_readsRank_14, e_X11_readsRank_17, e_X11_readsRank_20, e_X11_readsRank_21, e_X11_readsRank_22, e_X11_readsRank_23, e_X11_readsRank_25, e_X11_readsRank_28, e_X11_readsRank_29, e_X11_readsRank_30, e_X11_readsRank_33, e_X11_readsRank_35, e_X11_readsRank_38, e_X11_readsRank_39, e_X11_readsRank_40, e_X11_readsRank_43, e_X11_readsRank_45, e_X11_readsRank_48, e_X11_readsRank_50, e_X11_readsRank_53, e_X11_readsRank_54, e_X11_readsRank_55, e_X11_readsRank_58, e_X11_readsRank_59, e_X11_readsRank_60, e_X11_readsRank_61, e_X11_readsRank_62, e_X11_readsRank_63, e_X11_readsRank_64, e_X11_readsRank_67, e_X11_readsRank_70, e_X11_readsRank_71, e_X11_readsRank_72, e_X11_readsRank_73, e_X11_readsRank_76, e_X11_readsRank_77, e_X11_readsRank_78, e_X11_readsRank_79, e_X11_readsRank_82, e_X11_readsRank_83, e_X11_readsRank_86, e_X11_readsRank_87, e_X11_readsRank_88, e_X11_readsRank_91, e_X11_readsRank_92, e_X11_readsRank_95, e_X11_readsRank_96, e_X11_readsRank_97, e_X11_readsRank_100, e_X11_readsRank_101, e_X11_readsRank_104, e_X11_readsRank_105, e_X11_readsRank_108, e_X11_readsRank_109, e_X11_readsRank_110, e_X11_readsRank_113, e_X11_readsRank_114, ob_91, kcl_i, kcl_r, kcl_l, kcl_0, kcl_n, true_and, and_true, z4, not_false_eq_true, if_true, if_false, W, kbool_0, true_and]
    · simp only [show Int32.ofNat 2 = (2 : Int32) from rfl, show Int32.ofNat (2 + 1) = (2 : Int32) + 1 from rfl] at W ⊢
      simp only [e_X11_readsRank_0, e_X11_readsRank_1, e_X11_readsRank_2, e_X11_readsRank_5, e_X11_readsRank_6, e_X11_readsRank_9, e_X11_readsRank_10, e_X11_readsRank_11, e_X11_readsRank_12, e_X11_readsRank_13, e_X11_readsRank_14, e_X11_readsRank_17, e_X11_readsRank_20, e_X11_readsRank_21, e_X11_readsRank_22, e_X11_readsRank_23, e_X11_readsRank_25, e_X11_readsRank_28, e_X11_readsRank_29, e_X11_readsRank_30, e_X11_readsRank_33, e_X11_readsRank_35, e_X11_readsRank_38, e_X11_readsRank_39, e_X11_readsRank_40, e_X11_readsRank_43, e_X11_readsRank_45, e_X11_readsRank_48, e_X11_readsRank_50, e_X11_readsRank_53, e_X11_readsRank_54, e_X11_readsRank_55, e_X11_readsRank_58, e_X11_readsRank_59, e_X11_readsRank_60, e_X11_readsRank_61, e_X11_readsRank_62, e_X11_readsRank_63, e_X11_readsRank_64, e_X11_readsRank_67, e_X11_readsRank_70, e_X11_readsRank_71, e_X11_readsRank_72, e_X11_readsRank_73, e_X11_readsRank_76, e_X11_readsRank_77, e_X11_readsRank_78, e_X11_readsRank_79, e_X11_readsRank_82, e_X11_readsRank_83, e_X11_readsRank_86, e_X11_readsRank_87, e_X11_readsRank_88, e_X11_readsRank_91, e_X11_readsRank_92, e_X11_readsRank_95, e_X11_readsRank_96, e_X11_readsRank_97, e_X11_readsRank_100, e_X11_readsRank_101, e_X11_readsRank_104, e_X11_readsRank_105, e_X11_readsRank_108, e_X11_readsRank_109, e_X11_readsRank_110, e_X11_readsRank_113, e_X11_readsRank_114, ob_91, kcl_i, kcl_r, kcl_l, kcl_0, kcl_n, true_and, and_true, z5, not_false_eq_true, if_true, if_false, W, kbool_0, true_and]
  · intro hv; subst hv
    rcases this with rfl | rfl | rfl
    · simp only [show Int32.ofNat 0 = (0 : Int32) from rfl, show Int32.ofNat (0 + 1) = (0 : Int32) + 1 from rfl] at W ⊢
      simp only [e_X11_readsRank_0, e_X11_readsRank_1, e_X11_readsRank_2, e_X11_readsRank_5, e_X11_readsRank_6, e_X11_readsRank_9, e_X11_readsRank_10, e_X11_readsRank_11, e_X11_readsRank_12, e_X11_readsRank_13, e_X11_readsRank_14, e_X11_readsRank_17, e_X11_readsRank_20, e_X11_readsRank_21, e_X11_readsRank_22, e_X11_readsRank_23, e_X11_readsRank_25, e_X11_readsRank_28, e_X11_readsRank_29, e_X11_readsRank_30, e_X11_readsRank_33, e_X11_readsRank_35, e_X11_readsRank_38, e_X11_readsRank_39, e_X11_readsRank_40, e_X11_readsRank_43, e_X11_readsRank_45, e_X11_readsRank_48, e_X11_readsRank_50, e_X11_readsRank_53, e_X11_readsRank_54, e_X11_readsRank_55, e_X11_readsRank_58, e_X11_readsRank_59, e_X11_readsRank_60, e_X11_readsRank_61, e_X11_readsRank_62, e_X11_readsRank_63, e_X11_readsRank_64, e_X11_readsRank_67, e_X11_readsRank_70, e_X11_readsRank_71, e_X11_readsRank_72, e_X11_readsRank_73, e_X11_readsRank_76, e_X11_readsRank_77, e_X11_readsRank_78, e_X11_readsRank_79, e_X11_readsRank_82, e_X11_readsRank_83, e_X11_readsRank_86, e_X11_readsRank_87, e_X11_readsRank_88, e_X11_readsRank_91, e_X11_readsRank_92, e_X11_readsRank_95, e_X11_readsRank_96, e_X11_readsRank_97, e_X11_readsRank_100, e_X11_readsRank_101, e_X11_readsRank_104, e_X11_readsRank_105, e_X11_readsRank_108, e_X11_readsRank_109, e_X11_readsRank_110, e_X11_readsRank_113, e_X11_readsRank_114, ob_91, kcl_i, kcl_r, kcl_l, kcl_0, kcl_n, true_and, and_true, z3, z10, not_false_eq_true, if_true, if_false, W]
    · simp only [show Int32.ofNat 1 = (1 : Int32) from rfl, show Int32.ofNat (1 + 1) = (1 : Int32) + 1 from rfl] at W ⊢
      simp only [e_X11_readsRank_0, e_X11_readsRank_1, e_X11_readsRank_2, e_X11_readsRank_5, e_X11_readsRank_6, e_X11_readsRank_9, e_X11_readsRank_10, e_X11_readsRank_11, e_X11_readsRank_12, e_X11_readsRank_13, e_X11_readsRank_14, e_X11_readsRank_17, e_X11_readsRank_20, e_X11_readsRank_21, e_X11_readsRank_22, e_X11_readsRank_23, e_X11_readsRank_25, e_X11_readsRank_28, e_X11_readsRank_29, e_X11_readsRank_30, e_X11_readsRank_33, e_X11_readsRank_35, e_X11_readsRank_38, e_X11_readsRank_39, e_X11_readsRank_40, e_X11_readsRank_43, e_X11_readsRank_45, e_X11_readsRank_48, e_X11_readsRank_50, e_X11_readsRank_53, e_X11_readsRank_54, e_X11_readsRank_55, e_X11_readsRank_58, e_X11_readsRank_59, e_X11_readsRank_60, e_X11_readsRank_61, e_X11_readsRank_62, e_X11_readsRank_63, e_X11_readsRank_64, e_X11_readsRank_67, e_X11_readsRank_70, e_X11_readsRank_71, e_X11_readsRank_72, e_X11_readsRank_73, e_X11_readsRank_76, e_X11_readsRank_77, e_X11_readsRank_78, e_X11_readsRank_79, e_X11_readsRank_82, e_X11_readsRank_83, e_X11_readsRank_86, e_X11_readsRank_87, e_X11_readsRank_88, e_X11_readsRank_91, e_X11_readsRank_92, e_X11_readsRank_95, e_X11_readsRank_96, e_X11_readsRank_97, e_X11_readsRank_100, e_X11_readsRank_101, e_X11_readsRank_104, e_X11_readsRank_105, e_X11_readsRank_108, e_X11_readsRank_109, e_X11_readsRank_110, e_X11_readsRank_113, e_X11_readsRank_114, ob_91, kcl_i, kcl_r, kcl_l, kcl_0, kcl_n, true_and, and_true, z4, z10, not_false_eq_true, if_true, if_false, W]
    · simp only [show Int32.ofNat 2 = (2 : Int32) from rfl, show Int32.ofNat (2 + 1) = (2 : Int32) + 1 from rfl] at W ⊢
      simp only [e_X11_readsRank_0, e_X11_readsRank_1, e_X11_readsRank_2, e_X11_readsRank_5, e_X11_readsRank_6, e_X11_readsRank_9, e_X11_readsRank_10, e_X11_readsRank_11, e_X11_readsRank_12, e_X11_readsRank_13, e_X11_readsRank_14, e_X11_readsRank_17, e_X11_readsRank_20, e_X11_readsRank_21, e_X11_readsRank_22, e_X11_readsRank_23, e_X11_readsRank_25, e_X11_readsRank_28, e_X11_readsRank_29, e_X11_readsRank_30, e_X11_readsRank_33, e_X11_readsRank_35, e_X11_readsRank_38, e_X11_readsRank_39, e_X11_readsRank_40, e_X11_readsRank_43, e_X11_readsRank_45, e_X11_readsRank_48, e_X11_readsRank_50, e_X11_readsRank_53, e_X11_readsRank_54, e_X11_readsRank_55, e_X11_readsRank_58, e_X11_readsRank_59, e_X11_readsRank_60, e_X11_readsRank_61, e_X11_readsRank_62, e_X11_readsRank_63, e_X11_readsRank_64, e_X11_readsRank_67, e_X11_readsRank_70, e_X11_readsRank_71, e_X11_readsRank_72, e_X11_readsRank_73, e_X11_readsRank_76, e_X11_readsRank_77, e_X11_readsRank_78, e_X11_readsRank_79, e_X11_readsRank_82, e_X11_readsRank_83, e_X11_readsRank_86, e_X11_readsRank_87, e_X11_readsRank_88, e_X11_readsRank_91, e_X11_readsRank_92, e_X11_readsRank_95, e_X11_readsRank_96, e_X11_readsRank_97, e_X11_readsRank_100, e_X11_readsRank_101, e_X11_readsRank_104, e_X11_readsRank_105, e_X11_readsRank_108, e_X11_readsRank_109, e_X11_readsRank_110, e_X11_readsRank_113, e_X11_readsRank_114, ob_91, kcl_i, kcl_r, kcl_l, kcl_0, kcl_n, true_and, and_true, z5, z10, not_false_eq_true, if_true, if_false, W]
theorem bd_3 {o x r e : Nat} (hD : 6 * (o - x) + 9 - r ≤ e + 1) (h : r < 3) : 6 * (o - x) + 9 - (r + 1) ≤ e := by omega
theorem bd_4 {o x y r e : Nat} (hD : 6 * (o - x) + 9 - r ≤ e + 1) (h : r < 3) (hy : x ≤ y) : 6 * (o - y) + 6 ≤ e := by omega
theorem rank_of (hr : r = 1 ∨ r = 2) (ho : o ≤ 40) (hx : x ≤ o) (H : ∀ z, x ≤ z → z ≤ o → RK T o (r + 1) z) : RK T o r x := by
  intro g c C σ h0 hg hc hok htop
  have hr3 : r < 3 := by omega
  obtain ⟨v, x1, g1, c1, C1, hm, h1, h2, h3, h4⟩ := H x (Nat.le_refl _) hx g c C σ h0 hg hc hok (by omega)
  rcases h4 with ⟨a1, a2, a3, a4, w, s, h, a5, a6, a7⟩ | ⟨z1, z2⟩
  · subst a1; subst a2
    have hrel : rel (r + 1) s w = (σ, (SL c1 C1).map trC) := by rw [rel_of a6 (by omega), rel_t (by omega)]
    obtain ⟨v, x', g', c', C', b1, b2, b3, b4, b5⟩ := loop_of (x := x) (σ := σ) hr ho (fun z z1 z2 => H z (by omega) z2) (o + 1) x1 g1 c1 C1 w s h h1 h2 (by omega) hg (by omega) a3 (by omega) htop hrel a7
    refine ⟨v, x', g', c', C', ?_, by omega, b3, by omega, ?_⟩
    · intro i hT sc D y nx hd L st cu su l f t sp K hD
      obtain ⟨e, rfl⟩ : ∃ e, D = e + 1 := ⟨D - 1, by omega⟩
      refine kCA_of (d := e) (v := some (.int v)) (fun K => ?_)
      rw [km_184]
      show kWP sc e 184 0 [.ref 91, .int (Int32.ofNat r), .retAddr 0, .retAddr 0] [] _ K = _
      rw [(rk_st (K := K) hr3 (fun y nx hd L st K => hm i hT sc e y nx hd L st cu su l f t sp K (bd_3 hD hr3))).2 rfl]
      exact b1 i hT sc e cu su l f t sp K _ (bd_4 hD hr3 h1)
    · rcases b5 with ⟨d1, d2, d3, d4, w2, s2, h5, d5, d6, d7⟩ | ⟨z1, z2⟩
      · exact Or.inl ⟨d1, d2, d3, by rw [d4, a4], w2, s2, h5, goL_to h1 b2 a5 d5, d6, d7⟩
      · exact Or.inr ⟨z1, bdE_to h1 b2 a5 z2⟩
  · refine ⟨v, x1, g1, c1, C1, ?_, h1, h2, h3, Or.inr ⟨z1, z2⟩⟩
    intro i hT sc D y nx hd L st cu su l f t sp K hD
    obtain ⟨e, rfl⟩ : ∃ e, D = e + 1 := ⟨D - 1, by omega⟩
    refine kCA_of (d := e) (v := some (.int v)) (fun K => ?_)
    rw [km_184]
    show kWP sc e 184 0 [.ref 91, .int (Int32.ofNat r), .retAddr 0, .retAddr 0] [] _ K = _
    rw [(rk_st (K := K) hr3 (fun y nx hd L st K => hm i hT sc e y nx hd L st cu su l f t sp K (bd_3 hD hr3))).1 z1, z1]
theorem rank0_of (ho : o ≤ 40) (hx : x ≤ o) (H : ∀ z, x ≤ z → z ≤ o → RK T o 1 z) : RK T o 0 x := by
  intro g c C σ h0 hg hc hok htop
  obtain ⟨v, x1, g1, c1, C1, hm, h1, h2, h3, h4⟩ := H x (Nat.le_refl _) hx g c C σ h0 hg hc hok (by omega)
  rcases h4 with ⟨a1, a2, a3, a4, w, s, h, a5, a6, a7⟩ | ⟨z1, z2⟩
  · subst a1; subst a2
    have hrel : rel 1 s w = (σ, (SL c1 C1).map trC) := by rw [rel_of a6 (by omega), rel_t (by omega)]
    have stay : (x1 < o → pAm (kchr (opS 0)) (opN 0) (T x1) = -1) → (x1 < o → ¬ bnd (2000 + T x1) = 0 + 1) → ∃ (v : Int32) (x' g' c' : Nat) (C' : Nat → Int32), (∀ i : Nat → Nat → Int32, (∀ x, x < o → i 98 x = T x) → RM 184 [.int (Int32.ofNat 0)] (6 * (o - x) + 9 - 0) i o x g1 c C v x' g' c' C') ∧ x ≤ x' ∧ x' ≤ o ∧ c' + x ≤ c + x' ∧
        ((v = 1 ∧ g' = g1 ∧ okC (SL c' C') ∧ depL (SL c' C') = depL (SL c C) + 1 ∧ ∃ (w s : List Int32) (h : Nat), goL T (x' - x) x ((SL c C).map trC, σ, g1, h0, true) = some (w, s, g1, h, false) ∧ rel (0 + 1) s w = (σ, (SL c' C').map trC) ∧ nxt T o x' w s g1 h 0) ∨ (v = 0 ∧ bdE T o x x' ((SL c C).map trC, σ, g1, h0, true))) := by
      intro hp hb
      refine ⟨1, x1, g1, c1, C1, ?_, h1, h2, h3, Or.inl ⟨rfl, rfl, a3, a4, w, s, h, a5, hrel, fun hz => ?_⟩⟩
      · intro i hT sc D y nx hd L st cu su l f t sp K hD
        obtain ⟨e, rfl⟩ : ∃ e, D = e + 3 := ⟨D - 3, by omega⟩
        refine kCA_of (d := e + 2) (v := some (.int 1)) (fun K => ?_)
        rw [km_184]
        show kWP sc (e + 2) 184 0 [.ref 91, .int (Int32.ofNat 0), .retAddr 0, .retAddr 0] [] _ K = _
        rw [(rk_st (r := 0) (K := K) (by decide) (fun y nx hd L st K => hm i hT sc (e + 2) y nx hd L st cu su l f t sp K (bd_3 hD (by decide)))).2 rfl]
        exact rk_no (r := 0) (by decide) (by omega) hT h2 hp
      · rcases a7 hz with z | z | z
        · exact Or.inl z
        · exact Or.inr (Or.inl z)
        · have := hb hz
          omega
    by_cases c0 : x1 < o
    · rcases pAm_op (v := T x1) (r := 0) (by decide) with ⟨p1, p2⟩ | ⟨k, hk, p1, p2⟩
      · exact stay (fun _ => p1) (fun _ => p2)
      · obtain ⟨o1, o2⟩ := op_7 0 (by decide) k hk
        have ht1 : ¬ topb (rel 2 s w).1 = 1 := by rw [a6]; show ¬ topb σ = 1; omega
        have st1 : stepL (w, s, g1, h, false) (T x1) = some ((SL c1 C1).map trC, (2000 + T x1) :: σ, g1, 0, true) := by
          show stepJ w s g1 h (T x1) = _
          rw [p2, stepJ_op (r := 0) (by decide) hk (fun _ => ht1), if_pos rfl, a6]
        obtain ⟨v, x2, g2, c2, C2, hm2, k1, k2, k3, k4⟩ := H (x1 + 1) (by omega) (by omega) g1 c1 C1 ((2000 + T x1) :: σ) 0 hg (by omega) a3 (by show bnd _ ≤ _; rw [p2, o2]; exact Nat.le_refl _)
        have gs := goL_to h1 (show x1 ≤ x1 + 1 by omega) a5 (goL_s st1)
        rcases k4 with ⟨b1, b2, b3, b4, w1, s1, hh, b5, b6, b7⟩ | ⟨z1, z2⟩
        · subst b1; subst b2
          have gx := goL_to (show x ≤ x1 + 1 by omega) k1 gs b5
          obtain ⟨t1, t2, t3, t4⟩ := trC_s _ o1
          obtain ⟨q1, q2⟩ := ok_act o1 b3 (by omega)
          refine ⟨1, x2, g2, c2 + 1, kuf C2 c2 (Int32.ofNat (2000 + (opO 0 + k))), ?_, by omega, k2, by omega, Or.inl ⟨rfl, rfl, by rw [SL_p]; exact q1, by rw [SL_p, q2]; omega, w1, s1, hh, gx, ?_, fun hz => ?_⟩⟩
          · intro i hT sc D y nx hd L st cu su l f t sp K hD
            obtain ⟨e, rfl⟩ : ∃ e, D = e + 3 := ⟨D - 3, by omega⟩
            refine kCA_of (d := e + 2) (v := some (.int 1)) (fun K => ?_)
            rw [km_184]
            show kWP sc (e + 2) 184 0 [.ref 91, .int (Int32.ofNat 0), .retAddr 0, .retAddr 0] [] _ K = _
            rw [(rk_st (r := 0) (K := K) (by decide) (fun y nx hd L st K => hm i hT sc (e + 2) y nx hd L st cu su l f t sp K (bd_3 hD (by decide)))).2 rfl]
            exact (rk_op (r := 0) (K := K) (v3 := .retAddr 0) (by decide) (by omega) hT c0 hk p1 (by omega) (fun y nx hd L st K => hm2 i hT sc (e + 2) y nx hd L st cu su l f t sp K (bd_1 (bd_4 hD (by decide) h1) c0))).2.2 rfl rfl
          · rw [rel_of b6 (by omega), rel_c (by rw [p2, o2]; exact Nat.le_refl _), rel_t (by omega), SL_p, List.map_cons, t1, ← p2]
          · rcases b7 hz with z | z | z
            · exact Or.inl z
            · exact Or.inr (Or.inl z)
            · refine Or.inl ?_
              obtain ⟨k', hk', e'⟩ := bnd_op (r := 0) (v := T x2) (by decide) (by omega)
              obtain ⟨o1', o2'⟩ := op_7 0 (by decide) k' hk'
              obtain ⟨f1, f2⟩ := trS_f _ o1'
              unfold stepJ
              rw [e', if_neg (by rw [f1]; decide), if_neg f2, o2', if_neg (by decide), if_pos rfl, if_pos]
              rw [b6]
              show bnd (2000 + T x1) = 1
              rw [p2, o2]
        · refine ⟨0, x2, g2, c2, C2, ?_, by omega, k2, by omega, Or.inr ⟨rfl, bdE_to (show x ≤ x1 + 1 by omega) k1 gs z2⟩⟩
          intro i hT sc D y nx hd L st cu su l f t sp K hD
          obtain ⟨e, rfl⟩ : ∃ e, D = e + 3 := ⟨D - 3, by omega⟩
          refine kCA_of (d := e + 2) (v := some (.int 0)) (fun K => ?_)
          rw [km_184]
          show kWP sc (e + 2) 184 0 [.ref 91, .int (Int32.ofNat 0), .retAddr 0, .retAddr 0] [] _ K = _
          rw [(rk_st (r := 0) (K := K) (by decide) (fun y nx hd L st K => hm i hT sc (e + 2) y nx hd L st cu su l f t sp K (bd_3 hD (by decide)))).2 rfl]
          exact (rk_op (r := 0) (K := K) (v3 := .retAddr 0) (by decide) (by omega) hT c0 hk p1 (by omega) (fun y nx hd L st K => hm2 i hT sc (e + 2) y nx hd L st cu su l f t sp K (bd_1 (bd_4 hD (by decide) h1) c0))).1 z1
    · exact stay (fun z => absurd z c0) (fun z => absurd z c0)
  · refine ⟨v, x1, g1, c1, C1, ?_, h1, h2, h3, Or.inr ⟨z1, z2⟩⟩
    intro i hT sc D y nx hd L st cu su l f t sp K hD
    obtain ⟨e, rfl⟩ : ∃ e, D = e + 1 := ⟨D - 1, by omega⟩
    refine kCA_of (d := e) (v := some (.int v)) (fun K => ?_)
    rw [km_184]
    show kWP sc e 184 0 [.ref 91, .int (Int32.ofNat 0), .retAddr 0, .retAddr 0] [] _ K = _
    rw [(rk_st (r := 0) (K := K) (by decide) (fun y nx hd L st K => hm i hT sc e y nx hd L st cu su l f t sp K (bd_3 hD (by decide)))).1 z1, z1]
theorem all_of (ho : o ≤ 40) (h1000 : ∀ x, x < o → ¬ T x = 1000) : ∀ k x, x ≤ o → o - x ≤ k → TH T o x ∧ RK T o 3 x ∧ RK T o 2 x ∧ RK T o 1 x ∧ RK T o 0 x := by
  intro k
  induction k with
  | zero =>
    intro x hx hk
    have t0 : TH T o x := th_of ho h1000 hx (fun z z1 z2 => by omega)
    have r3 := rank3_of t0
    have r2 : RK T o 2 x := rank_of (Or.inr rfl) ho hx (fun z z1 z2 => by
      have : z = x := by omega
      rw [this]; exact r3)
    have r1 : RK T o 1 x := rank_of (Or.inl rfl) ho hx (fun z z1 z2 => by
      have : z = x := by omega
      rw [this]; exact r2)
    have r0 : RK T o 0 x := rank0_of ho hx (fun z z1 z2 => by
      have : z = x := by omega
      rw [this]; exact r1)
    exact ⟨t0, r3, r2, r1, r0⟩
  | succ k ih =>
    intro x hx hk
    have t0 : TH T o x := th_of ho h1000 hx (fun z z1 z2 => ⟨(ih z z2 (by omega)).1, (ih z z2 (by omega)).2.2.2.2⟩)
    have r3 := rank3_of t0
    have r2 : RK T o 2 x := rank_of (Or.inr rfl) ho hx (fun z z1 z2 => by
      by_cases e : z = x
      · rw [e]; exact r3
      · exact (ih z z2 (by omega)).2.1)
    have r1 : RK T o 1 x := rank_of (Or.inl rfl) ho hx (fun z z1 z2 => by
      by_cases e : z = x
      · rw [e]; exact r2
      · exact (ih z z2 (by omega)).2.2.1)
    have r0 : RK T o 0 x := rank0_of ho hx (fun z z1 z2 => by
      by_cases e : z = x
      · rw [e]; exact r1
      · exact (ih z z2 (by omega)).2.2.2.1)
    exact ⟨t0, r3, r2, r1, r0⟩
end TC
