/-! rule: the call -/
section TC
variable {sc : Nat × (Nat → Int32)} {d y nx : Nat} {hd : List (Int × Nat)} {L st : List Value} {S : kS} {cu su : Nat} {i : Nat → Nat → Int32} {l : Nat → Nat → Int64} {f t c b m : Nat} {sp : Nat → Nat} {K : Option (Option Value) → kS → Prop}
variable {N M Z S1 Q A S C C' C1 acts acts2 code code2 C0 : Nat → Int32} {n n2 k x a o g c h p to x' g' c' r x1 g1 c1 e n1 f2 t2 : Nat} {v q u fault : Int32} {T : Nat → Int32} {v3 : Value} {i0 i2 j Y : Nat → Nat → Int32} {l2 : Nat → Nat → Int64}
theorem ag_tS (h : kAg kSr i i2) : kAg kSr i (tS i2 a o g) := by
  intro c z hq
  unfold tS
  rw [if_neg (fun e => by rw [e.1, e.2] at hq; exact absurd hq (by decide)), if_neg (fun e => by rw [e.1, e.2] at hq; exact absurd hq (by decide)), if_neg (fun e => by rw [e.1, e.2] at hq; exact absurd hq (by decide))]
  exact h c z hq
theorem ag_kS3 (h : kAg kSr i i2) : kAg kSr i (kS3 i2 C k) := by
  intro c z hq
  unfold kS3
  rw [if_neg (fun e => by rw [e] at hq; exact absurd hq (by simp [kSr, kSt, kSc])), if_neg (fun e => by rw [e.1, e.2] at hq; exact absurd hq (by decide))]
  exact h c z hq
theorem m1_nat {z : Nat} (hz : z ≤ 40) : ¬ (-1 - Int32.ofNat z = 0) := by
  intro e
  have h0 : (0 ≤ (-1 : Int32) - Int32.ofNat z) = False := neg_z (by omega)
  rw [e] at h0
  exact absurd (show (0 : Int32) ≤ 0 by decide) (by rw [h0]; exact id)
theorem J_rule (h : IV m i l f t sp) : JJ 99 187 [] i l f t sp := by
  obtain ⟨hP, ⟨n, h80, x1, x2, x3⟩, hW, hN, hU, hS, hK, hH, hR, hF⟩ := id h
  obtain ⟨hf, hf2, hF2, hne, ht⟩ := IF_t hF
  obtain ⟨r0, fault, o, x', g', c', C', n1, A, p, S, g, hh, u, i0, hC, hi0, hM, hc', alt⟩ := rule_ok (T := i 98) hf h80 x1 x3 (i 101)
  have hY0 : ∃ Y, Y = kupi (qP i0 t n1 A p S g hh u) 1 1 0 := ⟨_, rfl⟩
  obtain ⟨Y, hY⟩ := hY0
  rw [← hY] at hC
  have yt : ∀ z, 91 ≤ z → Y z = i z := fun z hz => by
    rw [hY, kupi_cf (by omega), qP_o (by rcases ht with rfl | rfl <;> omega) (by rcases ht with rfl | rfl <;> omega) (by rcases ht with rfl | rfl <;> omega), hi0 z (by omega) (by omega)]
  have agY : kAg kSr i Y := by rw [hY]; exact ag_u (ag_qP ht (ag_i0 hi0)) rfl
  have R := fun (sc : Nat × (Nat → Int32)) (d y nx : Nat) (hd : List (Int × Nat)) (L st : List Value) (cu su : Nat) (f t : Nat) (K : Option (Option Value) → kS → Prop) => hM (uPut Y) (by rw [uP_f (by decide), yt 91 (by decide)]; exact x2) (fun x hx => by rw [uP_o (by decide), yt 98 (by decide)]) (by rw [uP_o (by decide), yt 101 (by decide)]) sc d y nx hd L st cu su l f t sp K
  have agX : kAg kSr i (tS (kS3 (kupi (uPut Y) 91 11 0) C' c') x' o g') := ag_tS (ag_kS3 (ag_u (ag_t agY (ag_u ag_r rfl)) rfl))
  have xr : ∀ z, z ≠ 91 → z ≠ 101 → tS (kS3 (kupi (uPut Y) 91 11 0) C' c') x' o g' z = Y z := fun z z1 z2 => by rw [tS_o z1, kS3_o z2 z1, kupi_cf z1, uP_o z1]
  have xf : ∀ z, z ≠ 0 → z ≠ 11 → z ≠ 12 → z ≠ 13 → z ≠ 14 → z ≠ 20 → tS (kS3 (kupi (uPut Y) 91 11 0) C' c') x' o g' 91 z = i 91 z := fun z z0 z1 z2 z3 z4 z5 => by rw [tS_f z2 z3 z4, kS3_f z5, kupi_k z1, uP_f z0, yt 91 (by decide)]
  have xx : tS (kS3 (kupi (uPut Y) 91 11 0) C' c') x' o g' 1 1 = 0 := by rw [xr 1 (by decide) (by decide), hY, kupi_s]
  have x11 : tS (kS3 (kupi (uPut Y) 91 11 0) C' c') x' o g' 91 11 = 0 := by rw [tS_f (by decide) (by decide) (by decide), kS3_f (by decide), kupi_s]
  have x20 : tS (kS3 (kupi (uPut Y) 91 11 0) C' c') x' o g' 91 20 = Int32.ofNat c' := rfl
  have x101 : tS (kS3 (kupi (uPut Y) 91 11 0) C' c') x' o g' 101 = C' := by rw [tS_o (by decide), kS3_101]
  generalize hXX : tS (kS3 (kupi (uPut Y) 91 11 0) C' c') x' o g' = X at R agX xr xf xx x11 x20 x101
  have hX0 : ∀ (i2 : Nat → Nat → Int32), i2 1 1 = 0 → i2 91 11 = 0 → IX (i2 1 1) (i2 91 11) (i2 2) (i2 98) := fun i2 a b => ⟨0, by decide, a, b, fun x hx => absurd hx (Nat.not_lt_zero x)⟩
  have y3 : Y 3 = i 3 := by rw [hY, kupi_cf (by decide), qP_lo hf (by decide), hi0 3 (by decide) (by decide)]
  rcases alt with ⟨a1, a2, a3, a4⟩ | ⟨z, hz, a1, a2⟩
  · subst a1; subst a2
    have hc : CC 99 [.ref 0] i l f t sp (.int 0) Y l t f sp := by
      intro sc d y nx hd L st cu su K
      refine kCA_of (d := d + 499) (v := some (.int _)) (fun K => ?_)
      rw [km_99]
      show kWP sc (d + 499) 99 0 [.ref 0, .retAddr 0, .retAddr 0] [] _ K = _
      simp only [e_X10_rule_0, e_X10_rule_1, e_X10_rule_4, e_X10_rule_5, e_X10_rule_6, e_X10_rule_7, e_X10_rule_10, e_X10_rule_11, e_X10_rule_12, e_X10_rule_13, e_X10_rule_14, e_X10_rule_15, e_X10_rule_18, e_X10_rule_19, e_X10_rule_20, e_X10_rule_21, e_X10_rule_24, e_X10_rule_27, e_X10_rule_28, e_X10_rule_29, e_X10_rule_32, e_X10_rule_33, ob_0, rk_0_10, rk_0_11, kcl_i, kcl_r, kcl_l, kcl_0, kcl_n, true_and, and_true, hC sc (d + 491), if_true, kR_swap]
    have hm : CC 187 [.ref 91] Y l t f sp (.int 0) (lay X 101 c') l t f sp := by
      intro sc d y nx hd L st cu su K
      refine kCA_of (d := d + 499) (v := some (.int _)) (fun K => ?_)
      rw [km_187]
      show kWP sc (d + 499) 187 0 [.ref 91, .retAddr 0] [] _ K = _
      simp only [e_X11_rule_0, e_X11_rule_1, e_X11_rule_2, e_X11_rule_5, e_X11_rule_6, e_X11_rule_9, e_X11_rule_10, e_X11_rule_11, e_X11_rule_14, e_X11_rule_15, e_X11_rule_16, e_X11_rule_19, e_X11_rule_20, e_X11_rule_23, e_X11_rule_26, e_X11_rule_27, ob_91, rk_91_18, ar_101, kcl_i, kcl_r, kcl_l, kcl_0, kcl_n, true_and, and_true, uP_0, R sc (d + 199), not_true_eq_false, if_false, if_true, x20, m_laysCode (Or.inl rfl) (show c' ≤ 80 by omega)]
    refine ⟨0, Y, l, t, f, sp, lay X 101 c', l, m, hc, hm, ?_⟩
    have lo : ∀ z, z ≠ 91 → z ≠ 100 → lay X 101 c' z = X z := fun z z1 z2 => by unfold lay; rw [aP_o z2, kupi_cf z1]
    have lf : ∀ z, z ≠ 19 → lay X 101 c' 91 z = X 91 z := fun z z1 => by unfold lay; rw [aP_o (by decide), kupi_k z1]
    have l19 : lay X 101 c' 91 19 = Int32.ofNat c' := by unfold lay; rw [aP_o (by decide), kupi_s]
    have l100 : ∀ x, x < c' → lay X 101 c' 100 x = C' x := fun x hx => by unfold lay; rw [aP_s (by omega), if_pos hx, x101]
    refine kIV_r h ?_ (hX0 _ ?_ ?_) ?_ ?_ hF2
    · unfold lay
      exact ag_a (ag_u agX rfl) (fun _ _ => by simp [kSr])
    · rw [lo 1 (by decide) (by decide)]; exact xx
    · rw [lf 11 (by decide)]; exact x11
    · rw [lo 3 (by decide) (by decide), xr 3 (by decide) (by decide), lf 1 (by decide), xf 1 (by decide) (by decide) (by decide) (by decide) (by decide) (by decide), y3]; exact hW
    · have t0 : t ≠ 91 ∧ t ≠ 100 ∧ t ≠ 101 ∧ t ≠ 1 ∧ t + 1 ≠ 91 ∧ t + 1 ≠ 100 ∧ t + 1 ≠ 101 ∧ t + 1 ≠ 1 := by rcases ht with rfl | rfl <;> decide
      refine ⟨n1, c', ?_, l19, RR_c a4 (fun x hx => ?_) (fun x hx => (l100 x hx).symm)⟩
      · rw [lo t t0.1 t0.2.1, xr t t0.1 t0.2.2.1, hY, kupi_c t0.2.2.2.1, qP_2]
      · rw [lo _ t0.2.2.2.2.1 t0.2.2.2.2.2.1, xr _ t0.2.2.2.2.1 t0.2.2.2.2.2.2.1, hY, kupi_c t0.2.2.2.2.2.2.2, qP_a (by omega)]
  · subst a1; subst a2
    have zm : ¬ Int32.ofNat z = -1 := m1_ne (by omega)
    have hc : CC 99 [.ref 0] i l f t sp (.int (-1 - Int32.ofNat z)) Y l f t sp := by
      intro sc d y nx hd L st cu su K
      refine kCA_of (d := d + 499) (v := some (.int _)) (fun K => ?_)
      rw [km_99]
      show kWP sc (d + 499) 99 0 [.ref 0, .retAddr 0, .retAddr 0] [] _ K = _
      simp only [e_X10_rule_0, e_X10_rule_1, e_X10_rule_4, e_X10_rule_5, e_X10_rule_6, e_X10_rule_7, e_X10_rule_10, e_X10_rule_11, e_X10_rule_12, e_X10_rule_13, e_X10_rule_14, e_X10_rule_15, e_X10_rule_18, e_X10_rule_19, e_X10_rule_20, e_X10_rule_21, e_X10_rule_24, e_X10_rule_27, e_X10_rule_28, e_X10_rule_29, e_X10_rule_32, e_X10_rule_33, ob_0, rk_0_10, rk_0_11, kcl_i, kcl_r, kcl_l, kcl_0, kcl_n, true_and, and_true, hC sc (d + 491), zm, if_false]
    have hm : CC 187 [.ref 91] Y l f t sp (.int (-1 - Int32.ofNat z)) X l f t sp := by
      intro sc d y nx hd L st cu su K
      refine kCA_of (d := d + 499) (v := some (.int _)) (fun K => ?_)
      rw [km_187]
      show kWP sc (d + 499) 187 0 [.ref 91, .retAddr 0] [] _ K = _
      simp only [e_X11_rule_0, e_X11_rule_1, e_X11_rule_2, e_X11_rule_5, e_X11_rule_6, e_X11_rule_9, e_X11_rule_10, e_X11_rule_11, e_X11_rule_14, e_X11_rule_15, e_X11_rule_16, e_X11_rule_19, e_X11_rule_20, e_X11_rule_23, e_X11_rule_26, e_X11_rule_27, ob_91, rk_91_18, ar_101, kcl_i, kcl_r, kcl_l, kcl_0, kcl_n, true_and, and_true, uP_0, R sc (d + 199), m1_nat hz, not_false_eq_true, if_true, if_false]
    refine ⟨_, Y, l, f, t, sp, X, l, m, hc, hm, ?_⟩
    have f0 : f ≠ 91 ∧ f ≠ 101 ∧ f ≠ 1 ∧ f ≠ 2 ∧ f + 1 ≠ 91 ∧ f + 1 ≠ 101 ∧ f + 1 ≠ 1 ∧ f + 1 ≠ 2 ∧ f ≠ t ∧ f ≠ t + 1 ∧ f ≠ t + 2 ∧ f + 1 ≠ t ∧ f + 1 ≠ t + 1 ∧ f + 1 ≠ t + 2 := by rcases hF with ⟨rfl, rfl⟩ | ⟨rfl, rfl⟩ <;> decide
    have yf : Y f = i f := by rw [hY, kupi_cf f0.2.2.1, qP_o f0.2.2.2.2.2.2.2.2.1 f0.2.2.2.2.2.2.2.2.2.1 f0.2.2.2.2.2.2.2.2.2.2.1, hi0 f f0.2.2.1 f0.2.2.2.1]
    have yf1 : Y (f + 1) = i (f + 1) := by rw [hY, kupi_cf f0.2.2.2.2.2.2.1, qP_o f0.2.2.2.2.2.2.2.2.2.2.2.1 f0.2.2.2.2.2.2.2.2.2.2.2.2.1 f0.2.2.2.2.2.2.2.2.2.2.2.2.2, hi0 _ f0.2.2.2.2.2.2.1 f0.2.2.2.2.2.2.2.1]
    refine kIV_r h agX (hX0 _ xx x11) ?_ ?_ hF
    · rw [xr 3 (by decide) (by decide), xf 1 (by decide) (by decide) (by decide) (by decide) (by decide) (by decide), y3]; exact hW
    · rw [xr f f0.1 f0.2.1, xr (f + 1) f0.2.2.2.2.1 f0.2.2.2.2.2.1, xf 19 (by decide) (by decide) (by decide) (by decide) (by decide) (by decide), xr 100 (by decide) (by decide), yf, yf1, yt 100 (by decide)]; exact hR
end TC
