/-! law: the call -/
section TC
variable {sc : Nat × (Nat → Int32)} {d y nx : Nat} {hd : List (Int × Nat)} {L st : List Value} {S : kS} {cu su : Nat} {i : Nat → Nat → Int32} {l : Nat → Nat → Int64} {f t c b m : Nat} {sp : Nat → Nat} {K : Option (Option Value) → kS → Prop}
variable {N M Z S1 Q A S C C' acts code : Nat → Int32} {n n2 k x a o g c h p c' n1 : Nat} {v q u fault : Int32} {T : Nat → Int32} {i0 i2 j Y X : Nat → Nat → Int32} {l2 : Nat → Nat → Int64} {s : Nat × (Nat → Int32)}
theorem ag_w96 {A B C Z : Nat → Int32} (h : kAg kSr i i2) (e : ∀ j, j < 25 → A j = i2 96 j) : kAg kSr i (mS i2 96 (A, Z, B, C)) := by
  intro c j hq
  have hs : kSc c j = false := by
    unfold kSr at hq
    cases e : kSt c j
    · exact st_sc e
    · rw [e] at hq; simp at hq
  unfold mS mPut
  by_cases z0 : c = 96 ∧ j < 25
  · have w := h c j hq
    rw [z0.1] at w ⊢
    rw [if_pos ⟨rfl, z0.2⟩]; dsimp only; rw [e j z0.2]; exact w
  · rw [if_neg z0]
    by_cases z1 : c = 91 ∧ 25 ≤ j ∧ j < 29
    · have := sc_91 j z1.2.1 z1.2.2; rw [← z1.1, hs] at this; exact absurd this (by decide)
    · rw [if_neg z1]
      by_cases z2 : c = 102 ∧ j < 80
      · have g : kSc 102 j = true := rfl
        rw [z2.1, g] at hs; exact absurd hs (by decide)
      · rw [if_neg z2]
        by_cases z3 : c = 103 ∧ j < 7
        · have g : kSc 103 j = true := rfl
          rw [z3.1, g] at hs; exact absurd hs (by decide)
        · rw [if_neg z3]; exact h c j hq
theorem ag_lay (h : kAg kSr i i2) : kAg kSr i (lay i2 a n) := by
  unfold lay
  exact ag_a (ag_u h rfl) (fun _ _ => by simp [kSr])
theorem ag_was (h : kAg kSr i i2) : kAg kSr i (wasC i2 n) := by
  unfold wasC
  exact ag_a h (fun _ _ => rfl)
theorem sub_1000 {z : Nat} : (-1 : Int32) - Int32.ofNat z + 1 - 10000 = -10000 - Int32.ofNat z := by
  rw [Int32.sub_eq_add_neg (-1), Int32.add_comm (-1), Int32.add_assoc, show (-1 : Int32) + 1 = 0 from by decide, Int32.add_zero, Int32.sub_eq_add_neg, Int32.sub_eq_add_neg, Int32.add_comm]
theorem dl_c {D E : Nat → Int64} {m : Nat} (h : ∀ a, a < m → D a = E a) : ∀ k, k ≤ m → dl D k = dl E k := by
  intro k
  induction k with
  | zero => intro _; rfl
  | succ k ih => intro hk; rw [dl, dl, ih (by omega), h k (by omega)]
theorem J_law (h : IV m i l f t sp) : JJ 130 245 [] i l f t sp := by
  obtain ⟨⟨h5, h91, h8, e9, hle, hp⟩, ⟨n, h80, x1, x2, x3⟩, hW, hN, hU, hS, hK, hH, hR, hF⟩ := id h
  obtain ⟨hf, hf2, hF2, hne, ht⟩ := IF_t hF
  obtain ⟨r0, fault, o, x', g', c', C', n1, A, p, S, g, hh, u, i0, hC, hi0, hM, hc', alt⟩ := rule_ok (T := i 98) hf h80 x1 x3 (i 101)
  have hY0 : ∃ Y, Y = kupi (qP i0 t n1 A p S g hh u) 1 1 0 := ⟨_, rfl⟩
  obtain ⟨Y, hY⟩ := hY0
  rw [← hY] at hC
  have t0 : t ≠ 1 ∧ t + 1 ≠ 1 := by rcases ht with rfl | rfl <;> decide
  have yt : ∀ z, 91 ≤ z → Y z = i z := fun z hz => by
    rw [hY, kupi_cf (by omega), qP_o (by rcases ht with rfl | rfl <;> omega) (by rcases ht with rfl | rfl <;> omega) (by rcases ht with rfl | rfl <;> omega), hi0 z (by omega) (by omega)]
  have yl : ∀ z, z < 85 → z ≠ 1 → z ≠ 2 → Y z = i z := fun z hz z1 z2 => by rw [hY, kupi_cf z1, qP_lo hf hz, hi0 z z1 z2]
  have yt2 : Y t 2 = Int32.ofNat n1 := by rw [hY, kupi_c t0.1, qP_2]
  have yta : ∀ x, x < 40 → Y (t + 1) x = A x := fun x hx => by rw [hY, kupi_c t0.2, qP_a hx]
  have y11 : Y 1 1 = 0 := by rw [hY, kupi_s]
  have agY : kAg kSr i Y := by rw [hY]; exact ag_u (ag_qP ht (ag_i0 hi0)) rfl
  have f0 : f ≠ 91 ∧ f ≠ 101 ∧ f ≠ 1 ∧ f ≠ 2 ∧ f + 1 ≠ 91 ∧ f + 1 ≠ 101 ∧ f + 1 ≠ 1 ∧ f + 1 ≠ 2 ∧ f ≠ t ∧ f ≠ t + 1 ∧ f ≠ t + 2 ∧ f + 1 ≠ t ∧ f + 1 ≠ t + 1 ∧ f + 1 ≠ t + 2 := by rcases hF with ⟨rfl, rfl⟩ | ⟨rfl, rfl⟩ <;> decide
  have yf : Y f = i f := by rw [hY, kupi_cf f0.2.2.1, qP_o f0.2.2.2.2.2.2.2.2.1 f0.2.2.2.2.2.2.2.2.2.1 f0.2.2.2.2.2.2.2.2.2.2.1, hi0 f f0.2.2.1 f0.2.2.2.1]
  have yf1 : Y (f + 1) = i (f + 1) := by rw [hY, kupi_cf f0.2.2.2.2.2.2.1, qP_o f0.2.2.2.2.2.2.2.2.2.2.2.1 f0.2.2.2.2.2.2.2.2.2.2.2.2.1 f0.2.2.2.2.2.2.2.2.2.2.2.2.2, hi0 _ f0.2.2.2.2.2.2.1 f0.2.2.2.2.2.2.2.1]
  clear hY
  have hX0 : ∀ (i2 : Nat → Nat → Int32), i2 1 1 = 0 → i2 91 11 = 0 → IX (i2 1 1) (i2 91 11) (i2 2) (i2 98) := fun i2 a b => ⟨0, by decide, a, b, fun x hx => absurd hx (Nat.not_lt_zero x)⟩
  rcases alt with ⟨a1, a2, a3, a4⟩ | ⟨z, hz, a1, a2⟩
  · subst a1; subst a2
    obtain ⟨n0, n2, e2, h40, e19, hr, _⟩ := IV_rule h
    have n240 : n2 ≤ 40 := hr.1.1
    obtain ⟨s2, hc⟩ := c_lawG (i := i) (l := l) (f := f) (sp := sp) hf (show Y 5 0 = Int32.ofNat m by rw [yl 5 (by decide) (by decide) (by decide)]; exact h5) h8 yt2 a3 hC
    -- the class's cells after it
    have agV : kAg kSr i (wPut (rPut Y t s2) m) := by
      refine ag_u ?_ rfl
      rcases ht with rfl | rfl
      · exact ag_rl agY rfl (fun _ _ => rfl)
      · exact ag_rl agY rfl (fun _ _ => rfl)
    have vt : ∀ z, 91 ≤ z → wPut (rPut Y t s2) m z = i z := fun z hz => by rw [wP_o (by omega), rP_hi hf hz, yt z hz]
    have v1 : wPut (rPut Y t s2) m 1 = Y 1 := by rw [wP_o (by decide), rP_lo hf (by decide)]
    have v3 : wPut (rPut Y t s2) m 3 1 = Int32.ofNat m := wP_n
    have vf : wPut (rPut Y t s2) m f = i f ∧ wPut (rPut Y t s2) m (f + 1) = i (f + 1) := by
      have q : f ≠ 3 ∧ f + 1 ≠ 3 := by rcases hF with ⟨rfl, _⟩ | ⟨rfl, _⟩ <;> decide
      rw [wP_o q.1, wP_o q.2, rP_o f0.2.2.2.2.2.2.2.2.1 f0.2.2.2.2.2.2.2.2.2.2.1, rP_o f0.2.2.2.2.2.2.2.2.2.2.2.1 f0.2.2.2.2.2.2.2.2.2.2.2.2.2, yf, yf1]
      exact ⟨rfl, rfl⟩
    generalize wPut (rPut Y t s2) m = V at hc agV vt v1 v3 vf
    have R := fun (sc : Nat × (Nat → Int32)) (d y nx : Nat) (hd : List (Int × Nat)) (L st : List Value) (cu su : Nat) (l : Nat → Nat → Int64) (f t : Nat) (sp : Nat → Nat) (K : Option (Option Value) → kS → Prop) => hM (uPut V) (by rw [uP_f (by decide), vt 91 (by decide)]; exact x2) (fun x hx => by rw [uP_o (by decide), vt 98 (by decide)]) (by rw [uP_o (by decide), vt 101 (by decide)]) sc d y nx hd L st cu su l f t sp K
    have agX : kAg kSr i (tS (kS3 (kupi (uPut V) 91 11 0) C' c') x' o g') := ag_tS (ag_kS3 (ag_u (ag_t agV (ag_u ag_r rfl)) rfl))
    have xr : ∀ z, z ≠ 91 → z ≠ 101 → tS (kS3 (kupi (uPut V) 91 11 0) C' c') x' o g' z = V z := fun z z1 z2 => by rw [tS_o z1, kS3_o z2 z1, kupi_cf z1, uP_o z1]
    have xf : ∀ z, z ≠ 0 → z ≠ 11 → z ≠ 12 → z ≠ 13 → z ≠ 14 → z ≠ 20 → tS (kS3 (kupi (uPut V) 91 11 0) C' c') x' o g' 91 z = i 91 z := fun z z0 z1 z2 z3 z4 z5 => by rw [tS_f z2 z3 z4, kS3_f z5, kupi_k z1, uP_f z0, vt 91 (by decide)]
    have x11 : tS (kS3 (kupi (uPut V) 91 11 0) C' c') x' o g' 91 11 = 0 := by rw [tS_f (by decide) (by decide) (by decide), kS3_f (by decide), kupi_s]
    have x20 : tS (kS3 (kupi (uPut V) 91 11 0) C' c') x' o g' 91 20 = Int32.ofNat c' := rfl
    have x101 : tS (kS3 (kupi (uPut V) 91 11 0) C' c') x' o g' 101 = C' := by rw [tS_o (by decide), kS3_101]
    generalize tS (kS3 (kupi (uPut V) 91 11 0) C' c') x' o g' = X at R agX xr xf x11 x20 x101
    have x19 : X 91 19 = Int32.ofNat n2 := by rw [xf 19 (by decide) (by decide) (by decide) (by decide) (by decide) (by decide)]; exact e19
    have agW : kAg kSr i (lwX X n2 c') := ag_lay (ag_was agX)
    have wr : ∀ z, z ≠ 91 → z ≠ 100 → z ≠ 115 → lwX X n2 c' z = X z := fun z z1 z2 z3 => by unfold lwX lay wasC; rw [aP_o z2, kupi_cf z1, aP_o z3]
    have wf : ∀ z, z ≠ 19 → lwX X n2 c' 91 z = X 91 z := fun z z1 => by unfold lwX lay wasC; rw [aP_o (by decide), kupi_k z1, aP_o (by decide)]
    have w19 : lwX X n2 c' 91 19 = Int32.ofNat c' := by unfold lwX lay; rw [aP_o (by decide), kupi_s]
    have w100 : ∀ x, x < c' → lwX X n2 c' 100 x = C' x := fun x hx => by unfold lwX lay; rw [aP_s (by omega), if_pos hx]; unfold wasC; rw [aP_o (by decide), x101]
    have w115 : ∀ x, x < n2 → lwX X n2 c' 115 x = i 100 x := fun x hx => by unfold lwX lay; rw [aP_o (by decide), kupi_c (by decide)]; unfold wasC; rw [aP_s (by omega), if_pos hx, xr 100 (by decide) (by decide), vt 100 (by decide)]
    have hr2 : RR (Y (t + 1)) n1 (lwX X n2 c' 100) c' := RR_c a4 (fun x hx => (yta x (by omega)).symm) (fun x hx => (w100 x hx).symm)
    have w3 : lwX X n2 c' 91 3 = Int32.ofNat m := by rw [wf 3 (by decide), xf 3 (by decide) (by decide) (by decide) (by decide) (by decide) (by decide)]; exact h91
    have wi : ∀ z, z = 93 ∨ z = 94 ∨ z = 95 ∨ z = 96 → lwX X n2 c' z = i z := fun z hz => by rw [wr z (by omega) (by omega) (by omega), xr z (by omega) (by omega), vt z (by omega)]
    have eco : mCo (lwX X n2 c') = mCo i := by unfold mCo; rw [wi 93 (by decide), wi 94 (by decide), wi 95 (by decide)]
    obtain ⟨u2, hu2, hm⟩ := m_lawG (Y := V) (l := tC l 0 (dl (lwC Y t m n1) m)) (f := f) (t := t) (sp := sp) R x19 n240 x20 hc' rfl w3 h8 w19 hr2.1
    have y5 : Y 8 = i 8 ∧ Y 6 = i 6 ∧ nGet Y 10 = nGet i 10 := ⟨yl 8 (by decide) (by decide) (by decide), yl 6 (by decide) (by decide) (by decide), nGet_c (yl 10 (by decide) (by decide) (by decide)) (yl 11 (by decide) (by decide) (by decide)) (yl 12 (by decide) (by decide) (by decide))⟩
    have hco : ∀ a, a < m → i 8 a = mCo i a := fun a ha => (hp a ha).2.2
    have hbr : ∀ a, a < m → i 6 a = i 94 a := fun a ha => (hp a ha).1
    have hq : qSpk (Y 8) (Y 6) m (nGet Y 10) (Y (t + 1)) n1 = (rSpk (mCo (lwX X n2 c')) (lwX X n2 c' 94) (lwX X n2 c' 96) m (lwX X n2 c' 100) c' (lwX X n2 c' 102) (lwX X n2 c' 103)).1 := by
      rw [y5.1, y5.2.1, y5.2.2, eco, wi 94 (by decide), wi 96 (by decide)]
      exact spk_eq hco hbr h8 hN.1 hr2
    have ok := @rSpk_ok m (lwX X n2 c' 96) (lwX X n2 c' 102) (lwX X n2 c' 103) (mCo (lwX X n2 c')) (lwX X n2 c' 94) c' (lwX X n2 c' 100) h8
    have eD : dl (lwD (lwX X n2 c') m c') m = dl (lwC Y t m n1) m := by
      have : ∀ k, k ≤ m → dl (lwD (lwX X n2 c') m c') k = dl (lwC Y t m n1) k := dl_c (fun a ha => by
        unfold lwD lwC
        rw [y5.1, y5.2.1, y5.2.2, eco, wi 94 (by decide), wi 96 (by decide), eR_eq hco hbr h8 ha hN.1 hr2])
      exact this m (Nat.le_refl _)
    rw [nob_eq (by rcases ok with e | ⟨a, ha, e, _⟩; exact Or.inl e; exact Or.inr ⟨a, ha, e⟩) h8, ← hq, eD] at hm
    refine ⟨_, V, _, f, t, sp, _, _, m, hc, hm, ?_⟩
    have zr : ∀ z, z ≠ 91 → z ≠ 96 → z ≠ 100 → z ≠ 102 → z ≠ 103 → lay (vPut (mS (lwX X n2 c') 96 u2) m) 115 n2 z = lwX X n2 c' z := fun z z1 z2 z3 z4 z5 => by
      unfold lay mS; rw [aP_o z3, kupi_cf z1, vP_o z1, mP_o z2 z1 z4 z5]
    have zf : ∀ z, z ≠ 1 → z ≠ 19 → (z < 25 ∨ 29 ≤ z) → lay (vPut (mS (lwX X n2 c') 96 u2) m) 115 n2 91 z = lwX X n2 c' 91 z := fun z z1 z2 z3 => by
      unfold lay; rw [aP_o (by decide), kupi_k z2, vP_f z1, mS_f b96 z3]
    refine kIV_r h ?_ (hX0 _ ?_ ?_) ?_ ?_ hF
    · refine ag_lay (ag_u ?_ rfl)
      obtain ⟨ua, ub, uc, ud⟩ := u2
      exact ag_w96 agW (fun j hj => by dsimp only at hu2; rw [hu2])
    · rw [zr 1 (by decide) (by decide) (by decide) (by decide) (by decide), wr 1 (by decide) (by decide) (by decide), xr 1 (by decide) (by decide), v1]; exact y11
    · rw [zf 11 (by decide) (by decide) (by decide), wf 11 (by decide)]; exact x11
    · have z3 : lay (vPut (mS (lwX X n2 c') 96 u2) m) 115 n2 3 1 = Int32.ofNat m := by rw [zr 3 (by decide) (by decide) (by decide) (by decide) (by decide), wr 3 (by decide) (by decide) (by decide), xr 3 (by decide) (by decide)]; exact v3
      have z1 : lay (vPut (mS (lwX X n2 c') 96 u2) m) 115 n2 91 1 = Int32.ofNat m := by unfold lay; rw [aP_o (by decide), kupi_k (by decide), vP_n]
      rw [z3, z1]
      exact IW_tell dl_len (by omega)
    · have q : f ≠ 96 ∧ f ≠ 100 ∧ f ≠ 102 ∧ f ≠ 103 ∧ f ≠ 115 ∧ f + 1 ≠ 96 ∧ f + 1 ≠ 100 ∧ f + 1 ≠ 102 ∧ f + 1 ≠ 103 ∧ f + 1 ≠ 115 := by rcases hF with ⟨rfl, _⟩ | ⟨rfl, _⟩ <;> decide
      have z19 : lay (vPut (mS (lwX X n2 c') 96 u2) m) 115 n2 91 19 = Int32.ofNat n2 := by unfold lay; rw [aP_o (by decide), kupi_s]
      refine ⟨n0, n2, ?_, z19, RR_c hr (fun x _ => ?_) (fun x hx => ?_)⟩
      · rw [zr f f0.1 q.1 q.2.1 q.2.2.1 q.2.2.2.1, wr f f0.1 q.2.1 q.2.2.2.2.1, xr f f0.1 f0.2.1, vf.1]; exact e2
      · rw [zr (f + 1) f0.2.2.2.2.1 q.2.2.2.2.2.1 q.2.2.2.2.2.2.1 q.2.2.2.2.2.2.2.1 q.2.2.2.2.2.2.2.2.1, wr (f + 1) f0.2.2.2.2.1 q.2.2.2.2.2.2.1 q.2.2.2.2.2.2.2.2.2, xr (f + 1) f0.2.2.2.2.1 f0.2.2.2.2.2.1, vf.2]
      · unfold lay; rw [aP_s (by omega), if_pos hx, vP_o (by decide)]
        unfold mS; rw [mP_o (by decide) (by decide) (by decide) (by decide), w115 x hx]
  · subst a1; subst a2
    have zm : ¬ Int32.ofNat z = -1 := m1_ne (by omega)
    have R := fun (sc : Nat × (Nat → Int32)) (d y nx : Nat) (hd : List (Int × Nat)) (L st : List Value) (cu su : Nat) (f t : Nat) (K : Option (Option Value) → kS → Prop) => hM (uPut Y) (by rw [uP_f (by decide), yt 91 (by decide)]; exact x2) (fun x hx => by rw [uP_o (by decide), yt 98 (by decide)]) (by rw [uP_o (by decide), yt 101 (by decide)]) sc d y nx hd L st cu su l f t sp K
    have agX : kAg kSr i (tS (kS3 (kupi (uPut Y) 91 11 0) C' c') x' o g') := ag_tS (ag_kS3 (ag_u (ag_t agY (ag_u ag_r rfl)) rfl))
    have xr : ∀ z, z ≠ 91 → z ≠ 101 → tS (kS3 (kupi (uPut Y) 91 11 0) C' c') x' o g' z = Y z := fun z z1 z2 => by rw [tS_o z1, kS3_o z2 z1, kupi_cf z1, uP_o z1]
    have xf : ∀ z, z ≠ 0 → z ≠ 11 → z ≠ 12 → z ≠ 13 → z ≠ 14 → z ≠ 20 → tS (kS3 (kupi (uPut Y) 91 11 0) C' c') x' o g' 91 z = i 91 z := fun z z0 z1 z2 z3 z4 z5 => by rw [tS_f z2 z3 z4, kS3_f z5, kupi_k z1, uP_f z0, yt 91 (by decide)]
    have x11 : tS (kS3 (kupi (uPut Y) 91 11 0) C' c') x' o g' 91 11 = 0 := by rw [tS_f (by decide) (by decide) (by decide), kS3_f (by decide), kupi_s]
    generalize tS (kS3 (kupi (uPut Y) 91 11 0) C' c') x' o g' = X at R agX xr xf x11
    have hc : CC 130 [.ref 0] i l f t sp (.int (-10000 - Int32.ofNat z)) Y l f t sp := by
      intro sc d y nx hd L st cu su K
      refine kCA_of (d := d + 499) (v := some (.int _)) (fun K => ?_)
      rw [km_130]
      show kWP sc (d + 499) 130 0 [.ref 0, .retAddr 0, .retAddr 0] [] _ K = _
      simp only [e_X10_law_0, e_X10_law_1, e_X10_law_4, e_X10_law_5, e_X10_law_6, e_X10_law_7, e_X10_law_10, e_X10_law_13, e_X10_law_14, e_X10_law_15, e_X10_law_16, e_X10_law_17, e_X10_law_20, e_X10_law_23, e_X10_law_24, e_X10_law_26, e_X10_law_27, e_X10_law_30, e_X10_law_33, e_X10_law_36, e_X10_law_37, e_X10_law_40, e_X10_law_41, e_X10_law_44, e_X10_law_45, e_X10_law_48, e_X10_law_49, e_X10_law_52, e_X10_law_53, e_X10_law_56, e_X10_law_57, e_X10_law_60, e_X10_law_63, e_X10_law_66, e_X10_law_67, e_X10_law_70, e_X10_law_71, e_X10_law_74, e_X10_law_75, e_X10_law_78, e_X10_law_81, e_X10_law_84, ob_0, rk_0_1, ob_3, rk_0_2, ob_5, rk_0_11, rk_0_3, ob_r hf, ob_10, ob_13, kcl_i, kcl_r, kcl_l, kcl_0, kcl_n, true_and, and_true, hC sc (d + 491), zm, if_false]
    have hm : CC 245 [.ref 91] Y l f t sp (.int (-10000 - Int32.ofNat z)) X l f t sp := by
      intro sc d y nx hd L st cu su K
      refine kCA_of (d := d + 499) (v := some (.int _)) (fun K => ?_)
      rw [km_245]
      show kWP sc (d + 499) 245 0 [.ref 91, .retAddr 0, .retAddr 0, .retAddr 0, .retAddr 0] [] _ K = _
      simp only [e_X11_law_0, e_X11_law_1, e_X11_law_2, e_X11_law_5, e_X11_law_6, e_X11_law_9, e_X11_law_10, e_X11_law_11, e_X11_law_14, e_X11_law_15, e_X11_law_16, e_X11_law_17, e_X11_law_20, e_X11_law_21, e_X11_law_22, e_X11_law_23, e_X11_law_26, e_X11_law_27, e_X11_law_28, e_X11_law_30, e_X11_law_31, e_X11_law_34, e_X11_law_37, e_X11_law_38, e_X11_law_41, e_X11_law_42, e_X11_law_43, e_X11_law_46, e_X11_law_47, e_X11_law_48, e_X11_law_49, e_X11_law_52, e_X11_law_55, e_X11_law_56, e_X11_law_57, e_X11_law_60, e_X11_law_61, e_X11_law_64, e_X11_law_67, e_X11_law_68, e_X11_law_69, e_X11_law_72, e_X11_law_75, e_X11_law_76, e_X11_law_77, e_X11_law_78, e_X11_law_81, e_X11_law_82, e_X11_law_86, e_X11_law_87, e_X11_law_90, e_X11_law_93, e_X11_law_94, e_X11_law_95, e_X11_law_96, e_X11_law_99, e_X11_law_101, e_X11_law_104, e_X11_law_105, e_X11_law_108, e_X11_law_111, e_X11_law_114, e_X11_law_115, e_X11_law_116, e_X11_law_119, e_X11_law_120, e_X11_law_123, e_X11_law_124, e_X11_law_127, ob_91, rk_91_42, ar_115, rk_91_17, ar_100, rk_91_18, ar_101, rk_91_8, ar_96, kcl_i, kcl_r, kcl_l, kcl_0, kcl_n, true_and, and_true, uP_0, R sc (d + 199), neg_z (show z < 100000 by omega), if_false, sub_1000]
    refine ⟨_, Y, l, f, t, sp, X, l, m, hc, hm, ?_⟩
    refine kIV_r h agX (hX0 _ (by rw [xr 1 (by decide) (by decide)]; exact y11) x11) ?_ ?_ hF
    · rw [xr 3 (by decide) (by decide), xf 1 (by decide) (by decide) (by decide) (by decide) (by decide) (by decide), yl 3 (by decide) (by decide) (by decide)]; exact hW
    · rw [xr f f0.1 f0.2.1, xr (f + 1) f0.2.2.2.2.1 f0.2.2.2.2.2.1, xf 19 (by decide) (by decide) (by decide) (by decide) (by decide) (by decide), xr 100 (by decide) (by decide), yf, yf1, yt 100 (by decide)]; exact hR
end TC
