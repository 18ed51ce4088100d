/-! evening: the call -/
section TC
variable {sc : Nat × (Nat → Int32)} {d y nx : Nat} {hd : List (Int × Nat)} {L st : List Value} {S : kS} {cu su : Nat} {i : Nat → Nat → Int32} {l : Nat → Nat → Int64} {f t c b m : Nat} {sp : Nat → Nat} {K : Option (Option Value) → kS → Prop}
variable {N M Z S1 Q A B C A0 B0 C0 S le co br acts code co2 br2 : Nat → Int32} {n n2 k x a o g c h p to z nn ku D x' : Nat} {v r q rf : Int32} {T : Nat → Int32} {i2 j J Y X : Nat → Nat → Int32} {l2 : Nat → Nat → Int64} {w : WN} {u : WM} {sp2 : Nat → Nat}
def kSe (c k : Nat) : Bool := kSd c k || (c == 1 && k == 1) || c == 2 || c == 98 || (c == 91 && k == 11)
theorem se_sd {c k : Nat} (h : kSe c k = false) : kSd c k = false := by
  unfold kSe at h
  cases e : kSd c k
  · rfl
  · rw [e] at h; simp at h
theorem ag_de (h : kAg kSd i i2) : kAg kSe i i2 := fun c k hq => h c k (se_sd hq)
theorem ag_ce (h : kAg kSc i i2) : kAg kSe i i2 := ag_de (ag_scd h)
theorem kIV_e (h : IV m i l f t sp) (ag : kAg kSe i i2) (hX : IX (i2 1 1) (i2 91 11) (i2 2) (i2 98)) (hW : IW (i2 3 1) (i2 91 1) (l2 4) (l2 92)) (hN : NR m (nGet i2 10) (i2 96)) (hU : IU m (i2 16 1) (i2 91 23) (fun j => nGet i2 (sp2 j)) (i2 104)) (hS : IS sp2) : IV m i2 l2 f t sp2 := by
  obtain ⟨hP, _, _, _, _, _, hK, hH, hR, hF⟩ := h
  have rr : ∀ c, (∀ k, kSe c k = false) → i2 c = i c := fun c hc => ag_row ag hc
  refine ⟨?_, hX, hW, hN, hU, hS, ?_, ?_, ?_, hF⟩
  · rw [rr 5 (fun _ => rfl), ag 91 3 rfl, rr 6 (fun _ => rfl), rr 7 (fun _ => rfl), rr 8 (fun _ => rfl), rr 9 (fun _ => rfl), rr 93 (fun _ => rfl), rr 94 (fun _ => rfl), rr 95 (fun _ => rfl)]; exact hP
  · rw [ag 91 4 rfl, rr 19 (fun _ => rfl), rr 116 (fun _ => rfl), rr 117 (fun _ => rfl), rr 118 (fun _ => rfl)]
    obtain ⟨ch, h1, h2, h3⟩ := hK
    refine ⟨ch, h1, h2, fun j hj => ?_⟩
    show _ ∧ _ ∧ _ ∧ (_ → NR m (nGet i2 (65 + 3 * j)) _)
    have e : nGet i2 (65 + 3 * j) = nGet i (65 + 3 * j) := by
      have : j = 0 ∨ j = 1 ∨ j = 2 := by omega
      rcases this with rfl | rfl | rfl
      · exact nGet_c (rr _ (fun _ => rfl)) (rr _ (fun _ => rfl)) (rr _ (fun _ => rfl))
      · exact nGet_c (rr _ (fun _ => rfl)) (rr _ (fun _ => rfl)) (rr _ (fun _ => rfl))
      · exact nGet_c (rr _ (fun _ => rfl)) (rr _ (fun _ => rfl)) (rr _ (fun _ => rfl))
    rw [e]; exact h3 j hj
  · rw [rr 74 (fun _ => rfl), ag 91 39 rfl, rr 75 (fun _ => rfl), rr 76 (fun _ => rfl), rr 113 (fun _ => rfl), rr 114 (fun _ => rfl)]; exact hH
  · refine IR_c hF ?_ (ag 85 2 rfl) (ag 88 2 rfl) (rr 86 (fun _ => rfl)) (rr 89 (fun _ => rfl))
    rw [ag 91 19 rfl, rr 100 (fun _ => rfl)]; exact hR
theorem ag_tSe {P : Nat → Nat → Bool} (h : kAg P i i2) (p1 : P 91 12 = true) (p2 : P 91 13 = true) (p3 : P 91 14 = true) : kAg P i (tS i2 a o g) := by
  intro c z hq
  unfold tS
  rw [if_neg (fun e => by rw [e.1, e.2, p1] at hq; exact absurd hq (by decide)), if_neg (fun e => by rw [e.1, e.2, p2] at hq; exact absurd hq (by decide)), if_neg (fun e => by rw [e.1, e.2, p3] at hq; exact absurd hq (by decide))]
  exact h c z hq
theorem ag_kS4 {P : Nat → Nat → Bool} (h : kAg P i i2) (p1 : ∀ z, P 105 z = true) (p2 : ∀ z, P 106 z = true) (p3 : ∀ z, P 107 z = true) (p4 : P 91 32 = true) : kAg P i (kS4 i2 A B C k) := by
  intro c z hq
  unfold kS4
  rw [if_neg (fun e => by rw [e, p1] at hq; exact absurd hq (by decide)), if_neg (fun e => by rw [e, p2] at hq; exact absurd hq (by decide)), if_neg (fun e => by rw [e, p3] at hq; exact absurd hq (by decide)), if_neg (fun e => by rw [e.1, e.2, p4] at hq; exact absurd hq (by decide))]
  exact h c z hq
theorem J_evening (h : IV m i l f t sp) : JJ 106 211 [] i l f t sp := by
  obtain ⟨⟨h5, h91, h8, e9, hle, hp⟩, ⟨n, h80, x1, x2, x3⟩, hW, hN, hU, hS, hK, hH, hR, hF⟩ := id h
  obtain ⟨r0, fault, o, x', k, A, B, C, v, hBE, hME, alt⟩ := evening_ok (T := i 98) h80 x1 (fun x hx => (x3 x hx).1) (i 105) (i 106) (i 107)
  have hX0 : ∀ (i2 : Nat → Nat → Int32), i2 1 1 = 0 → i2 91 11 = 0 → IX (i2 1 1) (i2 91 11) (i2 2) (i2 98) := fun i2 a b => ⟨0, by decide, a, b, fun x hx => absurd hx (Nat.not_lt_zero x)⟩
  rcases alt with ⟨a1, a2, h60, hpk, h2k, hh⟩ | ⟨z, hz, a1, a2⟩
  · subst a1; subst a2
    obtain ⟨ku, h15, k1, k2, hsp, hne, hne13⟩ := IV_undo h
    obtain ⟨n0, n2, e2, h40, e19, hr, hf⟩ := IV_rule h
    have f74 : 74 ≤ f := by rcases kRc_of hf with rfl | rfl <;> decide
    -- the class
    obtain ⟨Y, hY⟩ : ∃ Y, Y = nPut i 13 (nGet i 10) := ⟨_, rfl⟩
    have ylo : ∀ c, c < 13 → Y c = i c := fun c hc => by rw [hY, nP_o (by omega) (by omega) (by omega)]
    have yhi : ∀ c, 16 ≤ c → Y c = i c := fun c hc => by rw [hY, nP_o (by omega) (by omega) (by omega)]
    obtain ⟨W, hWe⟩ : ∃ W, W = eW (Y 9) (Y 8) (Y 6) m (Y (f + 1)) n0 (i 98) n (nGet i 10, rGet Y f) := ⟨_, rfl⟩
    have hW0 : W 0 = (nGet i 10, rGet Y f) := by rw [hWe]; rfl
    have hWs : ∀ x, W (x + 1) = aC (Y 9) (Y 8) (Y 6) m (Y (f + 1)) n0 (i 98) n (pos (i 98) x) (W x) := fun x => by rw [hWe]; rfl
    obtain ⟨D, rf, hcase⟩ : ∃ (D : Nat) (rf : Int32), (eD (Y 8) m (i 98) n k W = some D ∧ rf = 1) ∨ (eD (Y 8) m (i 98) n k W = none ∧ D = k ∧ rf = 0) := by
      cases e : eD (Y 8) m (i 98) n k W with
      | none => exact ⟨k, 0, Or.inr ⟨rfl, rfl, rfl⟩⟩
      | some D => exact ⟨D, 1, Or.inl ⟨rfl, rfl⟩⟩
    have hDk : D ≤ k := by
      rcases hcase with z | z
      · have := kfi_some z.1; omega
      · omega
    have hrf : rf = if D < k then 1 else 0 := by
      rcases hcase with z | z
      · have := kfi_some z.1
        rw [if_pos (by omega)]; exact z.2
      · rw [if_neg (by omega)]; exact z.2.2
    have G := c_eveG (i := i) (Y := Y) (l := l) (t := t) (sp := sp) (T := i 98) (D := D) (rf := rf) hBE hY hf (by rw [ylo 5 (by decide)]; exact h5) h8 (by rw [yhi f (by omega)]; exact e2) h40 (by rw [ylo 1 (by decide)]; exact x1) h60 (fun x hx => by rw [ylo 2 (by decide)]; exact (x3 x hx).1) hh hpk h2k W hW0 hWs k1 h15 hS hcase
    obtain ⟨X1, hX1⟩ : ∃ X1, X1 = kupi (nS Y f (W D)) 1 1 0 := ⟨_, rfl⟩
    rw [← hX1] at G
    have x1o : ∀ c, c ≠ 1 → c ≠ 10 → c ≠ 11 → c ≠ 12 → c < 85 → X1 c = Y c := fun c c1 c2 c3 c4 c5 => by rw [hX1, kupi_cf c1]; unfold nS; rw [rP_lo hf c5, nP_o c2 c3 c4]
    have x1h : ∀ c, 91 ≤ c → X1 c = i c := fun c hc => by rw [hX1, kupi_cf (by omega)]; unfold nS; rw [rP_hi hf hc, nP_hi c10 (by omega), yhi c (by omega)]
    have x1n : ∀ c, c = 10 ∨ c = 11 ∨ c = 12 → X1 c = nPut Y 10 (W D).1 c := fun c hc => by rw [hX1, kupi_cf (by omega)]; unfold nS; rw [rP_lo hf (by omega)]
    have x11 : X1 1 1 = 0 := by rw [hX1, kupi_s]
    have agX1 : kAg kSe i X1 := by
      rw [hX1]
      refine ag_u ?_ rfl
      unfold nS
      have g1 : kAg kSe i (nPut Y 10 (W D).1) := by
        rw [hY]
        exact ag_n (ag_ce (ag_guess ag_r)) (fun _ _ => rfl) (fun _ _ => rfl) (fun _ _ => rfl)
      rcases kRc_of hf with rfl | rfl
      · exact ag_rl g1 rfl (fun _ _ => rfl)
      · exact ag_rl g1 rfl (fun _ _ => rfl)
    have n13 : nGet X1 13 = nGet i 10 := by
      rw [nGet_c (i := Y) (c := 13) (x1o 13 (by decide) (by decide) (by decide) (by decide) (by decide)) (x1o 14 (by decide) (by decide) (by decide) (by decide) (by decide)) (x1o 15 (by decide) (by decide) (by decide) (by decide) (by decide)), hY]
      exact nG_nP (b := 10) (i2 := i) rfl
    have x16 : X1 16 = i 16 := by rw [x1o 16 (by decide) (by decide) (by decide) (by decide) (by decide), yhi 16 (by decide)]
    have x1i : ∀ c, 20 ≤ c → c < 74 → X1 c = i c := fun c c1 c2 => by rw [x1o c (by omega) (by omega) (by omega) (by omega) (by omega), yhi c (by omega)]
    -- the reference, over the class's cells V
    have ref : ∀ (V : Nat → Nat → Int32), (∀ c, 91 ≤ c → V c = i c) → ∃ (J : Nat → Nat → Int32) (u : WM), NR m (W D).1 u.1 ∧ (∀ c, c < 91 → J c = V c) ∧ (∀ z, z ≠ 0 → z ≠ 11 → z ≠ 12 → z ≠ 13 → z ≠ 14 → z ≠ 32 → J 91 z = i 91 z) ∧ J 91 11 = 0 ∧ (∀ z, z < 400 → J 104 z = pbA ku (i 104) (i 96) z) ∧ (∀ (P : Nat → Nat → Bool), (∀ z, P 105 z = true) → (∀ z, P 106 z = true) → (∀ z, P 107 z = true) → (∀ z, P 104 z = true) → P 91 32 = true → P 91 0 = true → P 91 11 = true → P 91 12 = true → P 91 13 = true → P 91 14 = true → kAg P V J) ∧
        ∀ (l : Nat → Nat → Int64) (sp : Nat → Nat), (D = 0 → CC 211 [.ref 91] V l f t sp (.int 0) (vPut (mS J 96 u) 2) (tR l 0 [rf.toInt64, (u.1 21).toInt64]) f t sp) ∧ (0 < D → CC 211 [.ref 91] V l f t sp (.int (Int32.ofNat D)) (aD (vPut (mS J 96 u) 2) ku) (tR l 0 [rf.toInt64, (u.1 21).toInt64]) f t sp) := by
      intro V hV
      obtain ⟨J0, hJ0⟩ : ∃ J0, J0 = tS (kS4 (kupi (uPut V) 91 11 0) A B C k) x' o 0 := ⟨_, rfl⟩
      obtain ⟨J, hJ⟩ : ∃ J, J = aPut J0 104 400 (pbA ku (J0 104) (J0 96)) := ⟨_, rfl⟩
      have j0o : ∀ c, c ≠ 91 → c ≠ 105 → c ≠ 106 → c ≠ 107 → J0 c = V c := fun c c1 c2 c3 c4 => by rw [hJ0, tS_o c1, kS4_o c2 c3 c4 c1, kupi_cf c1, uP_o c1]
      have j0f : ∀ z, z ≠ 0 → z ≠ 11 → z ≠ 12 → z ≠ 13 → z ≠ 14 → z ≠ 32 → J0 91 z = i 91 z := fun z z0 z1 z2 z3 z4 z5 => by rw [hJ0, tS_f z2 z3 z4, kS4_f z5, kupi_k z1, uP_f z0, hV 91 (by decide)]
      have jo : ∀ c, c ≠ 91 → c ≠ 104 → c ≠ 105 → c ≠ 106 → c ≠ 107 → J c = V c := fun c c1 c2 c3 c4 c5 => by rw [hJ, aP_o c2, j0o c c1 c3 c4 c5]
      have jf : ∀ z, z ≠ 0 → z ≠ 11 → z ≠ 12 → z ≠ 13 → z ≠ 14 → z ≠ 32 → J 91 z = i 91 z := fun z z0 z1 z2 z3 z4 z5 => by rw [hJ, aP_o (by decide), j0f z z0 z1 z2 z3 z4 z5]
      have j1 : J 105 = A := by rw [hJ, aP_o (by decide), hJ0, tS_o (by decide), kS4_1]
      have j2 : J 106 = B := by rw [hJ, aP_o (by decide), hJ0, tS_o (by decide), kS4_2]
      have j3 : J 107 = C := by rw [hJ, aP_o (by decide), hJ0, tS_o (by decide), kS4_3]
      have j32 : J 91 32 = Int32.ofNat k := by rw [hJ, aP_o (by decide), hJ0]; rfl
      have j11 : J 91 11 = 0 := by rw [hJ, aP_o (by decide), hJ0, tS_f (by decide) (by decide) (by decide), kS4_f (by decide), kupi_s]
      have ji : ∀ c, c = 93 ∨ c = 94 ∨ c = 95 ∨ c = 96 ∨ c = 100 → J c = i c := fun c hc => by rw [jo c (by omega) (by omega) (by omega) (by omega) (by omega), hV c (by omega)]
      have jco : mCo J = mCo i := by unfold mCo; rw [ji 93 (by decide), ji 94 (by decide), ji 95 (by decide)]
      have j104 : ∀ z, z < 400 → J 104 z = pbA ku (i 104) (i 96) z := fun z hz => by
        rw [hJ, aP_s hz, j0o 104 (by decide) (by decide) (by decide) (by decide), j0o 96 (by decide) (by decide) (by decide) (by decide), hV 104 (by decide), hV 96 (by decide)]
      obtain ⟨U, hUe⟩ : ∃ U, U = eU (J 93) (mCo J) (J 94) m (J 100) n2 A B C (u0 J) := ⟨_, rfl⟩
      have hU0 : U 0 = u0 J := by rw [hUe]; rfl
      have hUs : ∀ x, U (x + 1) = aM (J 93) (mCo J) (J 94) m (J 100) n2 A B C x (U x) := fun x => by rw [hUe]; rfl
      have hco : ∀ a, a < m → Y 8 a = mCo J a := fun a ha => by rw [ylo 8 (by decide), jco]; exact (hp a ha).2.2
      have hbr : ∀ a, a < m → Y 6 a = J 94 a := fun a ha => by rw [ylo 6 (by decide), ji 94 (by decide)]; exact (hp a ha).1
      have hle' : leOk (J 93) := by rw [ji 93 (by decide)]; exact hle
      have hr' : RR (Y (f + 1)) n0 (J 100) n2 := by rw [yhi (f + 1) (by omega), ji 100 (by decide)]; exact hr
      have y9 : Y 9 = J 93 := by rw [ylo 9 (by decide), ji 93 (by decide)]; exact e9
      have hNN : NR m ((nGet i 10, rGet Y f) : WN).1 (u0 J).1 := by show NR m (nGet i 10) (J 96); rw [ji 96 (by decide)]; exact hN
      have rel : ∀ x, x ≤ k → NR m (W x).1 (U x).1 := by
        rw [hWe, hUe, y9]
        exact eWU hco hbr (fun a => b8_mCo a) h8 hle' hr' hNN hh hpk
      have eDE : eE (mCo J) m A B C k U = eD (Y 8) m (i 98) n k W := by
        unfold eE eD
        refine kfi_congr (fun x _ hx => ?_)
        have := (act_rel (le := J 93) (br := Y 6) (br2 := J 94) hco hbr (fun a => b8_mCo a) h8 hle' hr' (rel x (by omega)) hh (show x < k by omega) hpk).1
        exact this.symm
      have hDe : (eE (mCo J) m A B C k U).getD k = D := by
        rw [eDE]
        rcases hcase with z | z
        · rw [z.1]; rfl
        · rw [z.1, z.2.1]; rfl
      have hc' : codeOk (J 100) n2 := hr'.1
      have MG := fun (l : Nat → Nat → Int64) (sp : Nat → Nat) => m_eveG (j := V) (J := J) (l := l) (f := f) (t := t) (sp := sp) (D := D) (rf := rf) (m := m) (n2 := n2) (ku := ku) hME (by rw [hV 91 (by decide)]; exact x2) (fun x hx => by rw [hV 98 (by decide)]) (hV 105 (by decide)) (hV 106 (by decide)) (hV 107 (by decide)) hJ0 hJ (by rw [j0f 23 (by decide) (by decide) (by decide) (by decide) (by decide) (by decide)]; exact k2) h15 (by rw [jf 3 (by decide) (by decide) (by decide) (by decide) (by decide) (by decide)]; exact h91) h8 (by rw [jf 19 (by decide) (by decide) (by decide) (by decide) (by decide) (by decide)]; exact e19) hc' hle' j1 j2 j3 j32 (by omega) U hU0 hUs (fun x hx => ⟨_, rel x hx⟩) (fun x hx => by
          obtain ⟨_, q2, _, _, q5, _⟩ := hh x hx
          obtain ⟨dd, hdd, _, edd⟩ := dg_ex q5
          exact ⟨dd, hdd, by rw [q2, edd]⟩) hDe hDk hrf
      refine ⟨J, U D, rel D hDk, fun c hc => jo c (by omega) (by omega) (by omega) (by omega) (by omega), jf, j11, j104, ?_, MG⟩
      intro P p1 p2 p3 p4 p5 p6 p7 p8 p9 p10
      rw [hJ]
      refine ag_a ?_ (fun z _ => p4 z)
      rw [hJ0]
      exact ag_tSe (ag_kS4 (ag_u (ag_u ag_r p6) p7) p1 p2 p3 p5) p8 p9 p10
    by_cases hD0 : D = 0
    · have C1 := G.1 hD0
      have vh : ∀ c, 91 ≤ c → wPut X1 2 c = i c := fun c hc => by rw [wP_o (by omega), x1h c hc]
      obtain ⟨J, u, hNR, jl, jf, j11, j104, jag, href⟩ := ref (wPut X1 2) vh
      have C2 := (href (tC l 0 [rf.toInt64, ((W D).1 21).toInt64]) sp).1 hD0
      rw [← hNR.1.1 21 (by decide)] at C2
      refine ⟨_, _, _, f, t, sp, _, _, m, C1, C2, ?_⟩
      have zl : ∀ c, c < 91 → vPut (mS J 96 u) 2 c = wPut X1 2 c := fun c hc => by rw [vP_o (by omega), mS_o (by omega) (by omega) (by omega) (by omega), jl c hc]
      have zf : ∀ z, z ≠ 0 → z ≠ 1 → z ≠ 11 → z ≠ 12 → z ≠ 13 → z ≠ 14 → z ≠ 32 → (z < 25 ∨ 29 ≤ z) → vPut (mS J 96 u) 2 91 z = i 91 z := fun z z0 z1 z2 z3 z4 z5 z6 z7 => by rw [vP_f z1, mS_f b96 z7, jf z z0 z2 z3 z4 z5 z6]
      refine kIV_e h ?_ (hX0 _ ?_ ?_) ?_ ?_ ?_ hS
      · refine ag_u ?_ rfl
        refine ag_m ?_ (fun _ _ => rfl) (fun k q1 q2 => by have := sd_91 k q1 q2; unfold kSe; rw [this]; rfl) (fun _ _ => rfl) (fun _ _ => rfl)
        exact ag_t (ag_u agX1 rfl) (jag kSe (fun _ => rfl) (fun _ => rfl) (fun _ => rfl) (fun _ => rfl) rfl rfl rfl rfl rfl rfl)
      · rw [zl 1 (by decide), wP_o (by decide)]; exact x11
      · rw [vP_f (by decide), mS_f b96 (by decide)]; exact j11
      · rw [zl 3 (by decide), wP_n, vP_n]
        exact IW_tell rfl (by decide)
      · have e10 : nGet (vPut (mS J 96 u) 2) 10 = nGet (nPut Y 10 (W D).1) 10 := nGet_c (by rw [zl 10 (by decide), wP_o (by decide), x1n 10 (by decide)]) (by rw [zl 11 (by decide), wP_o (by decide), x1n 11 (by decide)]) (by rw [zl 12 (by decide), wP_o (by decide), x1n 12 (by decide)])
        rw [e10]
        exact NR_e hNR (fun z hz => by rw [v96, mS_r hz])
      · rw [zl 16 (by decide), wP_o (by decide), x16, zf 23 (by decide) (by decide) (by decide) (by decide) (by decide) (by decide) (by decide) (by decide)]
        have hU' : IU m (i 16 1) (i 91 23) (fun j => nGet (vPut (mS J 96 u) 2) (sp j)) (i 104) := IU_c hS hU (fun c c1 c2 => by rw [zl c (by omega), wP_o (by omega), x1i c c1 c2])
        obtain ⟨nu, n1, n2', n3, n4⟩ := hU'
        have en : ku = nu := by rw [k1, tn_eq (by omega) (by omega)] at n2'; exact n2'
        refine ⟨nu, n1, n2', n3, fun j hj => NR_c (n4 j hj) (fun z hz => ?_)⟩
        rw [vP_o (by decide), mS_o (by decide) (by decide) (by decide) (by decide), j104 _ (by omega)]
        unfold pbA
        rw [if_neg (by omega)]
    · have hD1 : 0 < D := by omega
      have C1 := G.2 hD1
      have vh : ∀ c, 91 ≤ c → wPut (pRem X1 sp ku 13) 2 c = i c := fun c hc => by rw [wP_o (by omega), rem_hi hS h15 (by omega), x1h c hc]
      obtain ⟨J, u, hNR, jl, jf, j11, j104, jag, href⟩ := ref (wPut (pRem X1 sp ku 13) 2) vh
      have C2 := (href (tC l 0 [rf.toInt64, ((W D).1 21).toInt64]) (pR ku sp)).2 hD1
      rw [← hNR.1.1 21 (by decide)] at C2
      refine ⟨_, _, _, f, t, pR ku sp, _, _, m, C1, C2, ?_⟩
      have zl : ∀ c, c < 91 → aD (vPut (mS J 96 u) 2) ku c = wPut (pRem X1 sp ku 13) 2 c := fun c hc => by rw [aD_o (by omega) (by omega), vP_o (by omega), mS_o (by omega) (by omega) (by omega) (by omega), jl c hc]
      refine kIV_e h ?_ (hX0 _ ?_ ?_) ?_ ?_ ?_ (IS_pR hS)
      · refine ag_t (i2 := vPut (mS J 96 u) 2) ?_ (ag_de (ag_aD ag_r))
        refine ag_u ?_ rfl
        refine ag_m ?_ (fun _ _ => rfl) (fun k q1 q2 => by have := sd_91 k q1 q2; unfold kSe; rw [this]; rfl) (fun _ _ => rfl) (fun _ _ => rfl)
        exact ag_t (ag_u (ag_t agX1 (ag_de (ag_rem hS h15))) rfl) (jag kSe (fun _ => rfl) (fun _ => rfl) (fun _ => rfl) (fun _ => rfl) rfl rfl rfl rfl rfl rfl)
      · rw [zl 1 (by decide), wP_o (by decide), rem_lo hS h15 (by decide)]; exact x11
      · rw [aD_f (by decide), vP_f (by decide), mS_f b96 (by decide)]; exact j11
      · rw [zl 3 (by decide), wP_n, aD_f (by decide), vP_n]
        exact IW_tell rfl (by decide)
      · have e10 : nGet (aD (vPut (mS J 96 u) 2) ku) 10 = nGet (nPut Y 10 (W D).1) 10 := nGet_c (by rw [zl 10 (by decide), wP_o (by decide), rem_lo hS h15 (by decide), x1n 10 (by decide)]) (by rw [zl 11 (by decide), wP_o (by decide), rem_lo hS h15 (by decide), x1n 11 (by decide)]) (by rw [zl 12 (by decide), wP_o (by decide), rem_lo hS h15 (by decide), x1n 12 (by decide)])
        rw [e10]
        exact NR_e hNR (fun z hz => by rw [aD_o (by decide) (by decide), v96, mS_r hz])
      · rw [zl 16 (by decide), wP_o (by decide), rem_16 hS h15, aD_23]
        have hU1 : IU m (X1 16 1) (X1 91 23) (fun j => nGet X1 (sp j)) (X1 104) := by
          rw [x16, x1h 91 (by decide), x1h 104 (by decide)]
          exact IU_c hS hU x1i
        refine IU_fin (r := pbA ku (X1 104) (i 96)) (IU_rem hS hU1 (by rw [x16]; exact k1) (by rw [x1h 91 (by decide)]; exact k2) h15 c13 (by rw [n13]; exact hN) ?_) ?_
        · intro c c1 c2
          rw [zl c (by omega), wP_o (by omega)]
        · intro z hz
          rw [vP_o (by decide), mS_o (by decide) (by decide) (by decide) (by decide), j104 z hz, x1h 104 (by decide)]
  · subst a1; subst a2
    have zm : ¬ Int32.ofNat z = -1 := m1_ne (by omega)
    have hc : CC 106 [.ref 0] i l f t sp (.int (-1 - Int32.ofNat z)) (kupi i 1 1 0) l f t sp := by
      intro sc d y nx hd L st cu su K
      refine kCA_of (d := d + 499) (v := some (.int _)) (fun K => ?_)
      rw [km_106]
      show kWP sc (d + 499) 106 0 [.ref 0, .retAddr 0, .retAddr 0, .retAddr 0, .retAddr 0, .retAddr 0] [] _ K = _
      simp only [e_X10_evening_0, e_X10_evening_1, e_X10_evening_4, e_X10_evening_5, e_X10_evening_6, e_X10_evening_7, e_X10_evening_10, e_X10_evening_11, e_X10_evening_14, e_X10_evening_17, e_X10_evening_18, e_X10_evening_19, e_X10_evening_20, e_X10_evening_21, e_X10_evening_22, e_X10_evening_25, e_X10_evening_26, e_X10_evening_29, e_X10_evening_32, e_X10_evening_33, e_X10_evening_34, e_X10_evening_35, e_X10_evening_36, e_X10_evening_37, e_X10_evening_39, e_X10_evening_40, e_X10_evening_44, e_X10_evening_46, e_X10_evening_49, e_X10_evening_50, e_X10_evening_51, e_X10_evening_54, e_X10_evening_57, e_X10_evening_60, e_X10_evening_62, e_X10_evening_65, e_X10_evening_66, e_X10_evening_67, e_X10_evening_70, e_X10_evening_73, e_X10_evening_74, e_X10_evening_77, e_X10_evening_78, e_X10_evening_80, e_X10_evening_82, e_X10_evening_85, e_X10_evening_88, e_X10_evening_89, e_X10_evening_90, e_X10_evening_93, e_X10_evening_94, e_X10_evening_97, e_X10_evening_100, e_X10_evening_101, e_X10_evening_102, e_X10_evening_105, e_X10_evening_108, e_X10_evening_109, e_X10_evening_112, e_X10_evening_115, e_X10_evening_116, e_X10_evening_119, e_X10_evening_120, e_X10_evening_123, e_X10_evening_124, e_X10_evening_127, e_X10_evening_130, e_X10_evening_131, e_X10_evening_134, e_X10_evening_137, e_X10_evening_138, e_X10_evening_141, e_X10_evening_143, e_X10_evening_146, e_X10_evening_147, e_X10_evening_150, e_X10_evening_151, e_X10_evening_154, e_X10_evening_155, e_X10_evening_158, e_X10_evening_159, e_X10_evening_162, e_X10_evening_165, e_X10_evening_166, e_X10_evening_169, e_X10_evening_170, ob_0, rk_0_0, ob_1, rk_0_4, rk_0_3, ob_10, ob_13, rk_0_5, ob_16, rk_0_1, ob_3, kcl_i, kcl_r, kcl_l, kcl_0, kcl_n, true_and, and_true, hBE sc (d + 495), zm, if_false, c_empty]
    have hm : CC 211 [.ref 91] (kupi i 1 1 0) l f t sp (.int (-1 - Int32.ofNat z)) (tS (kS4 (kupi (uPut (kupi i 1 1 0)) 91 11 0) A B C k) x' o 0) l f t sp := by
      intro sc d y nx hd L st cu su K
      refine kCA_of (d := d + 499) (v := some (.int _)) (fun K => ?_)
      rw [km_211]
      show kWP sc (d + 499) 211 0 [.ref 91, .retAddr 0, .retAddr 0, .retAddr 0, .retAddr 0] [] _ K = _
      refine (hME (kupi i 1 1 0) (by rw [kupi_c (by decide)]; exact x2) (fun x hx => by rw [kupi_c (by decide)]) (by rw [kupi_cf (by decide)]) (by rw [kupi_cf (by decide)]) (by rw [kupi_cf (by decide)]) sc d cu su l f t sp K).trans ?_
      simp only [e_X11_evening_0, e_X11_evening_1, e_X11_evening_2, e_X11_evening_5, e_X11_evening_6, e_X11_evening_8, e_X11_evening_11, e_X11_evening_12, e_X11_evening_13, e_X11_evening_14, e_X11_evening_17, e_X11_evening_18, e_X11_evening_20, e_X11_evening_23, e_X11_evening_24, e_X11_evening_27, e_X11_evening_28, e_X11_evening_31, e_X11_evening_34, e_X11_evening_35, e_X11_evening_38, e_X11_evening_39, e_X11_evening_42, e_X11_evening_43, e_X11_evening_44, e_X11_evening_46, e_X11_evening_47, e_X11_evening_50, e_X11_evening_51, e_X11_evening_52, e_X11_evening_55, e_X11_evening_56, e_X11_evening_57, e_X11_evening_58, e_X11_evening_61, e_X11_evening_62, e_X11_evening_66, e_X11_evening_67, e_X11_evening_70, e_X11_evening_73, e_X11_evening_74, e_X11_evening_76, e_X11_evening_79, e_X11_evening_82, e_X11_evening_85, e_X11_evening_88, e_X11_evening_89, e_X11_evening_90, e_X11_evening_93, e_X11_evening_94, e_X11_evening_96, e_X11_evening_97, e_X11_evening_100, e_X11_evening_103, e_X11_evening_104, e_X11_evening_107, e_X11_evening_108, e_X11_evening_111, e_X11_evening_112, e_X11_evening_115, e_X11_evening_116, e_X11_evening_117, e_X11_evening_120, e_X11_evening_122, e_X11_evening_123, e_X11_evening_124, e_X11_evening_127, e_X11_evening_129, e_X11_evening_132, e_X11_evening_133, e_X11_evening_135, e_X11_evening_138, e_X11_evening_141, e_X11_evening_142, ob_91, rk_91_8, ar_96, kcl_i, kcl_r, kcl_l, kcl_0, kcl_n, true_and, and_true, neg_z (show z < 100000 by omega), if_false]
    refine ⟨_, _, l, f, t, sp, _, l, m, hc, hm, ?_⟩
    refine kIV_t h ?_ (hX0 _ ?_ ?_) ?_
    · exact ag_tSe (ag_kS4 (ag_u (ag_u (ag_u ag_r rfl) rfl) rfl) (fun _ => rfl) (fun _ => rfl) (fun _ => rfl) rfl) rfl rfl rfl
    · rw [tS_o (by decide), kS4_o (by decide) (by decide) (by decide) (by decide), kupi_c (by decide), uP_o (by decide), kupi_s]
    · rw [tS_f (by decide) (by decide) (by decide), kS4_f (by decide), kupi_s]
    · rw [tS_o (by decide), kS4_o (by decide) (by decide) (by decide) (by decide), kupi_c (by decide), uP_o (by decide), kupi_c (by decide), tS_f (by decide) (by decide) (by decide), kS4_f (by decide), kupi_k (by decide), uP_f (by decide), kupi_c (by decide)]; exact hW
end TC
