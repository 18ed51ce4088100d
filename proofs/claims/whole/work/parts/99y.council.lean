/-! council: more men -/
section TC
variable {sc : Nat × (Nat → Int32)} {d y nx : Nat} {hd : List (Int × Nat)} {L st : List Value} {S : kS} {cu su : Nat} {i : Nat → Nat → Int32} {l : Nat → Nat → Int64} {f t c b m : Nat} {sp : Nat → Nat} {K : Option (Option Value) → kS → Prop}
variable {N M Z S1 Q A b w R : Nat → Int32} {i2 Y : Nat → Nat → Int32} {n n2 k x a o g c L to F D z kk : Nat} {v r p q : Int32} {T : Nat → Int32}
theorem NR_grow (h : NR m N M) (hc : m ≤ c) : NR c N M := by
  obtain ⟨⟨h1, h2, h3, h4, h5, h6⟩, h7⟩ := h
  refine ⟨⟨h1, h2, h3, ?_, ?_, fun a ha h8 => h6 a (by omega) h8⟩, h7⟩
  · rcases h4 with e | ⟨a, ha, e⟩
    · exact Or.inl e
    · exact Or.inr ⟨a, by omega, e⟩
  · rcases h5 with e | ⟨a, ha, e⟩
    · exact Or.inl e
    · exact Or.inr ⟨a, by omega, e⟩
theorem IV_grow (h : IV m i l f t sp) (hc : m ≤ c) (h8 : c ≤ 8)
    (A : ∀ z, (z = 3 ∨ (9 ≤ z ∧ z ≤ 12) ∨ (20 ≤ z ∧ z ≤ 76) ∨ z = 85 ∨ z = 86 ∨ z = 88 ∨ z = 89 ∨ z = 93 ∨ z = 96 ∨ z = 100 ∨ z = 104 ∨ z = 113 ∨ z = 114 ∨ z = 116 ∨ z = 117 ∨ z = 118) → Y z = i z)
    (B : ∀ z, (z = 1 ∨ z = 19 ∨ z = 39) → Y 91 z = i 91 z)
    (y5 : Y 5 0 = Int32.ofNat c) (y3 : Y 91 3 = Int32.ofNat c) (y1 : Y 1 1 = 0) (y11 : Y 91 11 = 0)
    (yp : ∀ a, a < c → Y 6 a = Y 94 a ∧ Y 7 a = Y 95 a ∧ Y 8 a = pAble (Y 93) (Y 94 a) (Y 95 a))
    (e0 : c = m → Y 16 1 = i 16 1 ∧ Y 91 23 = i 91 23 ∧ Y 91 4 = i 91 4 ∧ Y 19 = i 19)
    (e1 : ¬ c = m → Y 16 1 = 0 ∧ Y 91 23 = 0 ∧ Y 91 4 = i 91 4 + 1 ∧ ∀ j, j < 3 → Y 19 j = 0) : IV c Y l f t sp := by
  obtain ⟨⟨_, _, _, e9, hle, _⟩, _, hW, hN, hU, hS, hK, hH, hR, hF⟩ := h
  have nn : ∀ c, 20 ≤ c → c < 74 → Y c = i c := fun c c1 c2 => A c (by omega)
  refine ⟨⟨y5, y3, h8, ?_, ?_, yp⟩, ⟨0, by decide, y1, y11, fun x hx => absurd hx (Nat.not_lt_zero x)⟩, ?_, ?_, ?_, hS, ?_, ?_, ?_, hF⟩
  · rw [A 9 (by decide), A 93 (by decide)]; exact e9
  · rw [A 93 (by decide)]; exact hle
  · rw [A 3 (by decide), B 1 (by decide)]; exact hW
  · rw [nGet_c (i := i) (c := 10) (A 10 (by decide)) (A 11 (by decide)) (A 12 (by decide)), A 96 (by decide)]; exact NR_grow hN hc
  · by_cases q : c = m
    · obtain ⟨a1, a2, _, _⟩ := e0 q
      rw [a1, a2, A 104 (by decide), q]
      exact IU_c hS hU nn
    · obtain ⟨a1, a2, _, _⟩ := e1 q
      exact ⟨0, by decide, a1, a2, fun j hj => absurd hj (Nat.not_lt_zero j)⟩
  · rw [A 116 (by decide), A 117 (by decide), A 118 (by decide)]
    by_cases q : c = m
    · obtain ⟨_, _, a3, a4⟩ := e0 q
      rw [a3, a4, q]
      exact IK_c hK nn
    · obtain ⟨_, _, a3, a4⟩ := e1 q
      obtain ⟨ch, k1, k2, k3⟩ := hK
      refine ⟨ch + 1, by omega, by rw [a3, k2, tn_s], fun j hj => ?_⟩
      obtain ⟨g1, ⟨c2, g2, g3⟩, _, _⟩ := k3 j hj
      refine ⟨g1, ⟨c2, by omega, g3⟩, ?_, fun e => ?_⟩
      · rw [a4 j hj, g3, if_neg]
        rintro ⟨_, e⟩
        rw [tn_eq (by omega) (by omega)] at e
        omega
      · rw [a4 j hj] at e
        exact absurd e (by decide)
  · rw [A 74 (by decide), A 75 (by decide), A 76 (by decide), A 113 (by decide), A 114 (by decide), B 39 (by decide)]; exact hH
  · refine IR_c hF ?_ (by rw [A 85 (by decide)]) (by rw [A 88 (by decide)]) (A 86 (by decide)) (A 89 (by decide))
    rw [B 19 (by decide), A 100 (by decide)]; exact hR
theorem J_council (h : IV m i l f t sp) : JJ 98 181 [] i l f t sp := by
  obtain ⟨⟨h5, h91, h8, e9, hle, hp⟩, ⟨n, h80, x1, x2, x3⟩, hW, hN, hU, hS, hK, hH, hR, hF⟩ := id h
  have x4 : ∀ x, x < n → i 2 x = i 98 x := fun x hx => (x3 x hx).1
  generalize hto : min n 79 = to
  have hto' : to = min n 79 := hto.symm
  have C := c_council (l := l) (f := f) (t := t) (sp := sp) (T := i 98) x1 h80 x4 h5 h8 hto'
  have E := fault_eq (T := i 98) (b := i 6) (w := i 7) (R := i 99) (n := n) (m := m) (to := to) (F := 80) (D := 81) (by decide) (by decide) h80 h8 hto'
  cases hz : cFt (i 98) m (i 6) (i 7) to with
  | some z =>
    have hz1 := kfi_some hz
    have hz2 := kfi_before hz
    exact J_councilF h x1 x2 h80 x4 hto' (by omega) (fun q hq => hz2 q (Nat.zero_le _) hq) (C.1 z hz) (E.1 z hz)
  | none =>
    have hnb : ∀ q, q < to → ¬ cBad (i 98) q (cSt (i 98) m (i 6) (i 7) q) := fun x hx => kfi_none hz x (Nat.zero_le _) (by omega)
    by_cases hE : cEnd n to (cSt (i 98) m (i 6) (i 7) to)
    · exact J_councilF h x1 x2 h80 x4 hto' (Nat.le_refl _) hnb (C.2 hz hE) (E.2.1 hz hE)
    · obtain ⟨f1, f2, f3⟩ := E.2.2 hz hE
      have ok := cSt_ok (T := i 98) (b := i 6) (w := i 7) h8 to hnb
      have kp := cSt_keep (T := i 98) (b := i 6) (w := i 7) h8 to hnb
      have G := c_councilG (l := l) (f := f) (t := t) (sp := sp) (T := i 98) x1 h80 x4 h5 h8 hto' hz hE rfl
      have hl := mFin_le (T := i 98) (m := m) (n := n) (to := to) (F := 80) (D := 81) (R := i 99) (by decide) (by decide) h80 h8 hto'
      generalize hkk : (mFin (i 98) to m 80 81 n (i 99)).2.2.1 = kk at f2 f3
      generalize hcc : (cSt (i 98) m (i 6) (i 7) to).1 = c at G f2
      have ok2 : c ≤ 8 := by rw [← hcc]; exact ok.2.1
      generalize hb : (cSt (i 98) m (i 6) (i 7) to).2.2.2.1 = b at G
      generalize hw : (cSt (i 98) m (i 6) (i 7) to).2.2.2.2 = w at G
      have f3' : ∀ q, q < kk → (mFin (i 98) to m 80 81 n (i 99)).2.1 (2 * q) = b (m + q) ∧ (mFin (i 98) to m 80 81 n (i 99)).2.1 (2 * q + 1) = w (m + q) := by
        intro q hq
        have := f3 q hq
        rw [hb, hw] at this; exact this
      have kp' : ∀ a, a < m → b a = i 6 a ∧ w a = i 7 a := by
        intro a ha
        have := kp a ha
        rw [hb, hw] at this; exact this
      have ekk : c - m = kk := by omega
      rw [ekk] at G
      have hX : ∃ X, X = (if c = m then cX i b w c else fgt (cX i b w c)) := ⟨_, rfl⟩
      obtain ⟨X, hX⟩ := hX
      rw [← hX] at G
      have xc : ∀ z, z ≠ 1 → z ≠ 5 → z ≠ 6 → z ≠ 7 → z ≠ 8 → cX i b w c z = i z := fun z z1 z5 z6 z7 z8 => by
        unfold cX; rw [kupi_cf z1, aP_o z8, kupi_cf z5, pS_o z6 z7]
      have xo : ∀ z, z ≠ 16 → z ≠ 19 → X z = cX i b w c z := fun z z1 z2 => by
        rw [hX]
        by_cases q : c = m
        · rw [if_pos q]
        · rw [if_neg q]; unfold fgt; rw [kupi_cf z2, kupi_cf z2, kupi_cf z2, kupi_cf z1]
      have xi : ∀ z, z ≠ 1 → z ≠ 5 → z ≠ 6 → z ≠ 7 → z ≠ 8 → z ≠ 16 → z ≠ 19 → X z = i z := fun z z1 z5 z6 z7 z8 z9 z10 => by rw [xo z z9 z10, xc z z1 z5 z6 z7 z8]
      have x99 : X 99 = i 99 := xi 99 (by decide) (by decide) (by decide) (by decide) (by decide) (by decide) (by decide)
      have x91 : X 91 = i 91 := xi 91 (by decide) (by decide) (by decide) (by decide) (by decide) (by decide) (by decide)
      have x98 : X 98 = i 98 := xi 98 (by decide) (by decide) (by decide) (by decide) (by decide) (by decide) (by decide)
      have MG := m_councilG (i := X) (l := l) (f := f) (t := t) (sp := sp) (F := 80) (D := 81) (n := n) (m := m) (to := to) (T := i 98) (kk := kk) (by decide) (by decide) (by rw [x91]; exact x2) h80 (by rw [x91]; exact h91) h8 hto' (fun x _ => by rw [x98]) (by rw [x99]; exact hl) (by rw [x99]; exact f1) (by rw [x99]; exact hkk) (by omega)
      rw [x99] at MG
      generalize (mFin (i 98) to m 80 81 n (i 99)).2.1 = R at MG f3'
      generalize (mFin (i 98) to m 80 81 n (i 99)).1 = a at MG
      refine ⟨_, _, _, f, t, sp, _, _, c, G, MG, ?_⟩
      have gr := grow_bw (m := m) (R := R) (b := X 94) (w := X 95) (M := X 96) kk
      have x94 : X 94 = i 94 := xi 94 (by decide) (by decide) (by decide) (by decide) (by decide) (by decide) (by decide)
      have x95 : X 95 = i 95 := xi 95 (by decide) (by decide) (by decide) (by decide) (by decide) (by decide) (by decide)
      have x96 : X 96 = i 96 := xi 96 (by decide) (by decide) (by decide) (by decide) (by decide) (by decide) (by decide)
      have gn : (kfo (gSt m R) kk (X 94, X 95, X 96)).2.2 = X 96 := grow_now (fun a h1 h2 => by rw [x96]; exact hN.1.2.2.2.2.2 a h1 h2) kk (by omega)
      generalize hY : gE X R kk a to m = Y
      have go : ∀ z, z ≠ 91 → z ≠ 94 → z ≠ 95 → z ≠ 96 → z ≠ 99 → Y z = X z := fun z z1 z4 z5 z6 z9 => by
        have e : gJ X R kk a to m z = X z := by
          funext y; unfold gJ gC
          rw [if_neg z4, if_neg z5, if_neg z6, if_neg (fun q => z1 q.1), tS_o z1, kS2_o z9 z1, kupi_cf z1, uP_o z1]
        rw [← hY]; unfold gE
        by_cases q : kk = 0
        · rw [if_pos q]; exact e
        · rw [if_neg q, kupi_cf z1, kupi_cf z1]; exact e
      have gj : ∀ z, z ≠ 91 → Y z = gJ X R kk a to m z := fun z z1 => by
        rw [← hY]; unfold gE
        by_cases q : kk = 0
        · rw [if_pos q]
        · rw [if_neg q, kupi_cf z1, kupi_cf z1]
      have y94 : Y 94 = (kfo (gSt m R) kk (X 94, X 95, X 96)).1 := (gj 94 (by decide)).trans rfl
      have y95 : Y 95 = (kfo (gSt m R) kk (X 94, X 95, X 96)).2.1 := (gj 95 (by decide)).trans rfl
      have y96 : Y 96 = i 96 := (gj 96 (by decide)).trans (gn.trans x96)
      have gi : ∀ z, z ≠ 91 → z ≠ 94 → z ≠ 95 → z ≠ 96 → z ≠ 99 → z ≠ 1 → z ≠ 5 → z ≠ 6 → z ≠ 7 → z ≠ 8 → z ≠ 16 → z ≠ 19 → Y z = i z := fun z z1 z2 z3 z4 z5 z6 z7 z8 z9 z10 z11 z12 => by rw [go z z1 z2 z3 z4 z5, xi z z6 z7 z8 z9 z10 z11 z12]
      have jf : ∀ z, z ≠ 0 → z ≠ 3 → z ≠ 11 → z ≠ 12 → z ≠ 13 → z ≠ 14 → z ≠ 16 → gJ X R kk a to m 91 z = i 91 z := fun z z0 z3 z11 z12 z13 z14 z16 => by
        unfold gJ; rw [gC_f z3, tS_f z12 z13 z14, kS2_f z16, kupi_k z11, uP_f z0, x91]
      have gf : ∀ z, z ≠ 23 → z ≠ 4 → Y 91 z = gJ X R kk a to m 91 z := fun z z1 z2 => by
        rw [← hY]; unfold gE
        by_cases q : kk = 0
        · rw [if_pos q]
        · rw [if_neg q, kupi_k z2, kupi_k z1]
      refine IV_grow h (by omega) ok2 (fun z hz => ?_) (fun z hz => ?_) ?_ ?_ ?_ ?_ (fun a ha => ?_) (fun q => ?_) (fun q => ?_)
      · by_cases q : z = 96
        · rw [q]; exact y96
        · exact gi z (by omega) (by omega) (by omega) q (by omega) (by omega) (by omega) (by omega) (by omega) (by omega) (by omega) (by omega)
      · rw [gf z (by omega) (by omega), jf z (by omega) (by omega) (by omega) (by omega) (by omega) (by omega) (by omega)]
      · rw [go 5 (by decide) (by decide) (by decide) (by decide) (by decide), xo 5 (by decide) (by decide)]
        unfold cX; rw [kupi_c (by decide), aP_o (by decide), kupi_s]
      · rw [gf 3 (by decide) (by decide), f2]; rfl
      · rw [go 1 (by decide) (by decide) (by decide) (by decide) (by decide), xo 1 (by decide) (by decide)]
        unfold cX; exact kupi_s
      · rw [gf 11 (by decide) (by decide)]
        unfold gJ; rw [gC_f (by decide), tS_f (by decide) (by decide) (by decide), kS2_f (by decide), kupi_s]
      · have q6 : Y 6 a = b a := by
          rw [go 6 (by decide) (by decide) (by decide) (by decide) (by decide), xo 6 (by decide) (by decide)]
          unfold cX; rw [kupi_c (by decide), aP_o (by decide), kupi_c (by decide), pS_6]
        have q7 : Y 7 a = w a := by
          rw [go 7 (by decide) (by decide) (by decide) (by decide) (by decide), xo 7 (by decide) (by decide)]
          unfold cX; rw [kupi_c (by decide), aP_o (by decide), kupi_c (by decide), pS_7]
        have q8 : Y 8 a = pAble (i 93) (b a) (w a) := by
          rw [go 8 (by decide) (by decide) (by decide) (by decide) (by decide), xo 8 (by decide) (by decide)]
          unfold cX; rw [kupi_c (by decide), aP_s (by omega), pWs_eq, if_pos ha, kupi_cf (show 9 ≠ 5 by decide), kupi_cf (show 6 ≠ 5 by decide), kupi_cf (show 7 ≠ 5 by decide), pS_6, pS_7, pS_o (by decide) (by decide), pW_able, e9]
        have q93 : Y 93 = i 93 := gi 93 (by decide) (by decide) (by decide) (by decide) (by decide) (by decide) (by decide) (by decide) (by decide) (by decide) (by decide) (by decide)
        have q94 : Y 94 a = b a ∧ Y 95 a = w a := by
          rw [y94, y95, gr.1 a, gr.2 a]
          by_cases q : m ≤ a ∧ a < m + kk
          · rw [if_pos q, if_pos q]
            have := f3' (a - m) (by omega)
            rw [show m + (a - m) = a by omega] at this
            exact this
          · rw [if_neg q, if_neg q, x94, x95]
            have ha' : a < m := by omega
            rw [(kp' a ha').1, (kp' a ha').2, (hp a ha').1, (hp a ha').2.1]
            exact ⟨rfl, rfl⟩
        rw [q6, q7, q8, q93, q94.1, q94.2]
        exact ⟨rfl, rfl, rfl⟩
      · have k0 : kk = 0 := by omega
        have e0 : Y = gJ X R kk a to m := by rw [← hY]; unfold gE; rw [if_pos k0]
        have eX : X = cX i b w c := by rw [hX, if_pos q]
        refine ⟨?_, ?_, ?_, ?_⟩
        · rw [go 16 (by decide) (by decide) (by decide) (by decide) (by decide), eX, xc 16 (by decide) (by decide) (by decide) (by decide) (by decide)]
        · rw [e0]; exact jf 23 (by decide) (by decide) (by decide) (by decide) (by decide) (by decide) (by decide)
        · rw [e0]; exact jf 4 (by decide) (by decide) (by decide) (by decide) (by decide) (by decide) (by decide)
        · rw [go 19 (by decide) (by decide) (by decide) (by decide) (by decide), eX, xc 19 (by decide) (by decide) (by decide) (by decide) (by decide)]
      · have k0 : ¬ kk = 0 := by omega
        have e0 : Y = kupi (kupi (gJ X R kk a to m) 91 23 0) 91 4 (X 91 4 + 1) := by rw [← hY]; unfold gE; rw [if_neg k0]
        have eX : X = fgt (cX i b w c) := by rw [hX, if_neg q]
        refine ⟨?_, ?_, ?_, fun j hj => ?_⟩
        · rw [go 16 (by decide) (by decide) (by decide) (by decide) (by decide), eX]
          unfold fgt; rw [kupi_c (by decide), kupi_c (by decide), kupi_c (by decide), kupi_s]
        · rw [e0, kupi_k (by decide), kupi_s]
        · rw [e0, kupi_s, x91]
        · rw [go 19 (by decide) (by decide) (by decide) (by decide) (by decide), eX]
          have : j = 0 ∨ j = 1 ∨ j = 2 := by omega
          rcases this with rfl | rfl | rfl
          · unfold fgt; rw [kupi_k (by decide), kupi_k (by decide), kupi_s]
          · unfold fgt; rw [kupi_k (by decide), kupi_s]
          · unfold fgt; rw [kupi_s]
end TC
