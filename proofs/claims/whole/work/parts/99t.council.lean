/-! council: what stays -/
section TC
variable {sc : Nat × (Nat → Int32)} {d y nx : Nat} {hd : List (Int × Nat)} {L st : List Value} {S : kS} {cu su : Nat} {i : Nat → Nat → Int32} {l : Nat → Nat → Int64} {f t c b m : Nat} {sp : Nat → Nat} {K : Option (Option Value) → kS → Prop}
variable {N M Z S1 Q A b w R : Nat → Int32} {n n2 k x a o g c L to F D : Nat} {v r p q : Int32} {T : Nat → Int32}
/-- the men that were there stay -/
theorem cSt_keep (h8 : m ≤ 8) : ∀ x, (∀ z, z < x → ¬ cBad T z (cSt T m b w z)) → ∀ a, a < m → (cSt T m b w x).2.2.2.1 a = b a ∧ (cSt T m b w x).2.2.2.2 a = w a := by
  intro x
  induction x with
  | zero => intro _ a _; exact ⟨rfl, rfl⟩
  | succ x ih =>
    intro hb a ha
    have I := ih (fun z hz => hb z (by omega)) a ha
    have ok := cSt_ok (T := T) (b := b) (w := w) h8 x (fun z hz => hb z (by omega))
    show (cStep T x (cSt T m b w x)).2.2.2.1 a = b a ∧ (cStep T x (cSt T m b w x)).2.2.2.2 a = w a
    generalize cSt T m b w x = s at I ok
    obtain ⟨h1, h2, h3, h4⟩ := ok
    unfold cStep
    by_cases c1 : s.2.1 = true
    · rw [if_pos c1]
      dsimp only
      rw [kuf_n (by omega), kuf_n (by omega)]
      exact I
    · rw [if_neg c1]
      have h4' := h4 (by simpa using c1)
      by_cases c2 : T x = 59
      · rw [if_pos c2]; exact I
      · rw [if_neg c2]
        dsimp only
        rw [kuf_n (by omega)]
        exact I
theorem IV_pS (h : IV m i l f t sp) (hb : ∀ a, a < m → b a = i 6 a ∧ w a = i 7 a) : IV m (pS i b w) l f t sp := by
  obtain ⟨⟨h5, h91, h8, e9, hle, hp⟩, hX, hW, hN, hU, hS, hK, hH, hR, hF⟩ := h
  have oo : ∀ c, c ≠ 6 → c ≠ 7 → pS i b w c = i c := fun c c1 c2 => pS_o c1 c2
  have nn : ∀ c, 20 ≤ c → c < 74 → pS i b w c = i c := fun c c1 c2 => oo c (by omega) (by omega)
  refine ⟨⟨?_, ?_, h8, ?_, ?_, fun a ha => ?_⟩, ?_, ?_, ?_, ?_, hS, ?_, ?_, ?_, hF⟩
  · rw [oo 5 (by decide) (by decide)]; exact h5
  · rw [oo 91 (by decide) (by decide)]; exact h91
  · rw [oo 9 (by decide) (by decide), oo 93 (by decide) (by decide)]; exact e9
  · rw [oo 93 (by decide) (by decide)]; exact hle
  · rw [pS_6, pS_7, oo 94 (by decide) (by decide), oo 95 (by decide) (by decide), oo 8 (by decide) (by decide), oo 93 (by decide) (by decide), (hb a ha).1, (hb a ha).2]; exact hp a ha
  · rw [oo 1 (by decide) (by decide), oo 91 (by decide) (by decide), oo 2 (by decide) (by decide), oo 98 (by decide) (by decide)]; exact hX
  · rw [oo 3 (by decide) (by decide), oo 91 (by decide) (by decide)]; exact hW
  · rw [nGet_c (i := i) (c := 10) (oo 10 (by decide) (by decide)) (oo 11 (by decide) (by decide)) (oo 12 (by decide) (by decide)), oo 96 (by decide) (by decide)]; exact hN
  · rw [oo 16 (by decide) (by decide), oo 91 (by decide) (by decide), oo 104 (by decide) (by decide)]; exact IU_c hS hU nn
  · rw [oo 91 (by decide) (by decide), oo 19 (by decide) (by decide), oo 116 (by decide) (by decide), oo 117 (by decide) (by decide), oo 118 (by decide) (by decide)]; exact IK_c hK nn
  · rw [oo 74 (by decide) (by decide), oo 91 (by decide) (by decide), oo 75 (by decide) (by decide), oo 76 (by decide) (by decide), oo 113 (by decide) (by decide), oo 114 (by decide) (by decide)]; exact hH
  · refine IR_c hF ?_ (by rw [oo 85 (by decide) (by decide)]) (by rw [oo 88 (by decide) (by decide)]) (oo 86 (by decide) (by decide)) (oo 89 (by decide) (by decide))
    rw [oo 91 (by decide) (by decide), oo 100 (by decide) (by decide)]; exact hR
end TC
