/-! council: what stays -/
section TC
variable {sc : Nat × (Nat → Int32)} {d y nx : Nat} {hd : List (Int × Nat)} {L st : List Value} {S : kS} {cu su : Nat} {i : Nat → Nat → Int32} {l : Nat → Nat → Int64} {f t c b m : Nat} {sp : Nat → Nat} {K : Option (Option Value) → kS → Prop}
variable {N M Z S1 Q A b w R : Nat → Int32} {n n2 k x a o g c L to F D : Nat} {v r p q : Int32} {T : Nat → Int32}
/-- the men that were there stay -/
theorem cSt_keep (h8 : m ≤ 8) : ∀ x, (∀ z, z < x → ¬ cBad T z (cSt T m b w z)) → ∀ a, a < m → (cSt T m b w x).2.2.2.1 a = b a ∧ (cSt T m b w x).2.2.2.2 a = w a := by
  intro x
  induction x with
  | zero => intro _ a _; exact ⟨rfl, rfl⟩
  | succ x ih =>
    intro hb a ha
    have I := ih (fun z hz => hb z (by omega)) a ha
    have ok := cSt_ok (T := T) (b := b) (w := w) h8 x (fun z hz => hb z (by omega))
    show (cStep T x (cSt T m b w x)).2.2.2.1 a = b a ∧ (cStep T x (cSt T m b w x)).2.2.2.2 a = w a
    generalize cSt T m b w x = s at I ok
    obtain ⟨h1, h2, h3, h4⟩ := ok
    unfold cStep
    by_cases c1 : s.2.1 = true
    · rw [if_pos c1]
      dsimp only
      rw [kuf_n (by omega), kuf_n (by omega)]
      exact I
    · rw [if_neg c1]
      have h4' := h4 (by simpa using c1)
      by_cases c2 : T x = 59
      · rw [if_pos c2]; exact I
      · rw [if_neg c2]
        dsimp only
        rw [kuf_n (by omega)]
        exact I
end TC
