/-! council: the reference's men -/
section TC
variable {sc : Nat × (Nat → Int32)} {d y nx : Nat} {hd : List (Int × Nat)} {L st : List Value} {S : kS} {cu su : Nat} {i : Nat → Nat → Int32} {l : Nat → Nat → Int64} {f t c b m : Nat} {sp : Nat → Nat} {K : Option (Option Value) → kS → Prop}
variable {N M Z S1 Q A b w R : Nat → Int32} {n n2 k x a o g c L to : Nat} {v r p q : Int32} {T : Nat → Int32}
/-- what was read is what the automaton wrote -/
def rPair (m k : Nat) (R : Nat → Int32) (s : CS) : Prop := ∀ q, q < k → R (2 * q) = s.2.2.2.1 (m + q) ∧ R (2 * q + 1) = s.2.2.2.2 (m + q)
theorem cSt_add {z : Nat} (hz : x ≤ z) : cSt T m b w z = kfo (fun q s => cStep T (x + q) s) (z - x) (cSt T m b w x) := by
  have : ∀ k, cSt T m b w (x + k) = kfo (fun q s => cStep T (x + q) s) k (cSt T m b w x) := by
    intro k
    induction k with
    | zero => rfl
    | succ k ih =>
      show cStep T (x + k) (cSt T m b w (x + k)) = cStep T (x + k) (kfo (fun q s => cStep T (x + q) s) k (cSt T m b w x))
      rw [ih]
  rw [← this, show x + (z - x) = z by omega]
theorem dg_len {v : Int32} : (dgIn v 1 9 = true) ↔ isLen v := dgIn_iff
theorem vOk_0 : vOk 0 0 := ⟨by decide, 0, rfl, by decide, fun z => absurd z (by decide)⟩
/-- one man -/
theorem man_ok {F : Nat} (hF : 80 ≤ F) (h80 : to ≤ 80) (hx : x < to) (hk : m + k < 8) (hfl : (cSt T m b w x).2.1 = true) (hc : (cSt T m b w x).1 = m + k) (hd : dgIn (T x) 1 9 = true) (hp : rPair m k R (cSt T m b w x)) : ¬ cBad T x (cSt T m b w x) ∧ (lets T to F (x + 1) 0).1 ≤ to ∧ x + 1 ≤ (lets T to F (x + 1) 0).1 ∧ (∀ z, x ≤ z → z < (lets T to F (x + 1) 0).1 → ¬ cBad T z (cSt T m b w z)) ∧ (cSt T m b w (lets T to F (x + 1) 0).1).1 = m + k + 1 ∧ (cSt T m b w (lets T to F (x + 1) 0).1).2.1 = false ∧ rPair m (k + 1) (kuf (kuf R (2 * k) (T x - 48)) (2 * k + 1) (lets T to F (x + 1) 0).2) (cSt T m b w (lets T to F (x + 1) 0).1) ∧ ((lets T to F (x + 1) 0).1 < to → ¬ (isTh (T (lets T to F (x + 1) 0).1 - 97) ∧ ¬ T (lets T to F (x + 1) 0).1 - 97 < Int32.ofNat (cSt T m b w (lets T to F (x + 1) 0).1).2.2.1)) := by
  have hb : ¬ cBad T x (cSt T m b w x) := by
    unfold cBad
    rw [if_pos hfl, Classical.not_not, hc]
    exact ⟨hk, dg_len.1 hd⟩
  have es : cSt T m b w (x + 1) = (m + k + 1, false, 0, kuf (cSt T m b w x).2.2.2.1 (m + k) (T x - 48), kuf (cSt T m b w x).2.2.2.2 (m + k) 0) := by
    show cStep T x (cSt T m b w x) = _
    unfold cStep
    rw [if_pos hfl, hc]
  obtain ⟨x', v', g1, g2, g3, g4, g5, g6, g7, g8, g9, g10⟩ := lets_ok (T := T) (to := to) F (x + 1) 0 (cSt T m b w (x + 1)) (by omega) (by omega) (by rw [es]) (by rw [es]; exact vOk_0) (by rw [es]; exact kuf_s)
  rw [g1]
  dsimp only
  rw [← cSt_add g2] at g5 g6 g7 g8 g9
  refine ⟨hb, g3, g2, fun z z1 z2 => ?_, by rw [g5, es], g6, ?_, fun hz => ?_⟩
  · by_cases c : z = x
    · rw [c]; exact hb
    · rw [cSt_add (x := x + 1) (by omega)]
      exact g4 z (by omega) z2
  · intro q hq
    rw [g8, g9, es]
    dsimp only
    by_cases c : q = k
    · subst c
      rw [kuf_n (show 2 * q ≠ 2 * q + 1 by omega), kuf_s, kuf_s, kuf_s, show m + q + 1 - 1 = m + q by omega, kuf_s]
      exact ⟨rfl, rfl⟩
    · have := hp q (by omega)
      rw [kuf_n (show 2 * q ≠ 2 * k + 1 by omega), kuf_n (show 2 * q ≠ 2 * k by omega), kuf_n (show 2 * q + 1 ≠ 2 * k + 1 by omega), kuf_n (show 2 * q + 1 ≠ 2 * k by omega), kuf_n (show m + q ≠ m + k by omega), show m + k + 1 - 1 = m + k by omega, kuf_n (show m + q ≠ m + k by omega), kuf_n (show m + q ≠ m + k by omega)]
      exact this
  · have := g10 hz
    rw [← cSt_add g2] at this
    exact this
end TC
