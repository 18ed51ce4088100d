/-! council: the men come in -/
section TC
variable {sc : Nat × (Nat → Int32)} {d y nx : Nat} {hd : List (Int × Nat)} {L st : List Value} {S : kS} {cu su : Nat} {i : Nat → Nat → Int32} {l : Nat → Nat → Int64} {f t c b m : Nat} {sp : Nat → Nat} {K : Option (Option Value) → kS → Prop}
variable {N M Z S1 Q A b w R : Nat → Int32} {n n2 k x a o g c L to F D z : Nat} {v r p q : Int32} {T : Nat → Int32}
/-- breath, wants, now: the rows that grow -/
abbrev GS := (Nat → Int32) × (Nat → Int32) × (Nat → Int32)
def gSt (m : Nat) (R : Nat → Int32) (x : Nat) (s : GS) : GS := (kuf s.1 (m + x) (R (2 * x)), kuf s.2.1 (m + x) (R (2 * x + 1)), kuf (kuf (kuf s.2.2 (m + x) 0) (8 + (m + x)) 0) 16 (kuf (kuf s.2.2 (m + x) 0) (8 + (m + x)) 0 16 &&& ((1 <<< (Int32.ofNat (m + x) &&& 31)) ^^^ (-1))))
/-- the reference's cells with them -/
def gC (i : Nat → Nat → Int32) (s : GS) (mm : Nat) : Nat → Nat → Int32 := fun c z => if c = 94 then s.1 z else if c = 95 then s.2.1 z else if c = 96 then s.2.2 z else if c = 91 ∧ z = 3 then Int32.ofNat mm else i c z
theorem gC_94 {s : GS} : gC i s c 94 = s.1 := rfl
theorem gC_95 {s : GS} : gC i s c 95 = s.2.1 := rfl
theorem gC_96 {s : GS} : gC i s c 96 = s.2.2 := rfl
theorem gC_3 {s : GS} : gC i s c 91 3 = Int32.ofNat c := rfl
theorem gC_o {s : GS} {e : Nat} (h : e < 91 ∨ 96 < e) : gC i s c e = i e := by
  funext z; unfold gC
  rw [if_neg (by omega), if_neg (by omega), if_neg (by omega), if_neg (by omega)]
theorem gC_f {s : GS} {z : Nat} (h : z ≠ 3) : gC i s c 91 z = i 91 z := by
  unfold gC
  rw [if_neg (by decide), if_neg (by decide), if_neg (by decide), if_neg (by omega)]
theorem gU_94 {s : GS} {x : Nat} {v : Int32} : kupi (gC i s c) 94 x v = gC i (kuf s.1 x v, s.2) c := by
  funext e z; unfold kupi gC kuf
  by_cases h1 : e = 94
  · subst h1; by_cases h2 : z = x
    · simp [h2]
    · simp [h2]
  · simp [h1]
theorem gU_95 {s : GS} {x : Nat} {v : Int32} : kupi (gC i s c) 95 x v = gC i (s.1, kuf s.2.1 x v, s.2.2) c := by
  funext e z; unfold kupi gC kuf
  by_cases h1 : e = 95
  · subst h1; by_cases h2 : z = x
    · simp [h2]
    · simp [h2]
  · simp [h1]
theorem gU_96 {s : GS} {x : Nat} {v : Int32} : kupi (gC i s c) 96 x v = gC i (s.1, s.2.1, kuf s.2.2 x v) c := by
  funext e z; unfold kupi gC kuf
  by_cases h1 : e = 96
  · subst h1; by_cases h2 : z = x
    · simp [h2]
    · simp [h2]
  · simp [h1]
theorem gU_3 {s : GS} {c2 : Nat} : kupi (gC i s c) 91 3 (Int32.ofNat c2) = gC i s c2 := by
  funext e z; unfold kupi gC
  by_cases h1 : e = 91 ∧ z = 3
  · obtain ⟨rfl, rfl⟩ := h1; rfl
  · simp only [h1, if_false]
theorem gC_g (h : i 91 3 = Int32.ofNat m) : gC i (i 94, i 95, i 96) m = i := by
  funext e z; unfold gC
  by_cases h1 : e = 94
  · subst h1; rfl
  · by_cases h2 : e = 95
    · subst h2; rfl
    · by_cases h3 : e = 96
      · subst h3; rfl
      · by_cases h4 : e = 91 ∧ z = 3
        · obtain ⟨rfl, rfl⟩ := h4; exact h.symm
        · simp only [h1, h2, h3, h4, if_false]
end TC
