/-! what holds between the calls -/
section TC
variable {sc : Nat × (Nat → Int32)} {d y nx : Nat} {hd : List (Int × Nat)} {L st : List Value} {S : kS} {cu su : Nat} {i : Nat → Nat → Int32} {l : Nat → Nat → Int64} {f t c b m : Nat} {sp : Nat → Nat} {K : Option (Option Value) → kS → Prop}
variable {N M Z S1 Q : Nat → Int32} {i2 i3 : Nat → Nat → Int32} {l2 : Nat → Nat → Int64} {n k x : Nat} {v : Int32} {P : Nat → Nat → Bool}
def IP (m : Nat) (c5 c91 : Int32) (r6 r7 r8 r9 r93 r94 r95 : Nat → Int32) : Prop := c5 = Int32.ofNat m ∧ c91 = Int32.ofNat m ∧ m ≤ 8 ∧ r9 = r93 ∧ leOk r93 ∧ ∀ a, a < m → r6 a = r94 a ∧ r7 a = r95 a ∧ r8 a = pAble r93 (r94 a) (r95 a)
def IX (c1 c91 : Int32) (r2 r98 : Nat → Int32) : Prop := ∃ n, n ≤ 80 ∧ c1 = Int32.ofNat n ∧ c91 = Int32.ofNat n ∧ ∀ x, x < n → r2 x = r98 x ∧ ∃ c, c < 256 ∧ r2 x = Int32.ofNat c
def IW (c3 c91 : Int32) (l4 l92 : Nat → Int64) : Prop := ∃ n, n ≤ 128 ∧ c3 = Int32.ofNat n ∧ c91 = Int32.ofNat n ∧ ∀ x, x < n → l4 x = l92 x
def IU (m : Nat) (c16 c91 : Int32) (Ns : Nat → Nat → Int32) (r104 : Nat → Int32) : Prop := ∃ n, n ≤ 15 ∧ c16 = Int32.ofNat n ∧ c91 = Int32.ofNat n ∧ ∀ j, j < n → NR m (Ns j) (fun k => r104 (25 * j + k))
def IS (sp : Nat → Nat) : Prop := (∀ j, j < 15 → kNc (sp j) = true ∧ 20 ≤ sp j ∧ sp j < 65) ∧ ∀ j k, j < 15 → k < 15 → sp j = sp k → j = k
def IK (m : Nat) (c91 : Int32) (r19 r116 r117 r118 : Nat → Int32) (Ks : Nat → Nat → Int32) : Prop := ∃ ch, ch ≤ m ∧ c91 = Int32.ofNat ch ∧ ∀ j, j < 3 → (r116 j = 0 ∨ r116 j = 1) ∧ (∃ c, c ≤ ch ∧ r117 j = Int32.ofNat c) ∧ r19 j = (if r116 j = 1 ∧ r117 j = Int32.ofNat ch then 1 else 0) ∧ (r19 j = 1 → NR m (Ks j) (fun k => r118 (25 * j + k)))
def IH (c74 c91 : Int32) (r75 r76 r113 r114 : Nat → Int32) : Prop := ∃ n, n ≤ 12 ∧ c74 = Int32.ofNat n ∧ c91 = Int32.ofNat n ∧ ∀ x, x < n → r75 x = r113 x ∧ r76 x = r114 x
def IR (c c91 : Int32) (ra r100 : Nat → Int32) : Prop := ∃ n n2, c = Int32.ofNat n ∧ c91 = Int32.ofNat n2 ∧ RR ra n r100 n2
def IF (f t : Nat) : Prop := (f = 85 ∧ t = 88) ∨ (f = 88 ∧ t = 85)
def IV (m : Nat) (i : Nat → Nat → Int32) (l : Nat → Nat → Int64) (f t : Nat) (sp : Nat → Nat) : Prop :=
  IP m (i 5 0) (i 91 3) (i 6) (i 7) (i 8) (i 9) (i 93) (i 94) (i 95) ∧
  IX (i 1 1) (i 91 11) (i 2) (i 98) ∧
  IW (i 3 1) (i 91 1) (l 4) (l 92) ∧
  NR m (nGet i 10) (i 96) ∧
  IU m (i 16 1) (i 91 23) (fun j => nGet i (sp j)) (i 104) ∧
  IS sp ∧
  IK m (i 91 4) (i 19) (i 116) (i 117) (i 118) (fun j => nGet i (65 + 3 * j)) ∧
  IH (i 74 2) (i 91 39) (i 75) (i 76) (i 113) (i 114) ∧
  IR (i f 2) (i 91 19) (i (f + 1)) (i 100) ∧ IF f t
/-- all but some cells are as they were -/
def kAg (P : Nat → Nat → Bool) (i i2 : Nat → Nat → Int32) : Prop := ∀ c k, P c k = false → i2 c k = i c k
/-- what a question may change: the guess, tables, stacks, the number of the row -/
def kSc (c k : Nat) : Bool := (c == 3 && k == 1) || (13 ≤ c && c ≤ 15) || (77 ≤ c && c ≤ 84) || ((c == 85 || c == 88) && k != 2) || c == 87 || c == 90 || (c == 91 && !(k == 3 || k == 4 || k == 11 || k == 19 || k == 23 || k == 39)) || c == 97 || c == 99 || (101 ≤ c && c ≤ 103) || (105 ≤ c && c ≤ 112) || c == 115
theorem ag_r : kAg P i i := fun _ _ _ => rfl
theorem ag_t (h : kAg P i i2) (h2 : kAg P i2 i3) : kAg P i i3 := fun c k hp => (h2 c k hp).trans (h c k hp)
theorem ag_u {c k : Nat} (h : kAg P i i2) (hp : P c k = true) : kAg P i (kupi i2 c k v) := by
  intro a j hq
  unfold kupi
  by_cases e : a = c ∧ j = k
  · rw [e.1, e.2, hp] at hq; exact absurd hq (by decide)
  · rw [if_neg e]; exact h a j hq
theorem ag_a {A : Nat → Int32} {c w : Nat} (h : kAg P i i2) (hp : ∀ k, k < w → P c k = true) : kAg P i (aPut i2 c w A) := by
  intro a j hq
  unfold aPut
  by_cases e : a = c ∧ j < w
  · have := hp j e.2; rw [← e.1, hq] at this; exact absurd this (by decide)
  · rw [if_neg e]; exact h a j hq
theorem ag_n {c : Nat} (h : kAg P i i2) (h0 : ∀ k, k < 8 → P c k = true) (h1 : ∀ k, k < 8 → P (c + 1) k = true) (h2 : ∀ k, k < 8 → P (c + 2) k = true) : kAg P i (nPut i2 c N) := by
  intro a j hq
  unfold nPut
  by_cases e0 : a = c ∧ j < 8
  · have := h0 j e0.2; rw [← e0.1, hq] at this; exact absurd this (by decide)
  · rw [if_neg e0]
    by_cases e1 : a = c + 1 ∧ j < 8
    · have := h1 j e1.2; rw [← e1.1, hq] at this; exact absurd this (by decide)
    · rw [if_neg e1]
      by_cases e2 : a = c + 2 ∧ j < 8
      · have := h2 j e2.2; rw [← e2.1, hq] at this; exact absurd this (by decide)
      · rw [if_neg e2]; exact h a j hq
theorem ag_rl {s : Nat × (Nat → Int32)} (h : kAg P i i2) (h0 : P b 4 = true) (h2 : ∀ k, k < 40 → P (b + 2) k = true) : kAg P i (rPut i2 b s) := by
  intro a j hq
  unfold rPut
  by_cases e0 : a = b ∧ j = 4
  · rw [e0.1, e0.2, h0] at hq; exact absurd hq (by decide)
  · rw [if_neg e0]
    by_cases e1 : a = b + 2 ∧ j < 40
    · have := h2 j e1.2; rw [← e1.1, hq] at this; exact absurd this (by decide)
    · rw [if_neg e1]; exact h a j hq
theorem ag_m (h : kAg P i i2) (h0 : ∀ k, k < 25 → P b k = true) (h1 : ∀ k, 25 ≤ k → k < 29 → P 91 k = true) (h2 : ∀ k, k < 80 → P 102 k = true) (h3 : ∀ k, k < 7 → P 103 k = true) : kAg P i (mPut i2 b M Z S1 Q) := by
  intro a j hq
  unfold mPut
  by_cases e0 : a = b ∧ j < 25
  · have := h0 j e0.2; rw [← e0.1, hq] at this; exact absurd this (by decide)
  · rw [if_neg e0]
    by_cases e1 : a = 91 ∧ 25 ≤ j ∧ j < 29
    · have := h1 j e1.2.1 e1.2.2; rw [← e1.1, hq] at this; exact absurd this (by decide)
    · rw [if_neg e1]
      by_cases e2 : a = 102 ∧ j < 80
      · have := h2 j e2.2; rw [← e2.1, hq] at this; exact absurd this (by decide)
      · rw [if_neg e2]
        by_cases e3 : a = 103 ∧ j < 7
        · have := h3 j e3.2; rw [← e3.1, hq] at this; exact absurd this (by decide)
        · rw [if_neg e3]; exact h a j hq
theorem ag_guess (h : kAg kSc i i2) : kAg kSc i (nPut i2 13 N) := ag_n h (fun _ _ => rfl) (fun _ _ => rfl) (fun _ _ => rfl)
theorem ag_stack {s : Nat × (Nat → Int32)} (hf : kRc b = true) (h : kAg kSc i i2) : kAg kSc i (rPut i2 b s) := by
  rcases kRc_of hf with rfl | rfl
  · exact ag_rl h rfl (fun _ _ => rfl)
  · exact ag_rl h rfl (fun _ _ => rfl)
theorem sc_91 : ∀ k, 25 ≤ k → k < 29 → kSc 91 k = true := by
  intro k h1 h2
  have : k = 25 ∨ k = 26 ∨ k = 27 ∨ k = 28 := by omega
  rcases this with rfl | rfl | rfl | rfl <;> rfl
theorem ag_then (h : kAg kSc i i2) : kAg kSc i (mPut i2 97 M Z S1 Q) := ag_m h (fun _ _ => rfl) sc_91 (fun _ _ => rfl) (fun _ _ => rfl)
theorem ag_row {c : Nat} (h : kAg P i i2) (hp : ∀ k, P c k = false) : i2 c = i c := funext fun k => h c k (hp k)
theorem kAg_f (h : kAg kSc i i2) (hf : IF f t) : i2 f 2 = i f 2 ∧ i2 (f + 1) = i (f + 1) := by
  rcases hf with ⟨rfl, _⟩ | ⟨rfl, _⟩
  · exact ⟨h 85 2 rfl, ag_row h (fun _ => rfl)⟩
  · exact ⟨h 88 2 rfl, ag_row h (fun _ => rfl)⟩
theorem ag_night (h : kAg kSc i i2) (h1 : 16 ≤ c) (h2 : c < 75) : nGet i2 c = nGet i c := by
  have g : ∀ c, 16 ≤ c → c < 77 → ∀ k, kSc c k = false := by
    intro c h1 h2 k
    have e1 : (c == 3) = false := by simp; omega
    have e2 : decide (c ≤ 15) = false := decide_eq_false (by omega)
    have e3 : decide (77 ≤ c) = false := decide_eq_false (by omega)
    have e4 : (c == 85) = false := by simp; omega
    have e5 : (c == 88) = false := by simp; omega
    have e6 : (c == 87) = false := by simp; omega
    have e7 : (c == 90) = false := by simp; omega
    have e8 : (c == 91) = false := by simp; omega
    have e9 : (c == 97) = false := by simp; omega
    have e10 : (c == 99) = false := by simp; omega
    have e11 : decide (101 ≤ c) = false := decide_eq_false (by omega)
    have e12 : decide (105 ≤ c) = false := decide_eq_false (by omega)
    have e13 : (c == 115) = false := by simp; omega
    unfold kSc
    rw [e1, e2, e3, e4, e5, e6, e7, e8, e9, e10, e11, e12, e13]
    simp
  exact nGet_c (ag_row h (g c h1 (by omega))) (ag_row h (g (c + 1) (by omega) (by omega))) (ag_row h (g (c + 2) (by omega) (by omega)))
theorem ag_now (h : kAg kSc i i2) : nGet i2 10 = nGet i 10 := nGet_c (ag_row h (fun _ => rfl)) (ag_row h (fun _ => rfl)) (ag_row h (fun _ => rfl))
theorem kIV_q (h : IV m i l f t sp) (ag : kAg kSc i i2) (hW : IW (i2 3 1) (i2 91 1) (l2 4) (l2 92)) : IV m i2 l2 f t sp := by
  obtain ⟨hP, hX, _, hN, hU, hS, hK, hH, hR, hF⟩ := h
  have rr : ∀ c, (∀ k, kSc c k = false) → i2 c = i c := fun c hc => ag_row ag hc
  refine ⟨?_, ?_, hW, ?_, ?_, hS, ?_, ?_, ?_, hF⟩
  · rw [rr 5 (fun _ => rfl), ag 91 3 rfl, rr 6 (fun _ => rfl), rr 7 (fun _ => rfl), rr 8 (fun _ => rfl), rr 9 (fun _ => rfl), rr 93 (fun _ => rfl), rr 94 (fun _ => rfl), rr 95 (fun _ => rfl)]; exact hP
  · rw [rr 1 (fun _ => rfl), ag 91 11 rfl, rr 2 (fun _ => rfl), rr 98 (fun _ => rfl)]; exact hX
  · rw [ag_now ag, rr 96 (fun _ => rfl)]; exact hN
  · rw [rr 16 (fun _ => rfl), ag 91 23 rfl, rr 104 (fun _ => rfl)]
    obtain ⟨n, h1, h2, h3, h4⟩ := hU
    refine ⟨n, h1, h2, h3, fun j hj => ?_⟩
    have w := hS.1 j (by omega)
    show NR m (nGet i2 (sp j)) _
    rw [ag_night ag (by omega) (by omega)]; exact h4 j hj
  · rw [ag 91 4 rfl, rr 19 (fun _ => rfl), rr 116 (fun _ => rfl), rr 117 (fun _ => rfl), rr 118 (fun _ => rfl)]
    obtain ⟨ch, h1, h2, h3⟩ := hK
    refine ⟨ch, h1, h2, fun j hj => ?_⟩
    show _ ∧ _ ∧ _ ∧ (_ → NR m (nGet i2 (65 + 3 * j)) _)
    rw [ag_night ag (by omega) (by omega)]; exact h3 j hj
  · rw [rr 74 (fun _ => rfl), ag 91 39 rfl, rr 75 (fun _ => rfl), rr 76 (fun _ => rfl), rr 113 (fun _ => rfl), rr 114 (fun _ => rfl)]; exact hH
  · have w := kAg_f ag hF
    rw [w.1, w.2, ag 91 19 rfl, rr 100 (fun _ => rfl)]; exact hR
end TC
