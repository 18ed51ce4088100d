/-! order: both tables say the same -/
section TC
variable {sc : Nat × (Nat → Int32)} {d y nx : Nat} {hd : List (Int × Nat)} {L st : List Value} {S : kS} {cu su : Nat} {i : Nat → Nat → Int32} {l : Nat → Nat → Int64} {f t c b m : Nat} {sp : Nat → Nat} {K : Option (Option Value) → kS → Prop}
variable {N : Nat} {A B G F Pn le co Y Y0 Y2 : Nat → Int32} {ln : Nat → Nat} {T T2 X : Nat → Nat → Nat} {n n2 k x a o g u w h qn s : Nat} {v r p q P : Int32}
def eG (N : Nat) (ln : Nat → Nat) (co : Nat → Int32) (u : Nat) (X : Nat → Nat → Nat) (a w : Nat) : Nat := if pBit (Int32.ofNat u &&& co a) w = 0 then N else ln w + X a w
def eF (N : Nat) (ln : Nat → Nat) (co : Nat → Int32) (u : Nat) (X : Nat → Nat → Nat) (a : Nat) : Nat := kfo (fun w b => min b (eG N ln co u X a w)) 8 N
def eB (N : Nat) (ln : Nat → Nat) (co : Nat → Int32) (m u : Nat) (X : Nat → Nat → Nat) (y0 : Nat → Nat) (h : Nat) : Nat := min (y0 h) (nB N (eF N ln co u X) m h)
def eV (N : Nat) (ln : Nat → Nat) (co : Nat → Int32) (m u : Nat) (X : Nat → Nat → Nat) (y0 : Nat → Nat) (h : Nat) : Nat := min (eB N ln co m u X y0 h) (1 + nB N (eB N ln co m u X y0) m h)
def e0 (N qn u h : Nat) : Nat := if u = 0 then (if h = qn then N else 0) else N
theorem pBit_z {x : Nat} (h : x < 32) {v : Int32} : pBit (Int32.ofNat 0 &&& v) x = 0 := by
  rw [pBit_0 h, tb_and, show Int32.ofNat 0 = 0 from rfl, tb_0, Bool.false_and]
theorem nV_e : nV N ln co qn m T u h = eV N ln co m u (fun a w => T (wo u w) a) (e0 N qn u) h := by
  have eb : ∀ h, nP N ln co qn m T u h = eB N ln co m u (fun a w => T (wo u w) a) (e0 N qn u) h := fun h => by
    have eF' : nF N ln co T u = eF N ln co u (fun a w => T (wo u w) a) := rfl
    have bb := (nB_spec (N := N) (F := nF N ln co T u) (m := m) (h := h)).1
    unfold nP eB e0
    rw [← eF']
    by_cases c : u = 0
    · rw [if_pos c, if_pos c]
      have : nB N (nF N ln co T u) m h = N := by
        rcases (nB_spec (N := N) (F := nF N ln co T u) (m := m) (h := h)).2.2 with e | ⟨a, _, _, e⟩
        · exact e
        · rw [e]
          unfold nF
          refine kfo_inv (I := fun _ b => b = N) (fun w b hw hb => ?_) rfl
          unfold nG
          rw [c, if_pos (pBit_z (by omega)), hb]; exact Nat.min_self N
      rw [this]
      split <;> omega
    · rw [if_neg c, if_neg c]; omega
  unfold nV eV
  rw [eb, nB_c (fun a _ => eb a)]
theorem eF_spec : eF N ln co u X a ≤ N ∧ (∀ w, w < 8 → eF N ln co u X a ≤ eG N ln co u X a w) ∧ (eF N ln co u X a = N ∨ ∃ w, w < 8 ∧ eF N ln co u X a = eG N ln co u X a w) := by
  unfold eF
  refine kfo_inv (I := fun x b => b ≤ N ∧ (∀ w, w < x → b ≤ eG N ln co u X a w) ∧ (b = N ∨ ∃ w, w < x ∧ b = eG N ln co u X a w)) (fun x b _ hb => ?_) ⟨Nat.le_refl N, fun w hw => absurd hw (Nat.not_lt_zero w), Or.inl rfl⟩
  obtain ⟨h1, h2, h3⟩ := hb
  refine ⟨by omega, fun w hw => ?_, ?_⟩
  · by_cases e : w = x
    · subst e; omega
    · have := h2 w (by omega); omega
  · by_cases e : eG N ln co u X a x ≤ b
    · exact Or.inr ⟨x, by omega, by omega⟩
    · rcases h3 with e2 | ⟨w, hw, e2⟩
      · exact Or.inl (by omega)
      · exact Or.inr ⟨w, by omega, by omega⟩
/-- the relaxing: what one step of the reference does to its row -/
def Rx (N : Nat) (s : Nat) (V : Nat → Nat) (Y : Nat → Int32) (y : Nat → Nat) : Prop := (∀ h, h < 9 → Y (s * 9 + h) = Int32.ofNat (y h)) ∧ (∀ h, h < 9 → V h ≤ y h) ∧ ∀ h, h < 9 → y h ≤ N
/-- the talks' minutes do not hang on the row -/
def Rq (le co : Nat → Int32) (P : Int32) (s m : Nat) (Q : Nat → Nat → Nat) (Y : Nat → Int32) : Prop := ∀ a, a < m → ∀ w, w < 8 → (if pBit ((P &&& (Int32.ofNat s ^^^ (-1))) &&& co a) w = 0 then (1000000 : Int32) else le w + Y ((s ||| 2 ^ w) * 9 + a)) = Int32.ofNat (Q a w) ∧ Q a w < 2000000
def Ro (s h : Nat) (Y Y2 : Nat → Int32) : Prop := ∀ j, j ≠ s * 9 + h → Y2 j = Y j
theorem or_ne {s w : Nat} {v : Int32} (hs : s < 256) (hw : w < 8) (h : ¬ pBit ((P &&& (Int32.ofNat s ^^^ (-1))) &&& v) w = 0) : s ||| 2 ^ w ≠ s := by
  rw [pBit_0 (show w < 32 by omega), tb_and, tb_and, tb_not (by omega), tb_nat (by omega)] at h
  intro e
  have : s.testBit w = true := by
    rw [← e, Nat.testBit_or, Nat.testBit_two_pow_self, Bool.or_true]
  rw [this] at h
  simp at h
theorem Rq_keep {Q : Nat → Nat → Nat} (h8 : m ≤ 8) (hs : s < 256) (hh : h < 9) (hq : Rq le co P s m Q Y) (hk : ∀ j, (j < s * 9 ∨ s * 9 + 9 ≤ j) → Y2 j = Y j) : Rq le co P s m Q Y2 := by
  intro a ha w hw
  have := hq a ha w hw
  by_cases c : pBit ((P &&& (Int32.ofNat s ^^^ (-1))) &&& co a) w = 0
  · rw [if_pos c] at this ⊢; exact this
  · rw [if_neg c] at this ⊢
    have hne := or_ne hs hw c
    rw [hk _ (by omega)]; exact this
theorem W_step {Q : Nat → Nat → Nat} {V y : Nat → Nat} (h8 : m ≤ 8) (hs : s < 256) (hq : Rq le co P s m Q Y) (hR : Rx 1000000 s V Y y) (hV1 : ∀ h, h < 9 → ∀ a, a < m → a ≠ h → ∀ w, w < 8 → V h ≤ Q a w) (hV2 : ∀ h, h < 9 → ∀ a, a < m → a ≠ h → V h ≤ 1 + V a) (hV3 : ∀ h, h < 9 → V h ≤ 1000000) (hh : h < 9) (ha : a < m) : Ro s h Y (rW le co P s h a Y) ∧ ∃ c, rW le co P s h a Y (s * 9 + h) = Int32.ofNat c ∧ V h ≤ c ∧ c ≤ y h ∧ (a ≠ h → (∀ w, w < 8 → c ≤ Q a w) ∧ c ≤ 1 + y a) := by
  have E := kfo_inv (g := fun w Y => kuf Y (s * 9 + h) (mn (Y (s * 9 + h)) (rG le co Y P s h a w))) (n := 9) (a := Y) (I := fun x Y' => Ro s h Y Y' ∧ ∃ c, Y' (s * 9 + h) = Int32.ofNat c ∧ V h ≤ c ∧ c ≤ y h ∧ (a ≠ h → ∀ w, w < x → (w < 8 → c ≤ Q a w) ∧ (w = 8 → c ≤ 1 + y a))) (fun x Y' hx hI => ?_) ⟨fun _ _ => rfl, y h, hR.1 h hh, hR.2.1 h hh, Nat.le_refl _, fun _ w hw => absurd hw (Nat.not_lt_zero w)⟩
  · obtain ⟨E1, c, e1, e2, e3, e4⟩ := E
    exact ⟨E1, c, e1, e2, e3, fun hne => ⟨fun w hw => (e4 hne w (by omega)).1 hw, (e4 hne 8 (by omega)).2 rfl⟩⟩
  · obtain ⟨I1, c, e1, e2, e3, e4⟩ := hI
    have hc9 := hR.2.2 h hh
    refine ⟨fun j hj => by rw [kuf_n hj]; exact I1 j hj, ?_⟩
    rw [kuf_s, e1]
    unfold rG
    by_cases c1 : a = h
    · rw [if_pos c1, show (1000000 : Int32) = Int32.ofNat 1000000 from rfl, mn_nat (by omega) (by omega)]
      exact ⟨_, rfl, by have := hV3 h hh; omega, by omega, fun z => absurd c1 z⟩
    · rw [if_neg c1]
      by_cases c2 : x = 8
      · have ea : Y' (s * 9 + a) = Int32.ofNat (y a) := by rw [I1 _ (by omega)]; exact hR.1 a (by omega)
        have h1 := hR.2.2 a (by omega)
        have h2 := hR.2.1 a (by omega)
        have h3 := hV2 h hh a ha c1
        rw [if_pos c2, ea, Int32.add_comm, tn_s, mn_nat (by omega) (by omega)]
        refine ⟨_, rfl, by omega, by omega, fun z w hw => ?_⟩
        by_cases c3 : w = x
        · exact ⟨fun _ => by omega, fun _ => by omega⟩
        · have := e4 z w (by omega)
          exact ⟨fun q => by have := this.1 q; omega, fun q => by omega⟩
      · have hw8 : x < 8 := by omega
        have hQ := hq a ha x hw8
        have hT : (if pBit ((P &&& (Int32.ofNat s ^^^ (-1))) &&& co a) x = 0 then (1000000 : Int32) else le x + Y' ((s ||| 2 ^ x) * 9 + a)) = Int32.ofNat (Q a x) := by
          rw [← hQ.1]
          by_cases c : pBit ((P &&& (Int32.ofNat s ^^^ (-1))) &&& co a) x = 0
          · rw [if_pos c, if_pos c]
          · rw [if_neg c, if_neg c, I1 _ (by have := or_ne hs hw8 c; omega)]
        have h3 := hV1 h hh a ha c1 x hw8
        rw [if_neg c2, hT, mn_nat (by omega) (by omega)]
        refine ⟨_, rfl, by omega, by omega, fun z w hw => ?_⟩
        by_cases c3 : w = x
        · subst c3
          exact ⟨fun _ => by omega, fun _ => by omega⟩
        · have := e4 z w (by omega)
          exact ⟨fun q => by have := this.1 q; omega, fun q => by omega⟩
theorem A_step {Q : Nat → Nat → Nat} {V y : Nat → Nat} (h8 : m ≤ 8) (hs : s < 256) (hq : Rq le co P s m Q Y) (hR : Rx 1000000 s V Y y) (hV1 : ∀ h, h < 9 → ∀ a, a < m → a ≠ h → ∀ w, w < 8 → V h ≤ Q a w) (hV2 : ∀ h, h < 9 → ∀ a, a < m → a ≠ h → V h ≤ 1 + V a) (hV3 : ∀ h, h < 9 → V h ≤ 1000000) (hh : h < 9) : Ro s h Y (rA le co m P s h Y) ∧ ∃ c, rA le co m P s h Y (s * 9 + h) = Int32.ofNat c ∧ V h ≤ c ∧ c ≤ y h ∧ ∀ a, a < m → a ≠ h → (∀ w, w < 8 → c ≤ Q a w) ∧ c ≤ 1 + y a := by
  have E := kfo_inv (g := fun a Y => rW le co P s h a Y) (n := m) (a := Y) (I := fun x Y' => Ro s h Y Y' ∧ ∃ c, Y' (s * 9 + h) = Int32.ofNat c ∧ V h ≤ c ∧ c ≤ y h ∧ ∀ a, a < x → a ≠ h → (∀ w, w < 8 → c ≤ Q a w) ∧ c ≤ 1 + y a) (fun x Y' hx hI => ?_) ⟨fun _ _ => rfl, y h, hR.1 h hh, hR.2.1 h hh, Nat.le_refl _, fun a ha => absurd ha (Nat.not_lt_zero a)⟩
  · exact E
  · obtain ⟨I1, c, e1, e2, e3, e4⟩ := hI
    have hc := hR.2.2 h hh
    have hR' : Rx 1000000 s V Y' (fun z => if z = h then c else y z) := by
      refine ⟨fun z hz => ?_, fun z hz => ?_, fun z hz => ?_⟩
      · dsimp only
        by_cases e : z = h
        · rw [if_pos e, e]; exact e1
        · rw [if_neg e, I1 _ (by omega)]; exact hR.1 z hz
      · dsimp only
        by_cases e : z = h
        · rw [if_pos e, e]; exact e2
        · rw [if_neg e]; exact hR.2.1 z hz
      · dsimp only
        by_cases e : z = h
        · rw [if_pos e]; omega
        · rw [if_neg e]; exact hR.2.2 z hz
    obtain ⟨W1, c', f1, f2, f3, f4⟩ := W_step h8 hs (Rq_keep h8 hs hh hq (fun j hj => I1 j (by omega))) hR' hV1 hV2 hV3 hh hx
    rw [if_pos rfl] at f3
    refine ⟨fun j hj => by rw [W1 j hj]; exact I1 j hj, c', f1, f2, by omega, fun a ha hne => ?_⟩
    by_cases e : a = x
    · subst e
      have := f4 hne
      rw [if_neg hne] at this
      exact this
    · have := e4 a (by omega) hne
      exact ⟨fun w hw => by have := this.1 w hw; omega, by omega⟩
theorem H_step {Q : Nat → Nat → Nat} {V y : Nat → Nat} (h8 : m ≤ 8) (hs : s < 256) (hq : Rq le co P s m Q Y) (hR : Rx 1000000 s V Y y) (hV1 : ∀ h, h < 9 → ∀ a, a < m → a ≠ h → ∀ w, w < 8 → V h ≤ Q a w) (hV2 : ∀ h, h < 9 → ∀ a, a < m → a ≠ h → V h ≤ 1 + V a) (hV3 : ∀ h, h < 9 → V h ≤ 1000000) : (∀ j, (j < s * 9 ∨ s * 9 + 9 ≤ j) → rH le co m P s Y j = Y j) ∧ ∃ y', Rx 1000000 s V (rH le co m P s Y) y' ∧ (∀ z, z < 9 → y' z ≤ y z) ∧ ∀ z, z < 9 → ∀ a, a < m → a ≠ z → (∀ w, w < 8 → y' z ≤ Q a w) ∧ y' z ≤ 1 + y a := by
  have E := kfo_inv (g := fun h Y => rA le co m P s h Y) (n := 9) (a := Y) (I := fun x Y' => (∀ j, (j < s * 9 ∨ s * 9 + 9 ≤ j) → Y' j = Y j) ∧ ∃ y', Rx 1000000 s V Y' y' ∧ (∀ z, z < 9 → y' z ≤ y z) ∧ ∀ z, z < x → ∀ a, a < m → a ≠ z → (∀ w, w < 8 → y' z ≤ Q a w) ∧ y' z ≤ 1 + y a) (fun x Y' hx hI => ?_) ⟨fun _ _ => rfl, y, hR, fun _ _ => Nat.le_refl _, fun z hz => absurd hz (Nat.not_lt_zero z)⟩
  · exact E
  · obtain ⟨I1, y', R', d1, d2⟩ := hI
    obtain ⟨W1, c, f1, f2, f3, f4⟩ := A_step h8 hs (Rq_keep h8 hs hx hq I1) R' hV1 hV2 hV3 hx
    refine ⟨fun j hj => by rw [W1 j (by omega)]; exact I1 j hj, fun z => if z = x then c else y' z, ⟨fun z hz => ?_, fun z hz => ?_, fun z hz => ?_⟩, fun z hz => ?_, fun z hz a ha hne => ?_⟩
    · dsimp only
      by_cases e : z = x
      · rw [if_pos e, e]; exact f1
      · rw [if_neg e, W1 _ (by omega)]; exact R'.1 z hz
    · dsimp only
      by_cases e : z = x
      · rw [if_pos e, e]; exact f2
      · rw [if_neg e]; exact R'.2.1 z hz
    · have := R'.2.2 x hx
      dsimp only
      by_cases e : z = x
      · rw [if_pos e]; omega
      · rw [if_neg e]; exact R'.2.2 z hz
    · by_cases e : z = x
      · dsimp only; rw [if_pos e, e]; have := d1 x hx; omega
      · dsimp only; rw [if_neg e]; exact d1 z hz
    · by_cases e : z = x
      · subst e
        dsimp only
        rw [if_pos rfl]
        have := f4 a ha hne
        have := d1 a (by omega)
        exact ⟨(f4 a ha hne).1, by omega⟩
      · dsimp only
        rw [if_neg e]
        exact d2 z (by omega) a ha hne
end TC
