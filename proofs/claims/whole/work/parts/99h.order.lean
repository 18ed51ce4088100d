/-! order: both tables say the same, by downward steps -/
section TC
variable {sc : Nat × (Nat → Int32)} {d y nx : Nat} {hd : List (Int × Nat)} {L st : List Value} {S : kS} {cu su : Nat} {i : Nat → Nat → Int32} {l : Nat → Nat → Int64} {f t c b m : Nat} {sp : Nat → Nat} {K : Option (Option Value) → kS → Prop}
variable {N : Nat} {A B G F Pn le co Y Y0 Y2 : Nat → Int32} {ln : Nat → Nat} {T T2 X : Nat → Nat → Nat} {n n2 k x a o g u w h qn s : Nat} {v r p q P : Int32} {y0 : Nat → Nat}
theorem eV_le : eV N ln co m u X y0 h ≤ N ∧ eV N ln co m u X y0 h ≤ y0 h ∧ ∀ a, a < m → a ≠ h → (∀ w, w < 8 → eV N ln co m u X y0 h ≤ eG N ln co u X a w) ∧ eV N ln co m u X y0 h ≤ 1 + eB N ln co m u X y0 a := by
  have b1 := nB_spec (N := N) (F := eF N ln co u X) (m := m) (h := h)
  have b2 := nB_spec (N := N) (F := eB N ln co m u X y0) (m := m) (h := h)
  have e1 : eB N ln co m u X y0 h = min (y0 h) (nB N (eF N ln co u X) m h) := rfl
  have e2 : eV N ln co m u X y0 h = min (eB N ln co m u X y0 h) (1 + nB N (eB N ln co m u X y0) m h) := rfl
  refine ⟨by omega, by omega, fun a ha hne => ⟨fun w hw => ?_, ?_⟩⟩
  · have := b1.2.1 a ha hne
    have := (eF_spec (N := N) (ln := ln) (co := co) (u := u) (X := X) (a := a)).2.1 w hw
    omega
  · have := b2.2.1 a ha hne; omega
theorem eV_tri (hne : a ≠ h) (ha : a < m) : eV N ln co m u X y0 h ≤ 1 + eV N ln co m u X y0 a := by
  have h1 := (eV_le (N := N) (ln := ln) (co := co) (m := m) (u := u) (X := X) (y0 := y0) (h := h))
  have h2 := (h1.2.2 a ha hne).2
  have b2 := nB_spec (N := N) (F := eB N ln co m u X y0) (m := m) (h := a)
  have e2 : eV N ln co m u X y0 a = min (eB N ln co m u X y0 a) (1 + nB N (eB N ln co m u X y0) m a) := rfl
  rcases b2.2.2 with e | ⟨b, hb, hnb, e⟩
  · omega
  · by_cases c : b = h
    · subst c
      have e3 : eV N ln co m u X y0 b = min (eB N ln co m u X y0 b) (1 + nB N (eB N ln co m u X y0) m b) := rfl
      omega
    · have := (h1.2.2 b hb c).2
      omega
theorem eV_eq : eV N ln co m u X y0 h = min (eB N ln co m u X y0 h) (1 + nB N (eB N ln co m u X y0) m h) := rfl
theorem eB_eq : eB N ln co m u X y0 h = min (y0 h) (nB N (eF N ln co u X) m h) := rfl
theorem kfo3 {α : Type} {g : α → α} {a : α} : kfo (fun _ y => g y) 3 a = g (g (g a)) := rfl
theorem r3_eq : r3 le co m P s Y = rH le co m P s (rH le co m P s (rH le co m P s Y)) := by
  unfold r3
  exact kfo3 (g := rH le co m P s)
theorem r3_ok (h8 : m ≤ 8) (hs : s < 256) (hq : Rq le co P s m (eG 1000000 ln co u X) Y) (hy : ∀ h, h < 9 → Y (s * 9 + h) = Int32.ofNat (y0 h) ∧ y0 h ≤ 1000000) : (∀ j, (j < s * 9 ∨ s * 9 + 9 ≤ j) → r3 le co m P s Y j = Y j) ∧ ∀ h, h < 9 → r3 le co m P s Y (s * 9 + h) = Int32.ofNat (eV 1000000 ln co m u X y0 h) := by
  have hV1 : ∀ h, h < 9 → ∀ a, a < m → a ≠ h → ∀ w, w < 8 → eV 1000000 ln co m u X y0 h ≤ eG 1000000 ln co u X a w := fun h _ a ha hne w hw => (eV_le.2.2 a ha hne).1 w hw
  have hV2 : ∀ h, h < 9 → ∀ a, a < m → a ≠ h → eV 1000000 ln co m u X y0 h ≤ 1 + eV 1000000 ln co m u X y0 a := fun h _ a ha hne => eV_tri hne ha
  have hV3 : ∀ h, h < 9 → eV 1000000 ln co m u X y0 h ≤ 1000000 := fun h _ => eV_le.1
  have R0 : Rx 1000000 s (eV 1000000 ln co m u X y0) Y y0 := ⟨fun h hh => (hy h hh).1, fun h _ => eV_le.2.1, fun h hh => (hy h hh).2⟩
  obtain ⟨k1, y1, R1, d1, g1⟩ := H_step h8 hs hq R0 hV1 hV2 hV3
  have q1 := Rq_keep h8 hs (show 0 < 9 by decide) hq k1
  obtain ⟨k2, y2, R2, d2, g2⟩ := H_step h8 hs q1 R1 hV1 hV2 hV3
  have q2 := Rq_keep h8 hs (show 0 < 9 by decide) q1 k2
  obtain ⟨k3, y3, R3, d3, g3⟩ := H_step h8 hs q2 R2 hV1 hV2 hV3
  rw [r3_eq]
  refine ⟨fun j hj => by rw [k3 j hj, k2 j hj, k1 j hj], fun h hh => ?_⟩
  rw [R3.1 h hh]
  have lo := R3.2.1 h hh
  have B1 : ∀ h, h < 9 → y1 h ≤ eB 1000000 ln co m u X y0 h := fun h hh => by
    have b1 := nB_spec (N := 1000000) (F := eF 1000000 ln co u X) (m := m) (h := h)
    have e1 : eB 1000000 ln co m u X y0 h = min (y0 h) (nB 1000000 (eF 1000000 ln co u X) m h) := eB_eq
    have t1 := d1 h hh
    have t2 := R1.2.2 h hh
    rcases b1.2.2 with e2 | ⟨a, ha, hne, e2⟩
    · omega
    · rcases (eF_spec (N := 1000000) (ln := ln) (co := co) (u := u) (X := X) (a := a)).2.2 with e3 | ⟨w, hw, e3⟩
      · omega
      · have := (g1 h hh a ha hne).1 w hw; omega
  have b2 := nB_spec (N := 1000000) (F := eB 1000000 ln co m u X y0) (m := m) (h := h)
  have e2 : eV 1000000 ln co m u X y0 h = min (eB 1000000 ln co m u X y0 h) (1 + nB 1000000 (eB 1000000 ln co m u X y0) m h) := eV_eq
  have t1 := B1 h hh
  have t2 := d2 h hh
  have t3 := d3 h hh
  have t4 := R2.2.2 h hh
  have fin : y2 h ≤ eV 1000000 ln co m u X y0 h := by
    rcases b2.2.2 with e3 | ⟨a, ha, hne, e3⟩
    · omega
    · have := (g2 h hh a ha hne).2
      have := B1 a (by omega)
      omega
  exact congrArg Int32.ofNat (by omega)
/-- finite in both, or in neither -/
def Rl (b x y : Nat) : Prop := (x ≤ b ∧ y = x) ∨ (x = 1000 ∧ y = 1000000)
theorem Rl_min {b x y x2 y2 : Nat} (hb : b < 1000) (h1 : Rl b x y) (h2 : (x2 ≤ b ∧ y2 = x2) ∨ (1000 ≤ x2 ∧ 1000000 ≤ y2)) : Rl b (min x x2) (min y y2) := by
  unfold Rl at *; omega
theorem Rl_up {b b2 x y : Nat} (h : b ≤ b2) (h1 : Rl b x y) : Rl b2 x y := by unfold Rl at *; omega
theorem Rl_nB {b : Nat} {F F2 : Nat → Nat} (hb : b < 1000) (e : ∀ a, a < m → Rl b (F a) (F2 a)) : Rl b (nB 1000 F m h) (nB 1000000 F2 m h) := by
  unfold nB
  refine kfo_rel (R := fun _ x y => Rl b x y) (fun a x y ha hR => ?_) (Or.inr ⟨rfl, rfl⟩)
  by_cases c : a = h
  · rw [if_pos c, if_pos c]; exact hR
  · rw [if_neg c, if_neg c]
    have := e a ha
    exact Rl_min hb hR (by unfold Rl at this; omega)
theorem eV_rel {b : Nat} {X1 X2 : Nat → Nat → Nat} (hb : b < 900) (hl : ∀ x, x < 8 → ln x ≤ 9) (hX : ∀ a, a < m → ∀ w, w < 8 → ¬ pBit (Int32.ofNat u &&& co a) w = 0 → (X1 a w + 9 ≤ b ∧ X2 a w = X1 a w) ∨ (X1 a w = 1000 ∧ X2 a w = 1000000)) : Rl (b + 1) (eV 1000 ln co m u X1 (e0 1000 qn u) h) (eV 1000000 ln co m u X2 (e0 1000000 qn u) h) := by
  have hF : ∀ a, a < m → Rl b (eF 1000 ln co u X1 a) (eF 1000000 ln co u X2 a) := fun a ha => by
    unfold eF
    refine kfo_rel (R := fun _ x y => Rl b x y) (fun w x y hw hR => ?_) (Or.inr ⟨rfl, rfl⟩)
    refine Rl_min (by omega) hR ?_
    unfold eG
    by_cases c : pBit (Int32.ofNat u &&& co a) w = 0
    · rw [if_pos c, if_pos c]; omega
    · rw [if_neg c, if_neg c]
      have := hX a ha w hw c
      have := hl w hw
      omega
  have hB : ∀ h, Rl b (eB 1000 ln co m u X1 (e0 1000 qn u) h) (eB 1000000 ln co m u X2 (e0 1000000 qn u) h) := fun h => by
    unfold eB
    have n1 := Rl_nB (h := h) (show b < 1000 by omega) hF
    refine Rl_min (by omega) ?_ (by unfold Rl at n1; omega)
    unfold e0
    by_cases c : u = 0
    · rw [if_pos c, if_pos c]
      by_cases c2 : h = qn
      · rw [if_pos c2, if_pos c2]; exact Or.inr ⟨rfl, rfl⟩
      · rw [if_neg c2, if_neg c2]; exact Or.inl ⟨Nat.zero_le _, rfl⟩
    · rw [if_neg c, if_neg c]; exact Or.inr ⟨rfl, rfl⟩
  have n2 := Rl_nB (h := h) (show b < 1000 by omega) (fun a _ => hB a) (m := m)
  unfold eV
  exact Rl_min (by omega) (Rl_up (by omega) (hB h)) (by unfold Rl at n2; omega)
def pcn (u : Nat) : Nat := kfo (fun w c => if u.testBit w = true then c + 1 else c) 8 0
theorem pcn_wo : ∀ u, u < 256 → ∀ w, w < 8 → u.testBit w = true → pcn (wo u w) + 1 = pcn u := by decide +kernel
theorem pcn_le : ∀ u, u < 256 → pcn u ≤ 8 := by decide +kernel
def rm (k s : Nat) : Nat := k &&& (255 ^^^ s)
theorem rm_le {k s : Nat} : rm k s ≤ k := Nat.and_le_left
theorem t255 {y : Nat} : (255 : Nat).testBit y = decide (y < 8) := by
  rw [show 255 = 2 ^ 8 - 1 from rfl, Nat.testBit_two_pow_sub_one]
theorem k_hi {k y : Nat} (hk : k < 256) (hy : ¬ y < 8) : k.testBit y = false := Nat.testBit_lt_two_pow (Nat.lt_of_lt_of_le hk (Nat.pow_le_pow_right (n := 2) (by decide) (show 8 ≤ y by omega)))
theorem rm_nat {k s : Nat} (hk : k < 256) (hs : s < 256) : Int32.ofNat k &&& (Int32.ofNat s ^^^ (-1)) = Int32.ofNat (rm k s) := by
  have := @rm_le k s
  apply tb_ext
  intro y hy
  rw [tb_and, tb_not hy, tb_nat (by omega), tb_nat (by omega), tb_nat (by omega)]
  unfold rm
  rw [Nat.testBit_and, Nat.testBit_xor, t255]
  by_cases c : y < 8
  · rw [decide_eq_true c, Bool.true_xor]
  · rw [k_hi hk c, Bool.false_and, Bool.false_and]
theorem rm_wo {k s w : Nat} (hk : k < 256) : rm k (s ||| 2 ^ w) = wo (rm k s) w := by
  apply Nat.eq_of_testBit_eq
  intro y
  unfold rm wo
  rw [Nat.testBit_and, Nat.testBit_and, Nat.testBit_and, Nat.testBit_xor, Nat.testBit_xor, Nat.testBit_xor, Nat.testBit_or, t255]
  by_cases c : y < 8
  · rw [decide_eq_true c]
    cases k.testBit y <;> cases s.testBit y <;> cases (2 ^ w).testBit y <;> rfl
  · rw [k_hi hk c, Bool.false_and, Bool.false_and, Bool.false_and]
theorem rm_sub {k s : Nat} (hk : k < 256) (hs : s < 256) : Int32.ofNat (rm k s) &&& (Int32.ofNat k ^^^ (-1)) = 0 := by
  rw [← rm_nat hk hs]
  apply tb_ext
  intro y hy
  rw [tb_and, tb_and, tb_not hy, tb_not hy, tb_0]
  cases tb (Int32.ofNat k) y <;> simp
theorem rm_0 {k : Nat} (hk : k < 256) : rm k 0 = k := by
  apply Nat.eq_of_testBit_eq
  intro y
  unfold rm
  rw [Nat.xor_zero, Nat.testBit_and, t255]
  by_cases c : y < 8
  · rw [decide_eq_true c, Bool.and_true]
  · rw [k_hi hk c, Bool.false_and]
/-- the reference's table beside the class's -/
theorem rYt_ok {Tc : Nat → Nat → Nat} (h8 : m ≤ 8) (hl : lnOk le ln) (hq : ∀ h, h < 9 → ((Int32.ofNat h = q) ↔ h = qn)) (hq0 : q < 0 → qn = 9) (hk : k < 256) (hT : ∀ u, u ≤ k → Int32.ofNat u &&& (Int32.ofNat k ^^^ (-1)) = 0 → ∀ h, h < 9 → Tc u h = nV 1000 ln co qn m Tc u h) (hn : n ≤ 256) : ∀ s, 256 - n ≤ s → s < 256 → ∀ h, h < 9 → ∃ c, rYt le co m (Int32.ofNat k) q n Y (s * 9 + h) = Int32.ofNat c ∧ Rl (10 * pcn (rm k s) + 1) (Tc (rm k s) h) c := by
  have R := kfo_inv (g := fun x Y => r3 le co m (Int32.ofNat k) (255 - x) (r0 (Int32.ofNat k) q (255 - x) Y)) (n := n) (a := Y) (I := fun x Y => ∀ s, 256 - x ≤ s → s < 256 → ∀ h, h < 9 → ∃ c, Y (s * 9 + h) = Int32.ofNat c ∧ Rl (10 * pcn (rm k s) + 1) (Tc (rm k s) h) c) (fun x Y hx hI => ?_) (fun s h1 h2 => by omega)
  · exact R
  · obtain ⟨s, hsx⟩ : ∃ s, s = 255 - x := ⟨_, rfl⟩
    have hs : s < 256 := by omega
    have hrk := @rm_le k s
    rw [← hsx]
    have z0 : ∀ j, r0 (Int32.ofNat k) q s Y j = if s * 9 ≤ j ∧ j < s * 9 + 9 then rI (Int32.ofNat k) q s (j - s * 9) else Y j := fun j => kfo_kufo (g := fun h => rI (Int32.ofNat k) q s h)
    have zk : ∀ j, (j < s * 9 ∨ s * 9 + 9 ≤ j) → r0 (Int32.ofNat k) q s Y j = Y j := fun j hj => by rw [z0, if_neg (by omega)]
    have zI : ∀ h, h < 9 → r0 (Int32.ofNat k) q s Y (s * 9 + h) = Int32.ofNat (e0 1000000 qn (rm k s) h) ∧ e0 1000000 qn (rm k s) h ≤ 1000000 := fun h hh => by
      constructor
      · rw [z0, if_pos (by omega), show s * 9 + h - s * 9 = h by omega]
        unfold rI e0
        rw [rm_nat hk hs]
        by_cases c : rm k s = 0
        · rw [if_pos c, c]
          by_cases c2 : h = qn
          · rw [if_pos c2, if_neg (fun z => ?_)]; rfl
            rcases z.2 with z2 | z2
            · have := hq0 z2; omega
            · exact z2 ((hq h hh).2 c2)
          · rw [if_neg c2, if_pos ⟨rfl, Or.inr (fun z => c2 ((hq h hh).1 z))⟩]; rfl
        · rw [if_neg c, if_neg (fun z => c ?_)]; rfl
          have := z.1
          rw [tn_z (by omega)] at this
          exact this
      · unfold e0; split
        · split <;> omega
        · omega
    have hmore : ∀ a, a < m → ∀ w, w < 8 → ¬ pBit (Int32.ofNat (rm k s) &&& co a) w = 0 → (rm k s).testBit w = true ∧ s < s ||| 2 ^ w ∧ s ||| 2 ^ w < 256 := fun a ha w hw hb => by
      have hb2 := bit_and (by omega) hw hb
      have hne : s ||| 2 ^ w ≠ s := or_ne (P := Int32.ofNat k) (v := co a) hs hw (by rw [rm_nat hk hs]; exact hb)
      have : s ≤ s ||| 2 ^ w := Nat.left_le_or
      exact ⟨hb2.1, by omega, or_256 hs hw⟩
    have hQ : Rq le co (Int32.ofNat k) s m (eG 1000000 ln co (rm k s) (fun a w => (Y ((s ||| 2 ^ w) * 9 + a)).toNatClampNeg)) (r0 (Int32.ofNat k) q s Y) := by
      intro a ha w hw
      unfold eG
      rw [rm_nat hk hs]
      by_cases c : pBit (Int32.ofNat (rm k s) &&& co a) w = 0
      · rw [if_pos c, if_pos c]; exact ⟨rfl, by decide⟩
      · have hm1 := hmore a ha w hw c
        obtain ⟨c', e1, e2⟩ := hI (s ||| 2 ^ w) (by omega) hm1.2.2 a (by omega)
        have hp := pcn_le (rm k (s ||| 2 ^ w)) (by have := @rm_le k (s ||| 2 ^ w); omega)
        have hc : c' ≤ 1000000 := by unfold Rl at e2; omega
        have h2 := hl w hw
        rw [if_neg c, if_neg c, zk _ (by omega)]
        dsimp only
        rw [e1, tn_cl (by omega), h2.1, ← Int32.ofNat_add]
        exact ⟨rfl, by omega⟩
    have W := r3_ok h8 hs hQ zI
    intro s2 h1 h2 h hh
    by_cases e : s2 = s
    · subst e
      refine ⟨_, W.2 h hh, ?_⟩
      rw [hT (rm k s2) hrk (rm_sub hk hs) h hh, nV_e]
      have hp8 := pcn_le (rm k s2) (by omega)
      refine eV_rel (by omega) (fun x hx => (hl x hx).2.2) (fun a ha w hw hb => ?_)
      have hm1 := hmore a ha w hw hb
      obtain ⟨c', e1, e2⟩ := hI (s2 ||| 2 ^ w) (by omega) hm1.2.2 a (by omega)
      rw [rm_wo hk] at e2
      have hp := pcn_wo (rm k s2) (by omega) w hw hm1.1
      have hc : c' ≤ 1000000 := by unfold Rl at e2; omega
      rw [e1, tn_cl (by omega)]
      unfold Rl at e2
      omega
    · obtain ⟨c', e1, e2⟩ := hI s2 (by omega) h2 h hh
      exact ⟨c', by rw [W.1 _ (by omega), zk _ (by omega)]; exact e1, e2⟩
end TC
