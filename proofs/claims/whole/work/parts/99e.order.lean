/-! order: what the class's table says -/
section TC
variable {sc : Nat × (Nat → Int32)} {d y nx : Nat} {hd : List (Int × Nat)} {L st : List Value} {S : kS} {cu su : Nat} {i : Nat → Nat → Int32} {l : Nat → Nat → Int64} {f t c b m : Nat} {sp : Nat → Nat} {K : Option (Option Value) → kS → Prop}
variable {N : Nat} {A B G F Pn le co : Nat → Int32} {ln : Nat → Nat} {T T2 : Nat → Nat → Nat} {n n2 k x a o g u w h qn : Nat} {v r p q : Int32}
def nG (N : Nat) (ln : Nat → Nat) (co : Nat → Int32) (T : Nat → Nat → Nat) (u a w : Nat) : Nat := if pBit (Int32.ofNat u &&& co a) w = 0 then N else ln w + T (wo u w) a
def nF (N : Nat) (ln : Nat → Nat) (co : Nat → Int32) (T : Nat → Nat → Nat) (u a : Nat) : Nat := kfo (fun w b => min b (nG N ln co T u a w)) 8 N
def nB (N : Nat) (F : Nat → Nat) (m h : Nat) : Nat := kfo (fun a b => if a = h then b else min b (F a)) m N
def nP (N : Nat) (ln : Nat → Nat) (co : Nat → Int32) (qn m : Nat) (T : Nat → Nat → Nat) (u h : Nat) : Nat := if u = 0 then (if h = qn then N else 0) else nB N (nF N ln co T u) m h
def nV (N : Nat) (ln : Nat → Nat) (co : Nat → Int32) (qn m : Nat) (T : Nat → Nat → Nat) (u h : Nat) : Nat := min (nP N ln co qn m T u h) (1 + nB N (nP N ln co qn m T u) m h)
theorem nF_le : nF N ln co T u a ≤ N := by
  unfold nF
  exact kfo_inv (I := fun _ b => b ≤ N) (fun x b _ hb => by omega) (Nat.le_refl N)
theorem nB_spec {F : Nat → Nat} : nB N F m h ≤ N ∧ (∀ a, a < m → a ≠ h → nB N F m h ≤ F a) ∧ (nB N F m h = N ∨ ∃ a, a < m ∧ a ≠ h ∧ nB N F m h = F a) := by
  unfold nB
  refine kfo_inv (I := fun x b => b ≤ N ∧ (∀ a, a < x → a ≠ h → b ≤ F a) ∧ (b = N ∨ ∃ a, a < x ∧ a ≠ h ∧ b = F a)) (fun x b _ hb => ?_) ⟨Nat.le_refl N, fun a ha => absurd ha (Nat.not_lt_zero a), Or.inl rfl⟩
  obtain ⟨h1, h2, h3⟩ := hb
  by_cases c : x = h
  · rw [if_pos c]
    refine ⟨h1, fun a ha hn => h2 a (by omega) hn, ?_⟩
    rcases h3 with e | ⟨a, ha, e⟩
    · exact Or.inl e
    · exact Or.inr ⟨a, by omega, e⟩
  · rw [if_neg c]
    refine ⟨by omega, fun a ha hn => ?_, ?_⟩
    · by_cases e : a = x
      · subst e; omega
      · have := h2 a (by omega) hn; omega
    · by_cases e : F x ≤ b
      · exact Or.inr ⟨x, by omega, c, by omega⟩
      · rcases h3 with e2 | ⟨a, ha, hn, e2⟩
        · exact Or.inl (by omega)
        · exact Or.inr ⟨a, by omega, hn, by omega⟩
theorem nP_le : nP N ln co qn m T u h ≤ N := by
  unfold nP; split
  · split <;> omega
  · exact nB_spec.1
theorem nV_le : nV N ln co qn m T u h ≤ N := by
  have := nP_le (N := N) (ln := ln) (co := co) (m := m) (T := T) (u := u) (h := h) (qn := qn)
  unfold nV; omega
theorem nF_c (e : ∀ w, w < 8 → ¬ pBit (Int32.ofNat u &&& co a) w = 0 → T (wo u w) a = T2 (wo u w) a) : nF N ln co T u a = nF N ln co T2 u a := by
  unfold nF
  refine kfo_congr (fun w hw b => ?_)
  unfold nG
  by_cases c : pBit (Int32.ofNat u &&& co a) w = 0
  · rw [if_pos c, if_pos c]
  · rw [if_neg c, if_neg c, e w hw c]
theorem nB_c {F F2 : Nat → Nat} (e : ∀ a, a < m → F a = F2 a) : nB N F m h = nB N F2 m h := kfo_congr (fun a ha b => by rw [e a ha])
theorem oP_c (e : ∀ a, a < m → ∀ w, w < 8 → ¬ pBit (Int32.ofNat u &&& co a) w = 0 → T (wo u w) a = T2 (wo u w) a) : nP N ln co qn m T u h = nP N ln co qn m T2 u h := by
  unfold nP
  rw [nB_c (F := nF N ln co T u) (F2 := nF N ln co T2 u) (fun a ha => nF_c (e a ha))]
theorem oV_c (e : ∀ a, a < m → ∀ w, w < 8 → ¬ pBit (Int32.ofNat u &&& co a) w = 0 → T (wo u w) a = T2 (wo u w) a) : nV N ln co qn m T u h = nV N ln co qn m T2 u h := by
  unfold nV
  rw [oP_c e, nB_c (F := nP N ln co qn m T u) (F2 := nP N ln co qn m T2 u) (fun a _ => oP_c e)]
theorem mn_nat {a b : Nat} (ha : a < 2147483648) (hb : b < 2147483648) : mn (Int32.ofNat a) (Int32.ofNat b) = Int32.ofNat (min a b) := by
  unfold mn
  by_cases c : b < a
  · rw [if_pos (by rw [tn_lt hb ha]; exact c), Nat.min_eq_right (by omega)]
  · rw [if_neg (by rw [tn_lt hb ha]; exact c), Nat.min_eq_left (by omega)]
def lnOk (le : Nat → Int32) (ln : Nat → Nat) : Prop := ∀ x, x < 8 → le x = Int32.ofNat (ln x) ∧ 1 ≤ ln x ∧ ln x ≤ 9
theorem cF_nat (hl : lnOk le ln) (hT : ∀ w, w < 8 → ¬ pBit (Int32.ofNat u &&& co a) w = 0 → A (wo u w * 9 + a) = Int32.ofNat (T (wo u w) a) ∧ T (wo u w) a ≤ 1000) : cF le co A u a = Int32.ofNat (nF 1000 ln co T u a) := by
  unfold cF nF
  have R := kfo_rel (g := fun w b => mn b (cG le co A u a w)) (g2 := fun w b => min b (nG 1000 ln co T u a w)) (n := 8) (a := (1000 : Int32)) (b := 1000) (R := fun _ b c => b = Int32.ofNat c ∧ c ≤ 1000) (fun w b c hw hR => ?_) ⟨rfl, Nat.le_refl _⟩
  · exact R.1
  · obtain ⟨e, hc⟩ := hR
    rw [e]
    unfold cG nG
    by_cases c1 : pBit (Int32.ofNat u &&& co a) w = 0
    · rw [if_pos c1, if_pos c1, show (1000 : Int32) = Int32.ofNat 1000 from rfl, mn_nat (by omega) (by omega)]
      exact ⟨rfl, by omega⟩
    · have h1 := hT w hw c1
      have h2 := hl w hw
      rw [if_neg c1, if_neg c1, h1.1, h2.1, ← Int32.ofNat_add, mn_nat (by omega) (by omega)]
      exact ⟨rfl, by omega⟩
theorem pSo_spec {Fn : Nat → Nat} {ex : Int32} (h8 : m ≤ 8) (hF : ∀ a, a < m → F a = Int32.ofNat (Fn a) ∧ Fn a ≤ 1000) : (pSo F m ex = -1 ∧ ∀ a, a < m → Int32.ofNat a = ex) ∨ ∃ b, b < m ∧ pSo F m ex = Int32.ofNat b ∧ ¬ Int32.ofNat b = ex ∧ ∀ a, a < m → ¬ Int32.ofNat a = ex → Fn b ≤ Fn a := by
  have R := kfo_inv (g := fun a r => if Int32.ofNat a = ex then r else if r = -1 then Int32.ofNat a else if F r.toNatClampNeg ≤ F a then r else Int32.ofNat a) (n := m) (a := (-1 : Int32)) (I := fun x r => x ≤ m → (r = -1 ∧ ∀ a, a < x → Int32.ofNat a = ex) ∨ ∃ b, b < x ∧ r = Int32.ofNat b ∧ ¬ Int32.ofNat b = ex ∧ ∀ a, a < x → ¬ Int32.ofNat a = ex → Fn b ≤ Fn a) (fun x r hx hr hxm => ?_) (fun _ => Or.inl ⟨rfl, fun a ha => absurd ha (Nat.not_lt_zero a)⟩)
  · exact R (Nat.le_refl m)
  · have hr := hr (by omega)
    by_cases c1 : Int32.ofNat x = ex
    · rw [if_pos c1]
      rcases hr with ⟨e, h⟩ | ⟨b, hb, e, hn, h⟩
      · refine Or.inl ⟨e, fun a ha => ?_⟩
        by_cases z : a = x
        · rw [z]; exact c1
        · exact h a (by omega)
      · refine Or.inr ⟨b, by omega, e, hn, fun a ha hna => ?_⟩
        by_cases z : a = x
        · subst z; exact absurd c1 hna
        · exact h a (by omega) hna
    · rw [if_neg c1]
      rcases hr with ⟨e, h⟩ | ⟨b, hb, e, hn, h⟩
      · rw [if_pos e]
        refine Or.inr ⟨x, by omega, rfl, c1, fun a ha hna => ?_⟩
        by_cases z : a = x
        · rw [z]; exact Nat.le_refl _
        · exact absurd (h a (by omega)) hna
      · have hb' : ¬ r = -1 := by rw [e]; exact m1_ne (by omega)
        rw [if_neg hb', e, cl_n (by omega), (hF b (by omega)).1, (hF x (by omega)).1]
        have b1 := (hF b (by omega)).2
        have b2 := (hF x (by omega)).2
        by_cases c2 : Fn b ≤ Fn x
        · rw [if_pos (by rw [tn_le (by omega) (by omega)]; exact c2)]
          refine Or.inr ⟨b, by omega, rfl, hn, fun a ha hna => ?_⟩
          by_cases z : a = x
          · rw [z]; exact c2
          · exact h a (by omega) hna
        · rw [if_neg (by rw [tn_le (by omega) (by omega)]; exact c2)]
          refine Or.inr ⟨x, by omega, rfl, c1, fun a ha hna => ?_⟩
          by_cases z : a = x
          · rw [z]; exact Nat.le_refl _
          · have := h a (by omega) hna; omega
theorem pBe_nat {Fn : Nat → Nat} (h8 : m ≤ 8) (hh : h < 9) (hF : ∀ a, a < m → F a = Int32.ofNat (Fn a) ∧ Fn a ≤ 1000) : pBe F m (pSo F m (-1)) h = Int32.ofNat (nB 1000 Fn m h) := by
  have B := nB_spec (N := 1000) (F := Fn) (m := m) (h := h)
  have S1 := pSo_spec (ex := -1) h8 hF
  have S2 := pSo_spec (ex := Int32.ofNat h) h8 hF
  unfold pBe
  by_cases c : Int32.ofNat h = pSo F m (-1)
  · simp only [eq_true c, if_true]
    rcases S2 with ⟨e, hn⟩ | ⟨b, hb, e, hn, hmin⟩
    · rw [e, if_pos rfl]
      rcases B.2.2 with e2 | ⟨a, ha, hna, _⟩
      · rw [e2]; rfl
      · have := hn a ha
        rw [tn_eq (by omega) (by omega)] at this
        exact absurd this hna
    · rw [e]
      simp only [m1_ne (show b < 100000 by omega), if_false]
      rw [cl_n (by omega), (hF b hb).1]
      rw [tn_eq (by omega) (by omega)] at hn
      have l1 := B.2.1 b hb hn
      have l2 := (hF b hb).2
      congr 1
      rcases B.2.2 with e2 | ⟨a, ha, hna, e2⟩
      · omega
      · have := hmin a ha (by rw [tn_eq (by omega) (by omega)]; exact hna)
        omega
  · simp only [eq_false c, if_false]
    rcases S1 with ⟨e, hn⟩ | ⟨b, hb, e, hn, hmin⟩
    · rw [e, if_pos rfl]
      rcases B.2.2 with e2 | ⟨a, ha, hna, _⟩
      · rw [e2]; rfl
      · have := hn a ha
        exact absurd this (m1_ne (by omega))
    · rw [e]
      simp only [m1_ne (show b < 100000 by omega), if_false]
      rw [cl_n (by omega), (hF b hb).1]
      have hbh : b ≠ h := fun z => c (by rw [e, z])
      have l1 := B.2.1 b hb hbh
      have l2 := (hF b hb).2
      congr 1
      rcases B.2.2 with e2 | ⟨a, ha, hna, e2⟩
      · omega
      · have := hmin a ha (m1_ne (by omega))
        omega
theorem kfo_kufo {g : Nat → Int32} {o n : Nat} {A : Nat → Int32} {j : Nat} : kfo (fun x A => kuf A (o + x) (g x)) n A j = if o ≤ j ∧ j < o + n then g (j - o) else A j := by
  induction n with
  | zero => rw [if_neg (by omega)]; rfl
  | succ n ih =>
    show kuf (kfo (fun x A => kuf A (o + x) (g x)) n A) (o + n) (g n) j = _
    by_cases e : j = o + n
    · rw [e, kuf_s, if_pos (by omega), show o + n - o = n by omega]
    · rw [kuf_n e, ih]
      by_cases c : o ≤ j ∧ j < o + n
      · rw [if_pos c, if_pos (by omega)]
      · rw [if_neg c, if_neg (by omega)]
def tN (A : Nat → Int32) (u h : Nat) : Nat := (A (u * 9 + h)).toNatClampNeg
/-- one set -/
theorem fU_nat {s : OT} {K : Int32} (h8 : m ≤ 8) (hl : lnOk le ln) (hq : ∀ h, h < 9 → ((Int32.ofNat h = q) ↔ h = qn)) (hu : u < 256) (hT : ∀ a, a < m → ∀ w, w < 8 → ¬ pBit (Int32.ofNat u &&& co a) w = 0 → s.1 (wo u w * 9 + a) = Int32.ofNat (T (wo u w) a) ∧ T (wo u w) a ≤ 1000) (hs : Int32.ofNat u &&& (K ^^^ (-1)) = 0) : (∀ h, h < 9 → (fU le co m K q u s).1 (u * 9 + h) = Int32.ofNat (nV 1000 ln co qn m T u h)) ∧ ∀ j, (j < u * 9 ∨ u * 9 + 9 ≤ j) → (fU le co m K q u s).1 j = s.1 j := by
  unfold fU
  rw [if_pos hs]
  dsimp only
  have hF : ∀ a, a < m → fF le co s.1 m u s.2.1 a = Int32.ofNat (nF 1000 ln co T u a) ∧ nF 1000 ln co T u a ≤ 1000 := fun a ha => by
    unfold fF
    rw [kfo_kuf, if_pos ha]
    exact ⟨cF_nat hl (hT a ha), nF_le⟩
  generalize fF le co s.1 m u s.2.1 = Fr at hF
  have hP : ∀ h, h < 9 → fP Fr m q u s.2.2 h = Int32.ofNat (nP 1000 ln co qn m T u h) := fun h hh => by
    unfold fP
    rw [kfo_kuf, if_pos hh]
    unfold cPl nP
    by_cases c : u = 0
    · rw [if_pos c, if_pos c]
      by_cases c2 : h = qn
      · rw [if_pos c2, if_pos ((hq h hh).2 c2)]; rfl
      · rw [if_neg c2, if_neg (fun z => c2 ((hq h hh).1 z))]; rfl
    · rw [if_neg c, if_neg c]
      exact pBe_nat h8 hh hF
  generalize fP Fr m q u s.2.2 = Pr at hP
  have hA : ∀ j, fA Pr m u s.1 j = if u * 9 ≤ j ∧ j < u * 9 + 9 then mn (Pr (j - u * 9)) (1 + pBe Pr m (pSo Pr m (-1)) (j - u * 9)) else s.1 j := fun j => by
    unfold fA
    exact kfo_kufo (g := fun h => mn (Pr h) (1 + pBe Pr m (pSo Pr m (-1)) h))
  refine ⟨fun h hh => ?_, fun j hj => ?_⟩
  · rw [hA, if_pos (by omega), show u * 9 + h - u * 9 = h by omega, hP h hh, pBe_nat (Fn := nP 1000 ln co qn m T u) h8 hh (fun a ha => ⟨hP a (by omega), nP_le⟩)]
    have b1 := nP_le (N := 1000) (ln := ln) (co := co) (m := m) (T := T) (u := u) (h := h) (qn := qn)
    have b2 := (nB_spec (N := 1000) (F := nP 1000 ln co qn m T u) (m := m) (h := h)).1
    rw [Int32.add_comm, tn_s, mn_nat (by omega) (by omega)]
    unfold nV
    rw [Nat.add_comm 1]
  · rw [hA, if_neg (by omega)]
theorem sub_wo {K : Int32} (hu : u < 256) (hw : w < 8) (hs : Int32.ofNat u &&& (K ^^^ (-1)) = 0) : Int32.ofNat (wo u w) &&& (K ^^^ (-1)) = 0 := by
  rw [← w_nat u hu w hw, Int32.and_assoc, Int32.and_comm ((1 <<< (Int32.ofNat w &&& 31)) ^^^ (-1)), ← Int32.and_assoc, hs, Int32.zero_and]
theorem wo_lt : ∀ u, u < 256 → ∀ w, w < 8 → u.testBit w = true → wo u w < u := by decide +kernel
theorem bit_and {v : Int32} (hu : u < 256) (hw : w < 8) (h : ¬ pBit (Int32.ofNat u &&& v) w = 0) : u.testBit w = true ∧ tb v w = true := by
  rw [pBit_0 (show w < 32 by omega), tb_and, tb_nat (by omega)] at h
  cases e : u.testBit w
  · rw [e, Bool.false_and] at h; exact absurd rfl h
  · cases e2 : tb v w
    · rw [e2, Bool.and_false] at h; exact absurd rfl h
    · exact ⟨rfl, rfl⟩
/-- the class's table keeps the equation -/
theorem fT_ok {s : OT} {K : Int32} (h8 : m ≤ 8) (hl : lnOk le ln) (hq : ∀ h, h < 9 → ((Int32.ofNat h = q) ↔ h = qn)) (hk : k ≤ 256) : ∀ u, u < k → Int32.ofNat u &&& (K ^^^ (-1)) = 0 → ∀ h, h < 9 → (fT le co m K q k s).1 (u * 9 + h) = Int32.ofNat (nV 1000 ln co qn m (tN (fT le co m K q k s).1) u h) := by
  have R := kfo_inv (g := fun u s => fU le co m K q u s) (n := k) (a := s) (I := fun x s => ∀ u, u < x → Int32.ofNat u &&& (K ^^^ (-1)) = 0 → ∀ h, h < 9 → s.1 (u * 9 + h) = Int32.ofNat (nV 1000 ln co qn m (tN s.1) u h)) (fun x s hx hs => ?_) (fun u hu => absurd hu (Nat.not_lt_zero u))
  · exact R
  · intro u hu hsub h hh
    have hrow : ∀ u, u < x → Int32.ofNat u &&& (K ^^^ (-1)) = 0 → ∀ h, h < 9 → s.1 (u * 9 + h) = Int32.ofNat (tN s.1 u h) ∧ tN s.1 u h ≤ 1000 := fun u hu hsub h hh => by
      have e := hs u hu hsub h hh
      have b := nV_le (N := 1000) (ln := ln) (co := co) (m := m) (T := tN s.1) (u := u) (h := h) (qn := qn)
      have e2 : tN s.1 u h = nV 1000 ln co qn m (tN s.1) u h := by
        show (s.1 (u * 9 + h)).toNatClampNeg = _
        rw [e, tn_cl (by omega)]
      rw [e2]; exact ⟨e, b⟩
    have keep : ∀ u, u < x → ∀ h, h < 9 → (fU le co m K q x s).1 (u * 9 + h) = s.1 (u * 9 + h) := fun u hu h hh => by
      by_cases c : Int32.ofNat x &&& (K ^^^ (-1)) = 0
      · refine (fU_nat (T := tN s.1) (ln := ln) (qn := qn) (s := s) h8 hl hq (show x < 256 by omega) (fun a ha w hw hb => ?_) c).2 _ (Or.inl (by omega))
        have hb2 := bit_and (by omega) hw hb
        exact hrow _ (wo_lt x (by omega) w hw hb2.1) (sub_wo (by omega) hw c) a (by omega)
      · unfold fU; rw [if_neg c]
    by_cases e : u = x
    · subst e
      have W := (fU_nat (co := co) (T := tN s.1) (ln := ln) (qn := qn) (s := s) h8 hl hq (show u < 256 by omega) (fun a ha w hw hb => by
        have hb2 := bit_and (by omega) hw hb
        exact hrow _ (wo_lt u (by omega) w hw hb2.1) (sub_wo (by omega) hw hsub) a (by omega)) hsub).1 h hh
      rw [W]
      refine congrArg Int32.ofNat (oV_c (fun a ha w hw hb => ?_))
      have hb2 := bit_and (by omega) hw hb
      unfold tN
      rw [keep _ (wo_lt u (by omega) w hw hb2.1) a (by omega)]
    · rw [keep u (by omega) h hh, hs u (by omega) hsub h hh]
      refine congrArg Int32.ofNat (oV_c (fun a ha w hw hb => ?_))
      have hb2 := bit_and (by omega) hw hb
      have := wo_lt u (by omega) w hw hb2.1
      unfold tN
      rw [keep _ (by omega) a (by omega)]
end TC
