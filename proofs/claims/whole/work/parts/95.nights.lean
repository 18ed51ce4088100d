/-! a Night of the class and a row of the reference go together -/
section TC
variable {sc : Nat × (Nat → Int32)} {d y nx : Nat} {hd : List (Int × Nat)} {L st : List Value} {S : kS} {cu su : Nat} {i : Nat → Nat → Int32} {l : Nat → Nat → Int64} {f t c b m : Nat} {sp : Nat → Nat} {K : Option (Option Value) → kS → Prop}
variable {N M Z S1 Q le co : Nat → Int32} {k q : Int32} {a x z s v : Nat}
def NR0 (m : Nat) (N M : Nat → Int32) : Prop :=
  (∀ k, k < 22 → N k = M k) ∧ N 22 = pPm M ∧ N 24 = pPt M ∧
  (M 18 = -1 ∨ ∃ a, a < m ∧ M 18 = Int32.ofNat a) ∧
  (M 22 = -1 ∨ ∃ a, a < m ∧ M 22 = Int32.ofNat a) ∧
  (∀ a, m ≤ a → a < 8 → M a = 0 ∧ M (8 + a) = 0 ∧ tb (M 16) a = false)
def NR (m : Nat) (N M : Nat → Int32) : Prop := NR0 m N M ∧ ∃ x y : Nat, M 19 = Int32.ofNat x ∧ M 20 = Int32.ofNat y ∧ x < y ∧ y ≤ 60
theorem split22 {P : Nat → Prop} (h : ∀ k, k < 16 → P k) (h16 : P 16) (h17 : P 17) (h18 : P 18) (h19 : P 19) (h20 : P 20) (h21 : P 21) : ∀ k, k < 22 → P k := by
  intro k hk
  by_cases e : k < 16
  · exact h k e
  · have : k = 16 ∨ k = 17 ∨ k = 18 ∨ k = 19 ∨ k = 20 ∨ k = 21 := by omega
    rcases this with rfl | rfl | rfl | rfl | rfl | rfl <;> assumption
theorem tn_nn {a : Nat} (ha : a < 2147483648) : ¬ Int32.ofNat a < 0 := fun h => by rw [tn_n0 ha] at h; exact h
theorem more_eq {x : Int32} : qMore x = rMore x := by
  unfold qMore rMore
  by_cases h : x + 1 < 999
  · rw [if_pos h, if_neg (fun q => Int32.lt_irrefl (Int32.lt_trans h q))]
  · rw [if_neg h]
    by_cases q : 999 < x + 1
    · rw [if_pos q]
    · rw [if_neg q]; exact Int32.le_antisymm (Int32.not_lt.1 q) (Int32.not_lt.1 h)
theorem qPaid_n (h : v < 8 ∨ 16 ≤ v) : qPaid N v = N v := by
  unfold qPaid
  by_cases h1 : N 18 < 0
  · rw [if_pos h1]
  · rw [if_neg h1]
    by_cases h2 : 8 ≤ N 18
    · rw [if_pos h2]
    · rw [if_neg h2]
      obtain ⟨a, ha, e⟩ := tn_ex (m := 8) (by decide) (Int32.not_lt.1 h1) (Int32.not_le.1 h2)
      rw [e, tn_cl (by omega)]; exact kuf_n (by omega)
theorem rPaid_n (hh : M 18 = -1 ∨ ∃ a, a < 8 ∧ M 18 = Int32.ofNat a) (h : v < 8 ∨ 16 ≤ v) : rPaid M v = M v := by
  unfold rPaid
  rcases hh with e | ⟨a, ha, e⟩
  · rw [e, if_pos (by decide)]
  · rw [e, if_neg (tn_nn (by omega)), tn_cl (by omega)]; exact kuf_n (by omega)
theorem hat8 (h8 : m ≤ 8) (h : M 18 = -1 ∨ ∃ a, a < m ∧ M 18 = Int32.ofNat a) : M 18 = -1 ∨ ∃ a, a < 8 ∧ M 18 = Int32.ofNat a := by
  rcases h with e | ⟨a, ha, e⟩
  · exact Or.inl e
  · exact Or.inr ⟨a, by omega, e⟩
theorem NR0_kuf {u : Int32} {j : Nat} (hj : 19 ≤ j ∧ j < 22) (h : NR0 m N M) : NR0 m (kuf N j u) (kuf M j u) := by
  obtain ⟨h1, h2, h3, h4, h5, h6⟩ := h
  refine ⟨?_, ?_, ?_, ?_, ?_, ?_⟩
  · intro k hk
    unfold kuf; rw [h1 k hk]
  · rw [kuf_n (by omega), h2]; unfold pPm; rw [kuf_n (by omega), kuf_n (by omega)]
  · rw [kuf_n (by omega), h3]; unfold pPt; rw [kuf_n (by omega), kuf_n (by omega), kuf_n (by omega)]
  · rw [kuf_n (by omega)]; exact h4
  · rw [kuf_n (by omega)]; exact h5
  · intro a ha hb; rw [kuf_n (by omega), kuf_n (by omega), kuf_n (by omega)]; exact h6 a ha hb
theorem paid_eq (h8 : m ≤ 8) (h : NR0 m N M) : ∀ k, k < 22 → qPaid N k = rPaid M k := by
  obtain ⟨h1, h2, h3, h4, h5, h6⟩ := h
  intro k hk
  unfold qPaid rPaid
  rw [h1 18 (by decide)]
  rcases h4 with e | ⟨a, ha, e⟩
  · rw [e, if_pos (by decide), if_pos (by decide)]; exact h1 k hk
  · have g : ¬ (8 : Int32) ≤ Int32.ofNat a := by rw [show (8 : Int32) = Int32.ofNat 8 from rfl, tn_le (by omega) (by omega)]; omega
    rw [e, if_neg (tn_nn (by omega)), if_neg (tn_nn (by omega)), if_neg g, tn_cl (by omega)]
    unfold kuf
    rw [h1 (8 + a) (by omega), h1 k hk]
    have := @more_eq (M (8 + a))
    unfold qMore at this
    rw [this]
theorem NR0_strike (h8 : m ≤ 8) (h : NR0 m N M) : NR0 m (qStrike N) (rStrike M) := by
  have hp := paid_eq h8 h
  obtain ⟨h1, h2, h3, h4, h5, h6⟩ := h
  have hh := hat8 h8 h4
  have p22 : (rStrike M) 22 = -1 := by unfold rStrike; rw [kuf_n (by decide), kuf_s]
  refine ⟨?_, ?_, ?_, ?_, ?_, ?_⟩
  · unfold qStrike rStrike
    apply split22
    · intro k hk
      rw [kuf_n (by omega), kuf_n (by omega), kuf_n (by omega), kuf_n (by omega), kuf_n (by omega), kuf_n (by omega), kuf_n (by omega), kuf_n (by omega), kuf_n (by omega), kuf_n (by omega), kuf_n (by omega)]
      exact hp k (by omega)
    · simp [kuf]; exact hp 16 (by decide)
    · simp [kuf]
    · simp [kuf]
    · simp [kuf]
    · simp [kuf]; exact hp 20 (by decide)
    · simp [kuf]; rw [hp 21 (by decide)]
  · unfold pPm; rw [p22]; simp [qStrike, kuf]
  · unfold pPt; rw [p22]; simp [qStrike, kuf]
  · left; simp [rStrike, kuf]
  · left; exact p22
  · intro a ha hb
    have w := h6 a ha hb
    refine ⟨?_, ?_, ?_⟩
    · unfold rStrike
      rw [kuf_n (by omega), kuf_n (by omega), kuf_n (by omega), kuf_n (by omega), kuf_n (by omega), rPaid_n hh (Or.inl hb)]; exact w.1
    · unfold rStrike
      rw [kuf_n (by omega), kuf_n (by omega), kuf_n (by omega), kuf_n (by omega), kuf_n (by omega)]
      unfold rPaid
      rcases h4 with e | ⟨c, hc, e⟩
      · rw [e, if_pos (by decide)]; exact w.2.1
      · rw [e, if_neg (tn_nn (by omega)), tn_cl (by omega), kuf_n (by omega)]; exact w.2.1
    · unfold rStrike
      rw [kuf_n (by omega), kuf_n (by omega), kuf_n (by omega), kuf_n (by omega), kuf_n (by omega), rPaid_n hh (Or.inr (by decide))]; exact w.2.2
theorem NR_pass {y : Nat} (h8 : m ≤ 8) (h : NR0 m N M) (hx : M 19 = Int32.ofNat x) (hy : M 20 = Int32.ofNat y) (x60 : x < 60) (y1 : 1 ≤ y) (y60 : y ≤ 60) (hs : s ≤ 60) : NR m (qPass N (Int32.ofNat s)) (rPass M (Int32.ofNat s)) := by
  have hh := hat8 h8 h.2.2.2.1
  unfold qPass rPass
  rw [h.1 19 (by decide), h.1 20 (by decide), hx, hy, ← Int32.ofNat_add]
  simp only [tn_lt (show x + s < 2147483648 by omega) (show y < 2147483648 by omega)]
  by_cases g : x + s < y
  · rw [if_pos g, if_pos g]
    refine ⟨NR0_kuf (by decide) h, x + s, y, kuf_s, ?_, g, y60⟩
    rw [kuf_n (by decide)]; exact hy
  · rw [if_neg g, if_neg g]
    refine ⟨NR0_strike h8 (NR0_kuf (by decide) h), 0, y, ?_, ?_, y1, y60⟩
    · simp [rStrike, kuf]
    · unfold rStrike
      rw [kuf_n (by decide), kuf_n (by decide), kuf_n (by decide), kuf_n (by decide), kuf_n (by decide), rPaid_n (by rw [kuf_n (by decide)]; exact hh) (Or.inr (by decide)), kuf_n (by decide)]; exact hy
theorem qMark_n {j : Nat} (h : j ≠ 17) : qMark N k q j = N j := by
  unfold qMark; split
  · exact kuf_n h
  · split
    · exact kuf_n h
    · split
      · rw [kuf_n h, kuf_n h]
      · rfl
theorem rSaid_n {j : Nat} (h : j ≠ 17) : rSaid M k q j = M j := by
  unfold rSaid; split
  · exact kuf_n h
  · split
    · rw [kuf_n h, kuf_n h]
    · split
      · exact kuf_n h
      · rfl
theorem said_eq (h17 : N 17 = M 17) (h24 : k = 4 → N 24 = M 24) : qMark N k q 17 = rSaid M k q 17 := by
  unfold qMark rSaid
  by_cases k0 : k = 0
  · rw [if_pos k0, if_pos k0, kuf_s, kuf_s, h17]
  · rw [if_neg k0, if_neg k0]
    by_cases k3 : k = 3
    · rw [if_pos k3, if_neg (by rw [k3]; decide), if_pos k3, kuf_s, kuf_s, h17]
    · rw [if_neg k3]
      by_cases k4 : k = 4
      · rw [if_pos k4, if_pos k4, kuf_s, kuf_s, h17, h24 k4]
      · rw [if_neg k4, if_neg k4, if_neg k3, h17]
/-- lengths 1 to 9 -/
def leOk (le : Nat → Int32) : Prop := ∀ x, x < 8 → ∃ n, 1 ≤ n ∧ n ≤ 9 ∧ le x = Int32.ofNat n
theorem pMin_one (hz : z < 8) : pMin le (1 <<< (Int32.ofNat z &&& 31)) = le z := by
  unfold pMin
  have g : ∀ z, z < 8 → ∀ x, x < 8 → pBit (1 <<< (Int32.ofNat z &&& 31)) x = if x = z then 1 else 0 := by decide +kernel
  have : ∀ n, n ≤ 8 → kfo (fun x s => s + pBit (1 <<< (Int32.ofNat z &&& 31)) x * le x) n 0 = if z < n then le z else 0 := by
    intro n
    induction n with
    | zero => intro _; rfl
    | succ n ih =>
      intro hn
      show kfo _ n 0 + _ = _
      rw [ih (by omega), g z hz n (by omega)]
      by_cases e : n = z
      · subst e
        rw [if_neg (Nat.lt_irrefl n), if_pos rfl, if_pos (by omega), Int32.one_mul, Int32.zero_add]
      · rw [if_neg e, Int32.zero_mul, Int32.add_zero]
        by_cases w : z < n
        · rw [if_pos w, if_pos (by omega)]
        · rw [if_neg w, if_neg (by omega)]
  rw [this 8 (Nat.le_refl _), if_pos hz]
theorem pMin_two (hz : z < 7) : pMin le (3 <<< (Int32.ofNat z &&& 31)) = le z + le (z + 1) := by
  unfold pMin
  have g : ∀ z, z < 7 → ∀ x, x < 8 → pBit (3 <<< (Int32.ofNat z &&& 31)) x = if x = z ∨ x = z + 1 then 1 else 0 := by decide +kernel
  have : ∀ n, n ≤ 8 → kfo (fun x s => s + pBit (3 <<< (Int32.ofNat z &&& 31)) x * le x) n 0 = if z + 1 < n then le z + le (z + 1) else if z < n then le z else 0 := by
    intro n
    induction n with
    | zero => intro _; rfl
    | succ n ih =>
      intro hn
      show kfo _ n 0 + _ = _
      rw [ih (by omega), g z hz n (by omega)]
      by_cases e : n = z
      · subst e
        rw [if_neg (by omega), if_neg (by omega), if_pos (Or.inl rfl), if_neg (by omega), if_pos (by omega), Int32.one_mul, Int32.zero_add]
      · by_cases e2 : n = z + 1
        · subst e2
          rw [if_neg (by omega), if_pos (by omega), if_pos (Or.inr rfl), if_pos (by omega), Int32.one_mul]
        · rw [if_neg (show ¬ (n = z ∨ n = z + 1) by omega), Int32.zero_mul, Int32.add_zero]
          by_cases w : z + 1 < n
          · rw [if_pos w, if_pos (by omega)]
          · rw [if_neg w, if_neg (show ¬ z < n by omega), if_neg (show ¬ z + 1 < n + 1 by omega), if_neg (show ¬ z < n + 1 by omega)]
  rw [this 8 (Nat.le_refl _), if_pos (by omega)]
theorem half_ok : ∀ n, n ≤ 19 → (Int32.ofNat n) / 2 = Int32.ofNat (n / 2) := by decide +kernel
theorem mins_eq (hle : leOk le) (k0 : ¬ k < 0) (k4 : ¬ 4 < k) (hq : k = 0 ∨ k = 4 → ¬ q < 0 ∧ ¬ 8 ≤ q) (hq3 : k = 3 → ¬ q < 0 ∧ ¬ 7 ≤ q) : ∃ s, 1 ≤ s ∧ s ≤ 9 ∧ pMinOf le k q = Int32.ofNat s ∧ rMins le k q = Int32.ofNat s := by
  unfold pMinOf rMins
  rcases k5_of k0 k4 with rfl | rfl | rfl | rfl | rfl
  · obtain ⟨z, hz, rfl⟩ := tn_ex (m := 8) (by decide) (Int32.not_lt.1 (hq (Or.inl rfl)).1) (Int32.not_le.1 (hq (Or.inl rfl)).2)
    obtain ⟨n, n1, n9, e⟩ := hle z hz
    refine ⟨n, n1, n9, ?_, ?_⟩
    · rw [if_pos rfl, pMin_one hz, e]
    · rw [if_pos rfl, tn_cl (by omega), e]
  · exact ⟨1, by decide, by decide, by rfl, by rfl⟩
  · exact ⟨1, by decide, by decide, by rfl, by rfl⟩
  · obtain ⟨z, hz, rfl⟩ := tn_ex (m := 7) (by decide) (Int32.not_lt.1 (hq3 rfl).1) (Int32.not_le.1 (hq3 rfl).2)
    obtain ⟨n, n1, n9, e⟩ := hle z (by omega)
    obtain ⟨n2, n12, n92, e2⟩ := hle (z + 1) (by omega)
    refine ⟨(n + n2 + 1) / 2, by omega, by omega, ?_, ?_⟩
    · simp only [z30, if_false, if_true]
      rw [pMin_two hz, e, e2, ← Int32.ofNat_add, tn_s, half_ok _ (by omega)]
    · simp only [z30, z34, if_false, if_true]
      rw [tn_s, tn_cl (by omega), tn_cl (by omega), e, e2, ← Int32.ofNat_add, tn_s, half_ok _ (by omega)]
  · obtain ⟨z, hz, rfl⟩ := tn_ex (m := 8) (by decide) (Int32.not_lt.1 (hq (Or.inr rfl)).1) (Int32.not_le.1 (hq (Or.inr rfl)).2)
    obtain ⟨n, n1, n9, e⟩ := hle z hz
    refine ⟨(n + 1) / 2, by omega, by omega, ?_, ?_⟩
    · simp only [z40, z43, if_false, if_true]
      rw [pMin_one hz, e, tn_s, half_ok _ (by omega)]
    · simp only [z40, if_false, if_true]
      rw [tn_cl (by omega), e, tn_s, half_ok _ (by omega)]
theorem tb_or1 {v : Int32} {a c : Nat} (hc : c < 32) (ha : a < 32) (hn : a ≠ c) : tb (v ||| (1 <<< (Int32.ofNat c &&& 31))) a = tb v a := by
  rw [tb_or, tb_one c hc a ha, decide_eq_false hn, Bool.or_false]
def qB (N : Nat → Int32) (a : Nat) (k q : Int32) : Nat → Int32 := kuf (kuf (qMark (qG3 N a k q) k q) 22 (if k = 0 then Int32.ofNat a else -1)) 24 (if k = 0 then q else -1)
theorem pPm_of4 (h : NR0 m N M) (hp : ¬ pPm M = -1) : N 24 = M 24 ∧ N 22 = M 22 := by
  have w := pPm_nat hp
  rw [h.2.1, h.2.2.1]
  unfold pPm pPt
  rw [if_pos w, if_pos w]; exact ⟨rfl, rfl⟩
theorem NR0_talk (h8 : m ≤ 8) (ha : a < m) (h : NR0 m N M) (hq2 : k = 2 → pHas (Int32.ofNat m) q = true) (hq4 : k = 4 → ¬ pPm M = -1) : NR0 m (qB N a k q) (rT6 M a k q) := by
  obtain ⟨h1, h2, h3, h4, h5, h6⟩ := h
  have e24 : k = 4 → N 24 = M 24 := fun e => (pPm_of4 ⟨h1, h2, h3, h4, h5, h6⟩ (hq4 e)).1
  have e22 : k = 4 → N 22 = M 22 := fun e => (pPm_of4 ⟨h1, h2, h3, h4, h5, h6⟩ (hq4 e)).2
  have eH : qHat N a k q = rWear M a k q := by
    unfold qHat rWear
    by_cases k4 : k = 4
    · rw [e22 k4]
    · simp only [k4, if_false]
  have hH : ∃ c, c < m ∧ rWear M a k q = Int32.ofNat c := by
    unfold rWear
    by_cases k2 : k = 2
    · rw [if_pos k2]
      have w := pHas_iff.1 (hq2 k2)
      exact tn_ex (by omega) (Int32.not_lt.1 w.1) (Int32.not_le.1 w.2)
    · rw [if_neg k2]
      by_cases k4 : k = 4
      · rw [if_pos k4]
        have w := pPm_nat (hq4 k4)
        rcases h5 with e | e
        · rw [e] at w; exact absurd (show (-1 : Int32) < 0 by decide) w.1
        · exact e
      · rw [if_neg k4]; exact ⟨a, ha, rfl⟩
  have y22 : rT6 M a k q 22 = Int32.ofNat a := by simp [rT6, kuf]
  have y23 : rT6 M a k q 23 = k := by simp [rT6, kuf]
  have y24 : rT6 M a k q 24 = q := by simp [rT6, kuf]
  have y18 : rT6 M a k q 18 = rWear M a k q := by simp [rT6, kuf]
  have y16 : rT6 M a k q 16 = M 16 ||| (1 <<< (rWear M a k q &&& 31)) := by simp [rT6, kuf]
  have g3 : ∀ j, j ≠ a → j ≠ 18 → j ≠ 16 → qG3 N a k q j = N j := fun j e1 e2 e3 => by unfold qG3; rw [kuf_n e3, kuf_n e2, kuf_n e1]
  refine ⟨?_, ?_, ?_, ?_, ?_, ?_⟩
  · apply split22
    · intro j hj
      unfold qB rT6
      rw [kuf_n (by omega), kuf_n (by omega), qMark_n (by omega), kuf_n (by omega), kuf_n (by omega), kuf_n (by omega), kuf_n (by omega), kuf_n (by omega)]
      unfold qG3
      rw [kuf_n (by omega), kuf_n (by omega)]
      unfold kuf
      rw [rSaid_n (by omega), h1 j (by omega), h1 a (by omega), more_eq]
    · rw [y16]; unfold qB; rw [kuf_n (by decide), kuf_n (by decide), qMark_n (by decide)]; unfold qG3; rw [kuf_s, eH, h1 16 (by decide)]
    · have : rT6 M a k q 17 = rSaid M k q 17 := by
        unfold rT6; rw [kuf_n (by decide), kuf_n (by decide), kuf_n (by decide), kuf_n (by decide), kuf_n (by decide), kuf_n (by omega)]
      rw [this]; unfold qB; rw [kuf_n (by decide), kuf_n (by decide)]
      apply said_eq
      · rw [g3 17 (by omega) (by decide) (by decide)]; exact h1 17 (by decide)
      · intro e; rw [g3 24 (by omega) (by decide) (by decide)]; exact e24 e
    · rw [y18]; unfold qB; rw [kuf_n (by decide), kuf_n (by decide), qMark_n (by decide)]; unfold qG3; rw [kuf_n (by decide), kuf_s, eH]
    · unfold qB rT6; rw [kuf_n (by decide), kuf_n (by decide), qMark_n (by decide), g3 19 (by omega) (by decide) (by decide), kuf_n (by decide), kuf_n (by decide), kuf_n (by decide), kuf_n (by decide), kuf_n (by decide), kuf_n (by omega), rSaid_n (by decide)]; exact h1 19 (by decide)
    · unfold qB rT6; rw [kuf_n (by decide), kuf_n (by decide), qMark_n (by decide), g3 20 (by omega) (by decide) (by decide), kuf_n (by decide), kuf_n (by decide), kuf_n (by decide), kuf_n (by decide), kuf_n (by decide), kuf_n (by omega), rSaid_n (by decide)]; exact h1 20 (by decide)
    · unfold qB rT6; rw [kuf_n (by decide), kuf_n (by decide), qMark_n (by decide), g3 21 (by omega) (by decide) (by decide), kuf_n (by decide), kuf_n (by decide), kuf_n (by decide), kuf_n (by decide), kuf_n (by decide), kuf_n (by omega), rSaid_n (by decide)]; exact h1 21 (by decide)
  · unfold pPm; rw [y22, y23]; unfold qB; rw [kuf_n (by decide), kuf_s]
    by_cases k0 : k = 0
    · rw [if_pos k0, if_pos ⟨tn_nn (by omega), k0⟩]
    · rw [if_neg k0, if_neg (fun w => k0 w.2)]
  · unfold pPt; rw [y22, y23, y24]; unfold qB; rw [kuf_s]
    by_cases k0 : k = 0
    · rw [if_pos k0, if_pos ⟨tn_nn (by omega), k0⟩]
    · rw [if_neg k0, if_neg (fun w => k0 w.2)]
  · rw [y18]; exact Or.inr hH
  · rw [y22]; exact Or.inr ⟨a, ha, rfl⟩
  · intro c hc hc8
    have w := h6 c hc hc8
    obtain ⟨e, he, eH2⟩ := hH
    refine ⟨?_, ?_, ?_⟩
    · unfold rT6; rw [kuf_n (by omega), kuf_n (by omega), kuf_n (by omega), kuf_n (by omega), kuf_n (by omega), kuf_n (by omega), rSaid_n (by omega)]; exact w.1
    · unfold rT6; rw [kuf_n (by omega), kuf_n (by omega), kuf_n (by omega), kuf_n (by omega), kuf_n (by omega), kuf_n (by omega), rSaid_n (by omega)]; exact w.2.1
    · rw [y16, eH2, tb_or1 (by omega) (by omega) (by omega)]; exact w.2.2
theorem rT6_t {j : Nat} (ha : a < 8) (hj : j = 19 ∨ j = 20 ∨ j = 21) : rT6 M a k q j = M j := by
  unfold rT6
  rw [kuf_n (by omega), kuf_n (by omega), kuf_n (by omega), kuf_n (by omega), kuf_n (by omega), kuf_n (by omega), rSaid_n (by omega)]
/-- a talk that isn't refused -/
theorem NR_go {co : Nat → Int32} (h8 : m ≤ 8) (hle : leOk le) (h : NR m N M) (k0 : ¬ k < 0) (k4 : ¬ 4 < k) (ha : a < m) (hc : ¬ pCanTalk co (M 17) (M 18) (pPm M) (Int32.ofNat m) (Int32.ofNat a) k q = 0) : NR m (qGo le N a k q) (rTalk le M a k q) := by
  have w := pCanTalk_q hc
  obtain ⟨s, s1, s9, e1, e2⟩ := mins_eq hle k0 k4 w.1 w.2.1
  obtain ⟨h0, x, y, hx, hy, hxy, hy60⟩ := h
  have t := NR0_talk (q := q) h8 ha h0 w.2.2.1 w.2.2.2
  unfold qGo rTalk
  rw [e1, e2]
  exact NR_pass h8 t (by rw [rT6_t (by omega) (by omega)]; exact hx) (by rw [rT6_t (by omega) (by omega)]; exact hy) (by omega) (by omega) hy60 (by omega)
end TC
