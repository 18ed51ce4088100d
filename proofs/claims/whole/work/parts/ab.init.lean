/-! the references that the constructor leaves -/
section TC
variable {i : Nat → Nat → Int32} {r : Nat → Nat → Value} {a k n x : Nat}
def sp0 (k : Nat) : Nat := 20 + 3 * k
def rv (x : Nat) : Value := match x with | 0 => .null | x + 1 => .ref (x + 1)
/-- what a cell's references are, 0: none yet told, 1: null, x + 2: the cell x -/
def rw16 : List Nat := [1, 1, 1, 1, 1, 1, 1, 1, 1, 1, 1, 1, 1, 1, 1, 1]
def lkR : List Op → Nat → List Nat → List Nat
  | [], _, z => z
  | (g, n, j, _, x) :: t, a, z => bif Nat.beq a n then lkR t a (bif Nat.beq g 0 then rw16 else bif Nat.beq g 2 then z.set j (x + 2) else z) else lkR t a z
def cdR (z : Nat) (v : Value) : Value := match z with | 0 => v | 1 => .null | x + 2 => .ref x
theorem rw16_g : ∀ k, k < 16 → rw16.getD k 0 = 1 := by decide
theorem exR_l {q : Nat → Value} : ∀ (p : List Op) (r : Nat → Nat → Value) (z : List Nat), z.length = 16 → (∀ k, k < 16 → r a k = cdR (z.getD k 0) (q k)) → ∀ k, k < 16 → exR p r a k = cdR ((lkR p a z).getD k 0) (q k) := by
  intro p
  induction p with
  | nil => intro r z _ h; exact h
  | cons o p ih =>
    intro r z hz h
    obtain ⟨g, b, j, v, x⟩ := o
    have eb : Nat.beq a b = decide (a = b) := by
      by_cases e : a = b
      · rw [e, decide_eq_true rfl]; exact Nat.beq_refl b
      · rw [decide_eq_false e]; exact Bool.eq_false_iff.2 (fun h => e (Nat.eq_of_beq_eq_true h))
    match g with
    | 0 =>
      show ∀ k, k < 16 → exR p (fR r b) a k = cdR ((bif Nat.beq a b then lkR p a rw16 else lkR p a z).getD k 0) (q k)
      rw [eb]
      by_cases e : a = b
      · rw [decide_eq_true e]
        refine ih _ _ rfl (fun k hk => ?_)
        unfold fR
        rw [if_pos e, rw16_g k hk]; rfl
      · rw [decide_eq_false e]
        refine ih _ _ hz (fun k hk => ?_)
        unfold fR
        rw [if_neg e]; exact h k hk
    | 1 =>
      show ∀ k, k < 16 → exR p r a k = cdR ((bif Nat.beq a b then lkR p a z else lkR p a z).getD k 0) (q k)
      rw [Bool.cond_self]
      exact ih _ _ hz h
    | 2 =>
      show ∀ k, k < 16 → exR p (kupr r b j (.ref x)) a k = cdR ((bif Nat.beq a b then lkR p a (z.set j (x + 2)) else lkR p a z).getD k 0) (q k)
      rw [eb]
      by_cases e : a = b
      · rw [decide_eq_true e]
        refine ih _ _ (by rw [List.length_set]; exact hz) (fun k hk => ?_)
        unfold kupr
        rw [List.getD_eq_getElem?_getD, List.getElem?_set]
        by_cases e2 : k = j
        · rw [if_pos ⟨e, e2⟩, if_pos e2.symm, if_pos (by omega)]; rfl
        · rw [if_neg (fun z => e2 z.2), if_neg (fun z => e2 z.symm), ← List.getD_eq_getElem?_getD]; exact h k hk
      · rw [decide_eq_false e]
        refine ih _ _ hz (fun k hk => ?_)
        unfold kupr
        rw [if_neg (fun z => e z.1)]; exact h k hk
    | g + 3 =>
      show ∀ k, k < 16 → exR p r a k = cdR ((bif Nat.beq a b then lkR p a z else lkR p a z).getD k 0) (q k)
      rw [Bool.cond_self]
      exact ih _ _ hz h
theorem exR_hi : ∀ (p : List Op) (r : Nat → Nat → Value), p.all (fun o => decide (o.2.1 < n)) = true → n ≤ a → exR p r a = r a := by
  intro p
  induction p with
  | nil => intro r _ _; rfl
  | cons o p ih =>
    intro r h ha
    obtain ⟨g, b, j, v, x⟩ := o
    rw [List.all_cons, Bool.and_eq_true] at h
    have hb : b < n := of_decide_eq_true h.1
    match g with
    | 0 =>
      show exR p (fR r b) a = _
      rw [ih _ h.2 ha, fR_o (by omega)]
    | 1 => exact ih _ h.2 ha
    | 2 =>
      show exR p (kupr r b j (.ref x)) a = _
      rw [ih _ h.2 ha, kur_o (by omega)]
    | g + 3 => exact ih _ h.2 ha
theorem exR_nu : ∀ (p : List Op) (r : Nat → Nat → Value), p.all (fun o => decide (o.2.2.1 < n)) = true → n ≤ k → r a k = .null → exR p r a k = .null := by
  intro p
  induction p with
  | nil => intro r _ _ h; exact h
  | cons o p ih =>
    intro r h hk hr
    obtain ⟨g, b, j, v, x⟩ := o
    rw [List.all_cons, Bool.and_eq_true] at h
    have hb : j < n := of_decide_eq_true h.1
    match g with
    | 0 =>
      refine ih _ h.2 hk ?_
      unfold fR; split
      · rfl
      · exact hr
    | 1 => exact ih _ h.2 hk hr
    | 2 =>
      refine ih _ h.2 hk ?_
      unfold kupr; rw [if_neg (by omega)]; exact hr
    | g + 3 => exact ih _ h.2 hk hr
/-- the number of a reference in kR -/
def rnR (a k : Nat) : Nat := if a = 0 ∧ k = 10 then 85 else if a = 0 ∧ k = 11 then 88 else if a = 17 ∧ k < 15 then 20 + 3 * k else (kRL.getD a []).getD k 0
theorem kR_rn : kR 85 88 sp0 a k = rv (rnR a k) := by
  unfold kR rnR
  by_cases e1 : a = 0 ∧ k = 10
  · rw [if_pos e1, if_pos e1]; rfl
  · rw [if_neg e1, if_neg e1]
    by_cases e2 : a = 0 ∧ k = 11
    · rw [if_pos e2, if_pos e2]; rfl
    · rw [if_neg e2, if_neg e2]
      by_cases e3 : a = 17 ∧ k < 15
      · rw [if_pos e3, if_pos e3]
        show Value.ref (20 + 3 * k) = rv (20 + 3 * k)
        rw [show 20 + 3 * k = (19 + 3 * k) + 1 by omega]; rfl
      · rw [if_neg e3, if_neg e3]; rfl
theorem kRL_len : ∀ a, a < 91 → (kRL.getD a []).length ≤ 16 := by decide +kernel
theorem kR_nu (ha : a < 91) (hk : 16 ≤ k) : kR 85 88 sp0 a k = .null := by
  rw [kR_rn]
  have : rnR a k = 0 := by
    unfold rnR
    rw [if_neg (by omega), if_neg (by omega), if_neg (by omega)]
    have := kRL_len a ha
    rw [List.getD_eq_getElem?_getD, List.getElem?_eq_none (by omega)]; rfl
  rw [this]; rfl
def exR16 (a : Nat) : Nat → List Nat
  | 0 => []
  | k + 1 => exR16 a k ++ [rnR a k + (bif Nat.beq (rnR a k) 0 then 1 else 2)]
theorem exR16_g : ∀ n k, k < n → (exR16 a n).getD k 0 = rnR a k + (bif Nat.beq (rnR a k) 0 then 1 else 2) := by
  have hl : ∀ n, (exR16 a n).length = n := by
    intro n
    induction n with
    | zero => rfl
    | succ n ih => rw [exR16, List.length_append, ih]; rfl
  intro n
  induction n with
  | zero => intro k hk; omega
  | succ n ih =>
    intro k hk
    rw [exR16, List.getD_eq_getElem?_getD]
    by_cases e : k < n
    · rw [List.getElem?_append_left (by rw [hl]; exact e), ← List.getD_eq_getElem?_getD]; exact ih k e
    · have : k = n := by omega
      subst this
      rw [List.getElem?_append_right (by rw [hl]; exact Nat.le_refl _), hl, Nat.sub_self]; rfl
def zr16 : List Nat := [0, 0, 0, 0, 0, 0, 0, 0, 0, 0, 0, 0, 0, 0, 0, 0]
theorem zr16_g : ∀ k, k < 16 → zr16.getD k 0 = 0 := by decide
theorem chk_B : ∀ a, a < 91 → lkR ((0, 0, 0, 0, 0) :: op_B) a zr16 = exR16 a 16 := by decide +kernel
theorem cdR_rv {z : Nat} {v : Value} : cdR (z + (bif Nat.beq z 0 then 1 else 2)) v = rv z := by
  cases z with
  | zero => rfl
  | succ z => rfl
theorem r_B : exR op_B (fR (kR 85 88 sp0) 0) = kR 85 88 sp0 := by
  show exR ((0, 0, 0, 0, 0) :: op_B) (kR 85 88 sp0) = _
  funext a k
  by_cases ha : a < 91
  · by_cases hk : k < 16
    · rw [exR_l (q := kR 85 88 sp0 a) _ _ zr16 rfl (fun k hk => by rw [zr16_g k hk]; rfl) k hk, chk_B a ha, exR16_g 16 k hk, cdR_rv, kR_rn]
    · rw [exR_nu (n := 16) _ _ (by decide +kernel) (by omega) (kR_nu ha (by omega)), kR_nu ha (by omega)]
  · rw [exR_hi (n := 91) _ _ (by decide +kernel) (by omega)]
end TC
