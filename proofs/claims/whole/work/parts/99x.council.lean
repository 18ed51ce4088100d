/-! council: what has grown -/
section TC
variable {sc : Nat × (Nat → Int32)} {d y nx : Nat} {hd : List (Int × Nat)} {L st : List Value} {S : kS} {cu su : Nat} {i : Nat → Nat → Int32} {l : Nat → Nat → Int64} {f t c b m : Nat} {sp : Nat → Nat} {K : Option (Option Value) → kS → Prop}
variable {N M Z S1 Q A b w R : Nat → Int32} {n n2 k x a o g c L to F D z kk : Nat} {v r p q : Int32} {T : Nat → Int32}
theorem kuf_id {k : Nat} {v : Int32} (h : M k = v) : kuf M k v = M := by
  funext z; unfold kuf
  by_cases c : z = k
  · rw [if_pos c, c, h]
  · rw [if_neg c]
theorem mask_id {v : Int32} {a : Nat} (ha : a < 8) (h : tb v a = false) : v &&& ((1 <<< (Int32.ofNat a &&& 31)) ^^^ (-1)) = v := by
  apply tb_ext
  intro y hy
  rw [tb_and, tb_not hy, tb_one a (by omega) y hy]
  by_cases c : y = a
  · subst c; rw [h]; rfl
  · rw [decide_eq_false c]; simp
/-- nothing of the night changes: it was nothing for men who are not there -/
theorem grow_now (hM : ∀ a, m ≤ a → a < 8 → M a = 0 ∧ M (8 + a) = 0 ∧ tb (M 16) a = false) : ∀ kk, m + kk ≤ 8 → (kfo (gSt m R) kk (b, w, M)).2.2 = M := by
  intro kk
  induction kk with
  | zero => intro _; rfl
  | succ kk ih =>
    intro hk
    have I := ih (by omega)
    have h := hM (m + kk) (by omega) (by omega)
    show (gSt m R kk (kfo (gSt m R) kk (b, w, M))).2.2 = M
    generalize kfo (gSt m R) kk (b, w, M) = s at I
    unfold gSt
    dsimp only
    rw [I, kuf_id h.1, kuf_id h.2.1, mask_id (by omega) h.2.2]
    exact kuf_id rfl
theorem grow_bw : ∀ kk, (∀ a, (kfo (gSt m R) kk (b, w, M)).1 a = if m ≤ a ∧ a < m + kk then R (2 * (a - m)) else b a) ∧ ∀ a, (kfo (gSt m R) kk (b, w, M)).2.1 a = if m ≤ a ∧ a < m + kk then R (2 * (a - m) + 1) else w a := by
  intro kk
  induction kk with
  | zero => exact ⟨fun a => by rw [if_neg (by omega)]; rfl, fun a => by rw [if_neg (by omega)]; rfl⟩
  | succ kk ih =>
    constructor
    · intro a
      show kuf (kfo (gSt m R) kk (b, w, M)).1 (m + kk) (R (2 * kk)) a = _
      by_cases e : a = m + kk
      · rw [e, kuf_s, if_pos (by omega), show m + kk - m = kk by omega]
      · rw [kuf_n e, ih.1 a]
        by_cases c : m ≤ a ∧ a < m + kk
        · rw [if_pos c, if_pos (by omega)]
        · rw [if_neg c, if_neg (by omega)]
    · intro a
      show kuf (kfo (gSt m R) kk (b, w, M)).2.1 (m + kk) (R (2 * kk + 1)) a = _
      by_cases e : a = m + kk
      · rw [e, kuf_s, if_pos (by omega), show m + kk - m = kk by omega]
      · rw [kuf_n e, ih.2 a]
        by_cases c : m ≤ a ∧ a < m + kk
        · rw [if_pos c, if_pos (by omega)]
        · rw [if_neg c, if_neg (by omega)]
end TC
