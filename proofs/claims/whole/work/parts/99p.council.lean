/-! council: the letters and the automaton -/
section TC
variable {sc : Nat × (Nat → Int32)} {d y nx : Nat} {hd : List (Int × Nat)} {L st : List Value} {S : kS} {cu su : Nat} {i : Nat → Nat → Int32} {l : Nat → Nat → Int64} {f t c b m : Nat} {sp : Nat → Nat} {K : Option (Option Value) → kS → Prop}
variable {N M Z S1 Q A b w R : Nat → Int32} {n n2 k x a o g c L : Nat} {v r p q : Int32} {T : Nat → Int32}
theorem chr6 : ∀ k, k < 8 → kchr 1000006 k = Int32.ofNat (97 + k) := by decide +kernel
theorem pAm_th {v : Int32} : pAm (kchr 1000006) 8 v = if isTh (v - 97) then v - 97 else -1 := by
  by_cases c : isTh (v - 97)
  · rw [if_pos c]
    obtain ⟨k, hk, e⟩ := isTh_nat c
    have ev : v = Int32.ofNat (97 + k) := by
      rw [Int32.ofNat_add, ← e, show Int32.ofNat 97 = 97 from rfl, Int32.add_comm, Int32.sub_add_cancel]
    unfold pAm
    have : kfi (fun z => kchr 1000006 z = v) 8 0 = some k := kfi_is (by rw [chr6 k hk, ev]) (Nat.zero_le _) (by omega) (fun z _ hz hz2 => by
      rw [chr6 z (by omega), ev, tn_eq (by omega) (by omega)] at hz2; omega)
    rw [this, e]
  · rw [if_neg c]
    rcases @pAm_ok 8 (kchr 1000006) v with e | ⟨k, hk, e, e2⟩
    · exact e
    · exfalso
      apply c
      have : v - 97 = Int32.ofNat k := by rw [← e2, chr6 k hk, Int32.ofNat_add, show Int32.ofNat 97 = 97 from rfl, Int32.add_comm, Int32.add_sub_cancel]
      rw [this]
      exact ⟨tn_nn (by omega), by rw [show (8 : Int32) = Int32.ofNat 8 from rfl, tn_le (by decide) (by omega)]; omega⟩
theorem shr_0 : ∀ V, V < 256 → ∀ k, k < 8 → ((Int32.ofNat V >>> (Int32.ofNat k &&& 31) = 0) ↔ V < 2 ^ k) := by decide +kernel
/-- the letters' bits, the least that may come -/
def vOk (v : Int32) (L : Nat) : Prop := L ≤ 8 ∧ ∃ V, v = Int32.ofNat V ∧ V < 2 ^ L ∧ (0 < L → 2 ^ (L - 1) ≤ V)
theorem vOk_shr (h : vOk v L) (hk : k < 8) : (v >>> (Int32.ofNat k &&& 31) = 0) ↔ L ≤ k := by
  obtain ⟨hL, V, rfl, h1, h2⟩ := h
  have : 2 ^ L ≤ 2 ^ 8 := Nat.pow_le_pow_right (by decide) hL
  rw [shr_0 V (by omega) k hk]
  constructor
  · intro z
    apply Classical.byContradiction
    intro q
    have := h2 (by omega)
    have : 2 ^ k ≤ 2 ^ (L - 1) := Nat.pow_le_pow_right (by decide) (by omega)
    omega
  · intro z
    have : 2 ^ L ≤ 2 ^ k := Nat.pow_le_pow_right (by decide) z
    omega
theorem vOk_or (h : vOk v L) (hk : k < 8) (hL : L ≤ k) : vOk (v ||| (1 <<< (Int32.ofNat k &&& 31))) (k + 1) := by
  obtain ⟨_, V, rfl, h1, h2⟩ := h
  refine ⟨by omega, V ||| 2 ^ k, or_nat (by omega), ?_, fun _ => ?_⟩
  · have : 2 ^ L ≤ 2 ^ (k + 1) := Nat.pow_le_pow_right (by decide) (by omega)
    exact Nat.or_lt_two_pow (by omega) (Nat.pow_lt_pow_right (by decide) (by omega))
  · exact Nat.right_le_or
/-- the reference's letters are the automaton's -/
theorem lets_ok {to : Nat} : ∀ (F x : Nat) (v : Int32) (s : CS), x ≤ to → to - x ≤ F → s.2.1 = false → vOk v s.2.2.1 → s.2.2.2.2 (s.1 - 1) = v → ∃ (x' : Nat) (v' : Int32), lets T to F x v = (x', v') ∧ x ≤ x' ∧ x' ≤ to ∧ (∀ z, x ≤ z → z < x' → ¬ cBad T z (kfo (fun q s => cStep T (x + q) s) (z - x) s)) ∧ (kfo (fun q s => cStep T (x + q) s) (x' - x) s).1 = s.1 ∧ (kfo (fun q s => cStep T (x + q) s) (x' - x) s).2.1 = false ∧ vOk v' (kfo (fun q s => cStep T (x + q) s) (x' - x) s).2.2.1 ∧ (kfo (fun q s => cStep T (x + q) s) (x' - x) s).2.2.2.1 = s.2.2.2.1 ∧ (kfo (fun q s => cStep T (x + q) s) (x' - x) s).2.2.2.2 = kuf s.2.2.2.2 (s.1 - 1) v' ∧ (x' < to → ¬ (isTh (T x' - 97) ∧ ¬ T x' - 97 < Int32.ofNat (kfo (fun q s => cStep T (x + q) s) (x' - x) s).2.2.1)) := by
  intro F
  have base : ∀ (x : Nat) (v : Int32) (s : CS), x ≤ to → s.2.1 = false → vOk v s.2.2.1 → s.2.2.2.2 (s.1 - 1) = v → (x < to → ¬ (isTh (T x - 97) ∧ ¬ T x - 97 < Int32.ofNat s.2.2.1)) → ∃ (x' : Nat) (v' : Int32), (x, v) = (x', v') ∧ x ≤ x' ∧ x' ≤ to ∧ (∀ z, x ≤ z → z < x' → ¬ cBad T z (kfo (fun q s => cStep T (x + q) s) (z - x) s)) ∧ (kfo (fun q s => cStep T (x + q) s) (x' - x) s).1 = s.1 ∧ (kfo (fun q s => cStep T (x + q) s) (x' - x) s).2.1 = false ∧ vOk v' (kfo (fun q s => cStep T (x + q) s) (x' - x) s).2.2.1 ∧ (kfo (fun q s => cStep T (x + q) s) (x' - x) s).2.2.2.1 = s.2.2.2.1 ∧ (kfo (fun q s => cStep T (x + q) s) (x' - x) s).2.2.2.2 = kuf s.2.2.2.2 (s.1 - 1) v' ∧ (x' < to → ¬ (isTh (T x' - 97) ∧ ¬ T x' - 97 < Int32.ofNat (kfo (fun q s => cStep T (x + q) s) (x' - x) s).2.2.1)) := by
    intro x v s hx h1 h2 h3 h4
    refine ⟨x, v, rfl, Nat.le_refl _, hx, fun z a b => by omega, ?_⟩
    rw [Nat.sub_self]
    refine ⟨rfl, h1, h2, rfl, ?_, h4⟩
    show s.2.2.2.2 = _
    funext z
    unfold kuf
    by_cases c : z = s.1 - 1
    · rw [if_pos c, c, h3]
    · rw [if_neg c]
  induction F with
  | zero =>
    intro x v s hx hF h1 h2 h3
    exact base x v s hx h1 h2 h3 (fun z => by omega)
  | succ F ih =>
    intro x v s hx hF h1 h2 h3
    rw [lets]
    by_cases c : thA T to x < 0 ∨ ¬ v >>> (thA T to x &&& 31) = 0
    · rw [if_pos c]
      refine base x v s hx h1 h2 h3 (fun hxt hz => ?_)
      obtain ⟨k, hk, e⟩ := isTh_nat hz.1
      have et : thA T to x = Int32.ofNat k := by unfold thA; rw [if_pos hxt, pAm_th, if_pos hz.1, e]
      have hz2 := hz.2
      rw [e, tn_lt (by omega) (by have := h2.1; omega)] at hz2
      rcases c with c | c
      · rw [et] at c; exact tn_nn (by omega) c
      · rw [et, vOk_shr h2 hk] at c; omega
    · rw [if_neg c]
      have c1 : ¬ thA T to x < 0 := fun z => c (Or.inl z)
      have c2 : v >>> (thA T to x &&& 31) = 0 := Classical.byContradiction fun z => c (Or.inr z)
      have hxt : x < to := Classical.byContradiction fun z => c1 (by unfold thA; rw [if_neg z]; decide)
      have hth : isTh (T x - 97) := Classical.byContradiction fun z => c1 (by unfold thA; rw [if_pos hxt, pAm_th, if_neg z]; decide)
      obtain ⟨k, hk, e⟩ := isTh_nat hth
      have et : thA T to x = Int32.ofNat k := by unfold thA; rw [if_pos hxt, pAm_th, if_pos hth, e]
      rw [et] at c2 ⊢
      have hL := (vOk_shr h2 hk).1 c2
      have n59 : ¬ T x = 59 := fun z => by rw [z] at hth; exact absurd hth (by decide)
      have nf : ¬ s.2.1 = true := by rw [h1]; decide
      have es : cStep T x s = (s.1, false, k + 1, s.2.2.2.1, kuf s.2.2.2.2 (s.1 - 1) (v ||| (1 <<< (Int32.ofNat k &&& 31)))) := by
        unfold cStep
        rw [if_neg nf, if_neg n59, e, h3, tn_cl (by omega)]
      obtain ⟨x', v', g1, g2, g3, g4, g5, g6, g7, g8, g9, g10⟩ := ih (x + 1) (v ||| (1 <<< (Int32.ofNat k &&& 31))) (cStep T x s) (by omega) (by omega) (by rw [es]) (by rw [es]; exact vOk_or h2 hk hL) (by rw [es]; exact kuf_s)
      have sh : ∀ z, x + 1 ≤ z → kfo (fun q s => cStep T (x + q) s) (z - x) s = kfo (fun q s => cStep T (x + 1 + q) s) (z - (x + 1)) (cStep T x s) := fun z hz => by
        rw [show z - x = z - (x + 1) + 1 by omega, kfo_shift]
        show kfo (fun q s => cStep T (x + (q + 1)) s) (z - (x + 1)) (cStep T (x + 0) s) = _
        rw [Nat.add_zero]
        exact kfo_congr (fun q _ s => by rw [show x + (q + 1) = x + 1 + q by omega])
      refine ⟨x', v', g1, by omega, g3, fun z z1 z2 => ?_, ?_⟩
      · by_cases q : z = x
        · subst q
          rw [Nat.sub_self]
          show ¬ cBad T z s
          unfold cBad
          rw [if_neg nf]
          exact fun q => q.2 ⟨hth, by rw [e, tn_lt (by omega) (by have := h2.1; omega)]; omega⟩
        · rw [sh z (by omega)]
          exact g4 z (by omega) z2
      · rw [sh x' g2]
        refine ⟨by rw [g5, es], g6, g7, by rw [g8, es], ?_, g10⟩
        rw [g9, es]
        dsimp only
        exact kuf_kuf
end TC
