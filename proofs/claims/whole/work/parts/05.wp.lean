/-! runs of the abstract machine, goal first -/
section KW
variable {sc : Nat × (Nat → Int32)}
theorem krun_mono : ∀ {n d y pc : Nat} {L st : List Value} {S : kS} {r : Option (Option Value) × kS}, krun sc n d y pc L st S = some r → krun sc (n + 1) d y pc L st S = some r := by
  intro n
  induction n with
  | zero => intro d y pc L st S r h; simp [krun] at h
  | succ n ih =>
    intro d y pc L st S r h
    rw [krun] at h
    rw [krun]
    cases hf : kfetch y pc with
    | none => rw [hf] at h; simp at h
    | some I =>
      rw [hf] at h
      simp only at h ⊢
      cases hs : kstep sc I L st S with
      | none => rw [hs] at h; simp at h
      | some c =>
        rw [hs] at h
        rcases c with r0 | ⟨pc', L', st', S'⟩ | ⟨z, as, nx, hd, L', st', S'⟩
        · exact h
        · exact ih h
        · simp only at h ⊢
          cases d with
          | zero => simp at h
          | succ d' =>
            simp only at h ⊢
            cases hc : krun sc n d' z 0 (kpad (kmx z) as) [] S' with
            | none => rw [hc] at h; simp at h
            | some q =>
              rw [hc] at h
              rw [ih hc]
              rcases q with ⟨_ | v, S2⟩
              · cases hd with
                | nil => simp at h
                | cons a t => exact ih h
              · exact ih h
theorem krun_le {n m d y pc : Nat} {L st : List Value} {S : kS} {r : Option (Option Value) × kS} (hnm : n ≤ m) (h : krun sc n d y pc L st S = some r) : krun sc m d y pc L st S = some r := by
  induction hnm with
  | refl => exact h
  | step _ ih => exact krun_mono ih
variable (sc)
def kWP (d y pc : Nat) (L st : List Value) (S : kS) (K : Option (Option Value) → kS → Prop) : Prop := ∃ (n : Nat) (r : Option (Option Value) × kS), krun sc n d y pc L st S = some r ∧ K r.1 r.2
def kCA (d z : Nat) (as : List Value) (y nx : Nat) (hd : List (Int × Nat)) (L st : List Value) (S : kS) (K : Option (Option Value) → kS → Prop) : Prop := match d with
  | 0 => False
  | d' + 1 => kWP sc d' z 0 (kpad (kmx z) as) [] S (fun r S2 => match r with
    | some v => kWP sc (d' + 1) y nx L (v.toList ++ st) S2 K
    | none => match hd with
      | [] => False
      | (k, h) :: _ => kWP sc (d' + 1) y h (kset (kclr L k.toNat) k.toNat (.retAddr 0)) [] S2 K)
def kwc (c : Option kC) (d y : Nat) (K : Option (Option Value) → kS → Prop) : Prop := match c with
  | none => False
  | some (.inl r) => K r.1 r.2
  | some (.inr (.inl (pc, L, st, S))) => kWP sc d y pc L st S K
  | some (.inr (.inr (z, as, nx, hd, L, st, S))) => kCA sc d z as y nx hd L st S K
variable {sc}
theorem kWP_eq {d y pc : Nat} {L st : List Value} {S : kS} {K : Option (Option Value) → kS → Prop} {I : kI} (hf : kfetch y pc = some I) : kWP sc d y pc L st S K = kwc sc (kstep sc I L st S) d y K := by
  apply propext
  constructor
  · rintro ⟨n, r, h, hK⟩
    cases n with
    | zero => simp [krun] at h
    | succ n =>
      rw [krun, hf] at h
      simp only at h
      cases hs : kstep sc I L st S with
      | none => rw [hs] at h; simp at h
      | some c =>
        rw [hs] at h
        rcases c with r0 | ⟨pc', L', st', S'⟩ | ⟨z, as, nx, hd, L', st', S'⟩
        · cases h; exact hK
        · exact ⟨n, r, h, hK⟩
        · simp only at h
          cases d with
          | zero => simp at h
          | succ d' =>
            simp only at h
            cases hc : krun sc n d' z 0 (kpad (kmx z) as) [] S' with
            | none => rw [hc] at h; simp at h
            | some q =>
              rw [hc] at h
              refine ⟨n, q, hc, ?_⟩
              rcases q with ⟨_ | v, S2⟩
              · cases hd with
                | nil => simp at h
                | cons a t => exact ⟨n, r, h, hK⟩
              · exact ⟨n, r, h, hK⟩
  · intro h
    cases hs : kstep sc I L st S with
    | none => rw [hs] at h; exact h.elim
    | some c =>
      rw [hs] at h
      rcases c with r0 | ⟨pc', L', st', S'⟩ | ⟨z, as, nx, hd, L', st', S'⟩
      · exact ⟨1, r0, by rw [krun, hf]; simp only [hs], h⟩
      · obtain ⟨n, r, h1, h2⟩ := h
        exact ⟨n + 1, r, by rw [krun, hf]; simp only [hs]; exact h1, h2⟩
      · cases d with
        | zero => exact h.elim
        | succ d' =>
          obtain ⟨n, q, h1, h2⟩ := h
          rcases q with ⟨_ | v, S2⟩
          · cases hd with
            | nil => exact h2.elim
            | cons a t =>
              obtain ⟨m, r, h3, h4⟩ := h2
              refine ⟨n + m + 1, r, ?_, h4⟩
              rw [krun, hf]
              simp only [hs, krun_le (Nat.le_add_right n m) h1]
              exact krun_le (Nat.le_add_left m n) h3
          · obtain ⟨m, r, h3, h4⟩ := h2
            refine ⟨n + m + 1, r, ?_, h4⟩
            rw [krun, hf]
            simp only [hs, krun_le (Nat.le_add_right n m) h1]
            exact krun_le (Nat.le_add_left m n) h3
theorem kWP_mono {d y pc : Nat} {L st : List Value} {S : kS} {K K2 : Option (Option Value) → kS → Prop} (h : kWP sc d y pc L st S K) (hk : ∀ r S, K r S → K2 r S) : kWP sc d y pc L st S K2 := by
  obtain ⟨n, r, h1, h2⟩ := h
  exact ⟨n, r, h1, hk _ _ h2⟩
/-- a method's run, once known, at a call -/
theorem kCA_of {d z : Nat} {as : List Value} {y nx : Nat} {hd : List (Int × Nat)} {L st : List Value} {S S2 : kS} {v : Option Value} {K : Option (Option Value) → kS → Prop}
    (h : ∀ K, kWP sc d z 0 (kpad (kmx z) as) [] S K = K (some v) S2) : kCA sc (d + 1) z as y nx hd L st S K = kWP sc (d + 1) y nx L (v.toList ++ st) S2 K := by
  rw [kCA, h]
theorem kCA_thrown {d z : Nat} {as : List Value} {y nx : Nat} {h0 : Nat} {t : List (Int × Nat)} {i0 : Int} {L L2 st : List Value} {S S2 : kS} {K : Option (Option Value) → kS → Prop}
    (h : ∀ K, kWP sc d z 0 (kpad (kmx z) as) [] S K = K none S2) (hL : kset (kclr L i0.toNat) i0.toNat (.retAddr 0) = L2) : kCA sc (d + 1) z as y nx ((i0, h0) :: t) L st S K = kWP sc (d + 1) y h0 L2 [] S2 K := by
  subst hL; rw [kCA, h]
theorem kwc_go {n d y : Nat} {L st : List Value} {S : kS} {K : Option (Option Value) → kS → Prop} : kwc sc (kgo n L st S) d y K = kWP sc d y n L st S K := rfl
theorem kwc_end {d y : Nat} {v : Option (Option Value)} {S : kS} {K : Option (Option Value) → kS → Prop} : kwc sc (kend v S) d y K = K v S := rfl
theorem kwc_call {d y z nx : Nat} {as L st : List Value} {hd : List (Int × Nat)} {S : kS} {K : Option (Option Value) → kS → Prop} : kwc sc (some (.inr (.inr (z, as, nx, hd, L, st, S)))) d y K = kCA sc d z as y nx hd L st S K := rfl
theorem kwc_if {c : Prop} [Decidable c] {A : Option kC} {d y : Nat} {K : Option (Option Value) → kS → Prop} : kwc sc (if c then A else none) d y K = (c ∧ kwc sc A d y K) := by
  by_cases h : c
  · simp [h]
  · simp only [h, if_false, false_and]; rfl
theorem kwc_nif {c : Prop} [Decidable c] {A : Option kC} {d y : Nat} {K : Option (Option Value) → kS → Prop} : kwc sc (if c then none else A) d y K = (¬ c ∧ kwc sc A d y K) := by
  by_cases h : c
  · simp only [h, if_true, not_true, false_and]; rfl
  · simp [h]
theorem kWP_if {c : Prop} [Decidable c] {a b d y : Nat} {L st : List Value} {S : kS} {K : Option (Option Value) → kS → Prop} : kWP sc d y (if c then a else b) L st S K = if c then kWP sc d y a L st S K else kWP sc d y b L st S K := by
  by_cases h : c <;> simp [h]
end KW
