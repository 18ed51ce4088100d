/-- the words of a method but its code: its kind is initialised, how it is called, what the choice by the object comes to -/
def kQc (z : Nat) (m : kM) (q : Nat × Nat × Nat) : Bool :=
  decide (lw_tbl[q.1]? = some (.initialized m.1.cls)) && (decide (m.1.cls ≠ "java/lang/invoke/MethodHandle" ∧ m.1.cls ≠ "java/lang/invoke/VarHandle") && (Jvm.plainName m.1.cls && (decide (m.2.2.1 ≤ 15) && (decide (kRn m.2.2.2.2 = m.1.cls) && (match kkd[z]? with
    | some 0 => decide (lw_tbl[q.2.1]? = some (.instanceMethod m.1)) && (goodWord (.selects m.1.cls m.1 m.1) && decide (lw_tbl[q.2.2]? = some (.selects m.1.cls m.1 m.1)))
    | some 1 => decide (lw_tbl[q.2.1]? = some (.static m.1))
    | some 2 => decide (lw_tbl[q.2.1]? = some (.instanceMethod m.1)) && decide (m.1.name = "<init>" ∧ m.2.2.2.1 = none)
    | _ => false)))))
def kQa (z : Nat) : List kM → List (Nat × Nat × Nat) → Bool
  | [], _ => true
  | _ :: _, [] => false
  | m :: t, q :: qs => (decide (z = kLaw) || kQc z m q) && kQa (z + 1) t qs
theorem kQa_ok : ∀ {l : List kM} {qs : List (Nat × Nat × Nat)} {z0 : Nat}, kQa z0 l qs = true → ∀ (k : Nat) (m : kM), l[k]? = some m → z0 + k ≠ kLaw → ∃ q, kQc (z0 + k) m q = true
  | [], _, _, _, k, m, hk, _ => by simp at hk
  | a :: t, [], _, h, _, _, _, _ => absurd h (by simp [kQa])
  | a :: t, q :: qs, z0, h, k, m, hk, hn => by
    rw [kQa, Bool.and_eq_true] at h
    obtain ⟨h1, h2⟩ := h
    cases k with
    | zero =>
      simp at hk
      subst hk
      rw [Bool.or_eq_true, decide_eq_true_eq] at h1
      rcases h1 with h1 | h1
      · exact absurd h1 hn
      · exact ⟨q, h1⟩
    | succ k =>
      have := kQa_ok h2 k m (by simpa using hk) (by rw [show z0 + 1 + k = z0 + (k + 1) by omega]; exact hn)
      rwa [show z0 + 1 + k = z0 + (k + 1) by omega] at this
set_option maxRecDepth 100000 in
theorem kQa_all : kQa 0 kms kQp = true := by decide +kernel
