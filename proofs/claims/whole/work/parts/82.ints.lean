/-! counters, conditions, loops -/
section TN
theorem tn_le {a b : Nat} (ha : a < 2147483648) (hb : b < 2147483648) : (Int32.ofNat a ≤ Int32.ofNat b) = (a ≤ b) := propext (Int32.ofNat_le_iff_le ha hb)
theorem tn_lt {a b : Nat} (ha : a < 2147483648) (hb : b < 2147483648) : (Int32.ofNat a < Int32.ofNat b) = (a < b) := propext (Int32.ofNat_lt_iff_lt ha hb)
theorem tn_cl {a : Nat} (ha : a < 2147483648) : (Int32.ofNat a).toNatClampNeg = a := Int32.toNatClampNeg_ofNat_of_lt ha
theorem tn_eq {a b : Nat} (ha : a < 2147483648) (hb : b < 2147483648) : (Int32.ofNat a = Int32.ofNat b) = (a = b) := propext ⟨fun h => by rw [← tn_cl ha, ← tn_cl hb, h], fun h => by rw [h]⟩
theorem tn_s {a : Nat} : Int32.ofNat a + 1 = Int32.ofNat (a + 1) := (Int32.ofNat_add a 1).symm
theorem tn_0 {a : Nat} (ha : a < 2147483648) : (0 ≤ Int32.ofNat a) = True := eq_true (Int32.zero_le_ofNat_of_lt ha)
theorem tn_n0 {a : Nat} (ha : a < 2147483648) : (Int32.ofNat a < 0) = False := eq_false (fun h => by rw [← Int32.not_le] at h; exact h (Int32.zero_le_ofNat_of_lt ha))
theorem tn_kin {a n : Nat} (ha : a < 2147483648) : kin (Int32.ofNat a) n = (a < n) := by
  unfold kin; rw [tn_cl ha, tn_n0 ha]; apply propext; constructor
  · intro h; by_cases q : a < n; exact q; exact absurd (Or.inr (Nat.le_of_not_lt q)) h
  · intro h q; rcases q with q | q; exact q; omega
theorem tn_get {p : Int32} (h : 0 ≤ p) : p = Int32.ofNat p.toNatClampNeg := (Int32.ofNat_toNatClampNeg p h).symm
theorem tn_ex {p : Int32} {m : Nat} (hm : m < 2147483648) (h0 : 0 ≤ p) (h1 : p < Int32.ofNat m) : ∃ a, a < m ∧ p = Int32.ofNat a := by
  refine ⟨p.toNatClampNeg, ?_, tn_get h0⟩
  rw [tn_get h0, tn_lt (Int32.toNatClampNeg_lt p) hm] at h1; exact h1
theorem tn_exle {p : Int32} {m : Nat} (hm : m < 2147483648) (h0 : 0 ≤ p) (h1 : p ≤ Int32.ofNat m) : ∃ a, a ≤ m ∧ p = Int32.ofNat a := by
  refine ⟨p.toNatClampNeg, ?_, tn_get h0⟩
  rw [tn_get h0, tn_le (Int32.toNatClampNeg_lt p) hm] at h1; exact h1
def kb (c : Prop) [Decidable c] : Int32 := if c then 1 else 0
theorem kb_0 {c : Prop} [Decidable c] : (kb c = 0) = ¬ c := by
  unfold kb; by_cases h : c <;> simp [h]
theorem kb_ok {c : Prop} [Decidable c] : kbool (kb c) = kb c := by
  unfold kb; by_cases h : c
  · rw [if_pos h]; decide
  · rw [if_neg h]; decide
theorem kb_t {c : Prop} [Decidable c] (h : c) : kb c = 1 := if_pos h
theorem kb_f {c : Prop} [Decidable c] (h : ¬ c) : kb c = 0 := if_neg h
theorem kb_01 {c : Prop} [Decidable c] : kb c = 0 ∨ kb c = 1 := by unfold kb; by_cases h : c <;> simp [h]
theorem kb_c {c e : Prop} [Decidable c] [Decidable e] (h : c ↔ e) : kb c = kb e := by
  unfold kb; by_cases q : c
  · rw [if_pos q, if_pos (h.1 q)]
  · rw [if_neg q, if_neg (fun z => q (h.2 z))]
theorem kbool_0 : (kbool 0 = 0) = True := eq_true (by decide)
theorem kbool_1 : (kbool 1 = 1) = True := eq_true (by decide)
theorem kbool_01 {x : Int32} (h : x = 0 ∨ x = 1) : kbool x = x := by rcases h with rfl | rfl <;> decide
/-- a loop that counts: what has been gathered -/
def kfo {α : Type} (g : Nat → α → α) : Nat → α → α
  | 0, a => a
  | n + 1, a => g n (kfo g n a)
theorem k_for {α : Type} {P : Nat → α → Prop} {g : Nat → α → α} {n : Nat} (h : ∀ x a, x < n → P x a = P (x + 1) (g x a)) (a : α) : P 0 a = P n (kfo g n a) := by
  have : ∀ k, k ≤ n → P 0 a = P k (kfo g k a) := by
    intro k
    induction k with
    | zero => intro _; rfl
    | succ k ih => intro hk; rw [ih (by omega), h k _ (by omega)]; rfl
  exact this n (Nat.le_refl n)
theorem k_forI {α : Type} {P : Nat → α → Prop} {g : Nat → α → α} {n : Nat} {I : Nat → α → Prop} (h : ∀ x a, x < n → I x a → P x a = P (x + 1) (g x a) ∧ I (x + 1) (g x a)) (a : α) (h0 : I 0 a) : P 0 a = P n (kfo g n a) ∧ I n (kfo g n a) := by
  have : ∀ k, k ≤ n → P 0 a = P k (kfo g k a) ∧ I k (kfo g k a) := by
    intro k
    induction k with
    | zero => intro _; exact ⟨rfl, h0⟩
    | succ k ih =>
      intro hk
      have q := ih (by omega)
      have w := h k _ (by omega) q.2
      exact ⟨q.1.trans w.1, w.2⟩
  exact this n (Nat.le_refl n)
theorem kfo_congr {α : Type} {g g2 : Nat → α → α} {n : Nat} {a : α} (h : ∀ x, x < n → ∀ a, g x a = g2 x a) : kfo g n a = kfo g2 n a := by
  induction n with
  | zero => rfl
  | succ n ih => show g n _ = g2 n _; rw [ih (fun x hx => h x (by omega)), h n (by omega)]
theorem kfo_rel {α β : Type} {g : Nat → α → α} {g2 : Nat → β → β} {R : Nat → α → β → Prop} {n : Nat} {a : α} {b : β} (h : ∀ x a b, x < n → R x a b → R (x + 1) (g x a) (g2 x b)) (h0 : R 0 a b) : R n (kfo g n a) (kfo g2 n b) := by
  induction n with
  | zero => exact h0
  | succ n ih => exact h n _ _ (by omega) (ih (fun x a b hx => h x a b (by omega)))
theorem kfo_inv {α : Type} {g : Nat → α → α} {I : Nat → α → Prop} {n : Nat} {a : α} (h : ∀ x a, x < n → I x a → I (x + 1) (g x a)) (h0 : I 0 a) : I n (kfo g n a) := by
  induction n with
  | zero => exact h0
  | succ n ih => exact h n _ (by omega) (ih (fun x a hx => h x a (by omega)))
/-- a loop, goal first -/
theorem k_loop {α : Type} {P : Nat → α → Prop} {I : Nat → α → Prop} {n : Nat} (h : ∀ x a, x < n → I x a → (∀ a2, I (x + 1) a2 → P (x + 1) a2) → P x a) (he : ∀ a, I n a → P n a) (x : Nat) (hx : x ≤ n) (a : α) (h0 : I x a) : P x a := by
  have : ∀ k x, x + k = n → ∀ a, I x a → P x a := by
    intro k
    induction k with
    | zero => intro x hx a ha; have : x = n := by omega
              subst this; exact he a ha
    | succ k ih => intro x hx a ha; exact h x a (by omega) ha (fun a2 h2 => ih (x + 1) (by omega) a2 h2)
  exact this (n - x) x (by omega) a h0
/-- a loop that seeks -/
def kfi (p : Nat → Prop) [DecidablePred p] : Nat → Nat → Option Nat
  | 0, _ => none
  | k + 1, x => if p x then some x else kfi p k (x + 1)
theorem k_findx {P Q : Nat → Prop} {p : Nat → Prop} [DecidablePred p] {n : Nat} (h : ∀ x, x < n → P x = if p x then Q x else P (x + 1)) : ∀ k x, x + k = n → P x = match kfi p k x with | some y => Q y | none => P n := by
  intro k
  induction k with
  | zero => intro x hx; have : x = n := by omega
            subst this; rfl
  | succ k ih =>
    intro x hx
    rw [h x (by omega), kfi]
    by_cases q : p x
    · rw [if_pos q, if_pos q]
    · rw [if_neg q, if_neg q]; exact ih (x + 1) (by omega)
theorem k_find {P Q : Nat → Prop} {p : Nat → Prop} [DecidablePred p] {n : Nat} (h : ∀ x, x < n → P x = if p x then Q x else P (x + 1)) : P 0 = match kfi p n 0 with | some y => Q y | none => P n := k_findx h n 0 (by omega)
theorem kfi_congr {p q : Nat → Prop} [DecidablePred p] [DecidablePred q] : ∀ {k x : Nat}, (∀ z, x ≤ z → z < x + k → (p z ↔ q z)) → kfi p k x = kfi q k x := by
  intro k
  induction k with
  | zero => intro x _; rfl
  | succ k ih =>
    intro x h
    rw [kfi, kfi, ih (fun z h1 h2 => h z (by omega) (by omega))]
    by_cases w : p x
    · rw [if_pos w, if_pos ((h x (by omega) (by omega)).1 w)]
    · rw [if_neg w, if_neg (fun z => w ((h x (by omega) (by omega)).2 z))]
theorem kfi_some {p : Nat → Prop} [DecidablePred p] : ∀ {k x y : Nat}, kfi p k x = some y → x ≤ y ∧ y < x + k ∧ p y := by
  intro k
  induction k with
  | zero => intro x y h; cases h
  | succ k ih =>
    intro x y h
    rw [kfi] at h
    by_cases w : p x
    · rw [if_pos w] at h; cases h; exact ⟨Nat.le_refl _, by omega, w⟩
    · rw [if_neg w] at h; have := ih h; exact ⟨by omega, by omega, this.2.2⟩
theorem kfi_none {p : Nat → Prop} [DecidablePred p] : ∀ {k x : Nat}, kfi p k x = none → ∀ z, x ≤ z → z < x + k → ¬ p z := by
  intro k
  induction k with
  | zero => intro x _ z h1 h2; omega
  | succ k ih =>
    intro x h z h1 h2
    rw [kfi] at h
    by_cases w : p x
    · rw [if_pos w] at h; cases h
    · rw [if_neg w] at h
      by_cases e : z = x
      · subst e; exact w
      · exact ih h z (by omega) (by omega)
theorem kupi_s {i : Nat → Nat → Int32} {a k : Nat} {v : Int32} : kupi i a k v a k = v := by simp [kupi]
theorem kupi_c {i : Nat → Nat → Int32} {a k b j : Nat} {v : Int32} (h : b ≠ a) : kupi i a k v b j = i b j := by simp [kupi, h]
theorem kupi_k {i : Nat → Nat → Int32} {a k b j : Nat} {v : Int32} (h : j ≠ k) : kupi i a k v b j = i b j := by simp [kupi, h]
theorem kupi_cf {i : Nat → Nat → Int32} {a k b : Nat} {v : Int32} (h : b ≠ a) : kupi i a k v b = i b := by funext j; simp [kupi, h]
theorem kupl_s {i : Nat → Nat → Int64} {a k : Nat} {v : Int64} : kupl i a k v a k = v := by simp [kupl]
theorem kupl_c {i : Nat → Nat → Int64} {a k b j : Nat} {v : Int64} (h : b ≠ a) : kupl i a k v b j = i b j := by simp [kupl, h]
theorem kupl_k {i : Nat → Nat → Int64} {a k b j : Nat} {v : Int64} (h : j ≠ k) : kupl i a k v b j = i b j := by simp [kupl, h]
theorem kupl_cf {i : Nat → Nat → Int64} {a k b : Nat} {v : Int64} (h : b ≠ a) : kupl i a k v b = i b := by funext j; simp [kupl, h]
end TN
