/-! a rule's text: the signs one by one, and the lists that they leave -/
section TC
variable {T S A : Nat → Int32} {k n p x a o g c h : Nat} {v : Int32} {s w : List Int32}
def bnd (v : Int32) : Nat := if v = 2042 ∨ v = 2047 then 3 else if v = 2043 ∨ v = 2045 then 2 else if v = 2060 ∨ v = 2061 ∨ v = 2062 then 1 else if v = 3000 then 4 else 0
/-- the cells below p, the latest first -/
def SL : Nat → (Nat → Int32) → List Int32
  | 0, _ => []
  | p + 1, S => S p :: SL p S
theorem SL_c {S2 : Nat → Int32} : ∀ {p}, (∀ j, j < p → S j = S2 j) → SL p S = SL p S2 := by
  intro p
  induction p with
  | zero => intro _; rfl
  | succ p ih => intro h; show S p :: SL p S = S2 p :: SL p S2; rw [h p (by omega), ih (fun j hj => h j (by omega))]
theorem SL_k (hp : p ≤ k) : SL p (kuf S k v) = SL p S := SL_c (fun j hj => by rw [kuf_n (by omega)])
theorem SL_p : SL (p + 1) (kuf S p v) = v :: SL p S := by
  show kuf S p v p :: SL p (kuf S p v) = _
  rw [kuf_s, SL_k (Nat.le_refl _)]
theorem SL_len : ∀ {p}, (SL p S).length = p := by
  intro p
  induction p with
  | zero => rfl
  | succ p ih => show (S p :: SL p S).length = p + 1; rw [List.length_cons, ih]
theorem SL_inj {S2 : Nat → Int32} : ∀ {p}, SL p S = SL p S2 → ∀ j, j < p → S j = S2 j := by
  intro p
  induction p with
  | zero => intro _ j hj; omega
  | succ p ih =>
    intro h j hj
    have h' : S p :: SL p S = S2 p :: SL p S2 := h
    injection h' with h1 h2
    by_cases e : j = p
    · rw [e]; exact h1
    · exact ih h2 j (by omega)
theorem SL_map {f : Int32 → Int32} : ∀ {p}, (SL p S).map f = SL p (fun j => f (S j)) := by
  intro p
  induction p with
  | zero => rfl
  | succ p ih => show (S p :: SL p S).map f = f (S p) :: SL p (fun j => f (S j)); rw [List.map_cons, ih]
def topb : List Int32 → Nat
  | [] => 0
  | a :: _ => bnd a
/-- those that bind no less are put -/
def rel (k : Nat) : List Int32 → List Int32 → List Int32 × List Int32
  | [], w => ([], w)
  | a :: s, w => if k ≤ bnd a then rel k s (a :: w) else (a :: s, w)
theorem rel_t (h : topb s < k) : rel k s w = (s, w) := by
  cases s with
  | nil => rfl
  | cons a s => unfold rel; rw [if_neg (by have : bnd a < k := h; omega)]
theorem rel_c {a : Int32} (h : k ≤ bnd a) : rel k (a :: s) w = rel k s (a :: w) := by
  show (if k ≤ bnd a then rel k s (a :: w) else (a :: s, w)) = _
  rw [if_pos h]
theorem rel_rel {k2 : Nat} (hk : k ≤ k2) : ∀ {s w : List Int32}, rel k (rel k2 s w).1 (rel k2 s w).2 = rel k s w := by
  intro s
  induction s with
  | nil => intro w; rfl
  | cons a s ih =>
    intro w
    by_cases c : k2 ≤ bnd a
    · rw [rel_c c, rel_c (show k ≤ bnd a by omega)]; exact ih
    · have : rel k2 (a :: s) w = (a :: s, w) := by
        show (if k2 ≤ bnd a then rel k2 s (a :: w) else (a :: s, w)) = _
        rw [if_neg c]
      rw [this]
theorem rel_of {k2 : Nat} {s2 w2 : List Int32} (h : rel k2 s w = (s2, w2)) (hk : k ≤ k2) : rel k s w = rel k s2 w2 := by
  rw [← rel_rel hk, h]
theorem bnd_m : bnd 3000 = 4 := by decide
theorem rel_m (hk : k ≤ 4) : ∀ {n : Nat} {w : List Int32}, rel k (List.replicate n 3000 ++ s) w = rel k s (List.replicate n 3000 ++ w) := by
  intro n
  induction n with
  | zero => intro w; rfl
  | succ n ih =>
    intro w
    show rel k (3000 :: (List.replicate n 3000 ++ s)) w = _
    rw [rel_c (by rw [bnd_m]; exact hk), ih]
    have : List.replicate n (3000 : Int32) ++ 3000 :: w = List.replicate (n + 1) 3000 ++ w := by
      rw [List.replicate_succ', List.append_assoc]; rfl
    rw [this]
abbrev LT := List Int32 × List Int32 × Nat × Nat × Bool
def isLe (v : Int32) : Bool := decide (v = 119 ∨ v = 98 ∨ v = 116 ∨ v = 112 ∨ v = 104 ∨ v = 109 ∨ v = 108)
/-- a sign taken; none: it can't stand there -/
def stepP (w s : List Int32) (g h : Nat) (v : Int32) : Option LT :=
  if v = 45 then some (w, 3000 :: s, g, h, true)
  else if v = 40 then (if g < 4 then some (w, 40 :: s, g + 1, h, true) else none)
  else if isDg v = true then some ((v - 48) :: w, s, g, 1, false)
  else if isLe v = true then some ((1000 + v) :: w, s, g, 0, false) else none
def stepJ (w s : List Int32) (g h : Nat) (v : Int32) : Option LT :=
  if isDg v = true then (if 1 ≤ h ∧ h ≤ 2 then (match w with | [] => none | a :: r => some ((a * 10 + (v - 48)) :: r, s, g, h + 1, false)) else none)
  else if v = 41 then (if g = 0 then none else some ((rel 1 s w).2, (rel 1 s w).1.tail, g - 1, 0, false))
  else if bnd (2000 + v) = 0 then none
  else if bnd (2000 + v) = 1 then (if topb (rel 2 s w).1 = 1 then none else some ((rel 2 s w).2, (2000 + v) :: (rel 2 s w).1, g, 0, true))
  else some ((rel (bnd (2000 + v)) s w).2, (2000 + v) :: (rel (bnd (2000 + v)) s w).1, g, 0, true)
def stepL (s : LT) (v : Int32) : Option LT := match s with
  | (w, s, g, h, true) => stepP w s g h v
  | (w, s, g, h, false) => stepJ w s g h v
def goL (T : Nat → Int32) : Nat → Nat → LT → Option LT
  | 0, _, s => some s
  | k + 1, x, s => match stepL s (T x) with
    | none => none
    | some s2 => goL T k (x + 1) s2
theorem goL_add {s s2 : LT} : ∀ {a x : Nat} {s : LT}, goL T a x s = some s2 → goL T (a + c) x s = goL T c (x + a) s2 := by
  intro a
  induction a with
  | zero => intro x s h; cases h; rw [Nat.zero_add]; rfl
  | succ a ih =>
    intro x s h
    rw [show a + 1 + c = (a + c) + 1 by omega]
    have h' : (match stepL s (T x) with | none => none | some s2 => goL T a (x + 1) s2) = some s2 := h
    show (match stepL s (T x) with | none => none | some s2 => goL T (a + c) (x + 1) s2) = _
    cases e : stepL s (T x) with
    | none => rw [e] at h'; cases h'
    | some s3 =>
      rw [e] at h'
      show goL T (a + c) (x + 1) s3 = _
      rw [ih h', show x + 1 + a = x + (a + 1) by omega]
theorem goL_1 {s s2 : LT} (h : stepL s (T x) = some s2) : goL T 1 x s = some s2 := by
  show (match stepL s (T x) with | none => none | some s2 => goL T 0 (x + 1) s2) = _
  rw [h]; rfl
/-- from x to a place, then to another -/
theorem goL_to {s s2 s3 : LT} {x1 x2 : Nat} (h1 : x ≤ x1) (h2 : x1 ≤ x2) (a : goL T (x1 - x) x s = some s2) (b : goL T (x2 - x1) x1 s2 = some s3) : goL T (x2 - x) x s = some s3 := by
  have := goL_add (c := x2 - x1) (s := s) a
  rw [show x1 - x + (x2 - x1) = x2 - x by omega, show x + (x1 - x) = x1 by omega] at this
  rw [this]; exact b
/-- a code's numbers fit -/
def depL : List Int32 → Nat
  | [] => 0
  | c :: r => if c = 3000 then depL r else if c < 2000 then depL r + 1 else depL r - 1
def okC : List Int32 → Prop
  | [] => True
  | c :: r => okC r ∧ (c = 3000 → 1 ≤ depL r) ∧ (¬ c = 3000 → ¬ c < 2000 → 2 ≤ depL r ∧ c < 2007) ∧ (c < 2000 → ¬ c < 1000 → c < 1007)
theorem dep_SL {code : Nat → Int32} : ∀ k, depL (SL k code) = rDep code k := by
  intro k
  induction k with
  | zero => rfl
  | succ k ih =>
    show (if code k = 3000 then depL (SL k code) else if code k < 2000 then depL (SL k code) + 1 else depL (SL k code) - 1) = _
    rw [ih]; rfl
theorem ok_SL {code : Nat → Int32} : ∀ {n}, okC (SL n code) → rWf code n ∧ ∀ x, x < n → ¬ code x < 2000 → ¬ code x = 3000 → code x < 2007 := by
  intro n
  induction n with
  | zero => intro _; exact ⟨fun k hk => absurd hk (Nat.not_lt_zero k), fun k hk => absurd hk (Nat.not_lt_zero k)⟩
  | succ n ih =>
    intro h
    obtain ⟨h1, h2, h3, h4⟩ := h
    rw [dep_SL] at h2 h3
    obtain ⟨i1, i2⟩ := ih h1
    refine ⟨fun k hk => ?_, fun k hk a b => ?_⟩
    · by_cases e : k = n
      · rw [e]; exact ⟨h2, fun a b => (h3 a b).1, h4⟩
      · exact i1 k (by omega)
    · by_cases e : k = n
      · rw [e] at a b ⊢; exact (h3 b a).2
      · exact i2 k (by omega) a b
end TC
