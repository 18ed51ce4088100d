/-! a rule's text read by the class -/
section TC
variable {sc : Nat × (Nat → Int32)} {d y nx : Nat} {hd : List (Int × Nat)} {L st : List Value} {S : kS} {cu su : Nat} {i : Nat → Nat → Int32} {l : Nat → Nat → Int64} {f t c b m : Nat} {sp : Nat → Nat} {K : Option (Option Value) → kS → Prop}
variable {N M Z S1 Q A S A2 S2 : Nat → Int32} {n n2 k x a o g c h p to : Nat} {v r q u : Int32} {T : Nat → Int32}
/-- the cells of a rule while it is read -/
def qP (i : Nat → Nat → Int32) (b n : Nat) (A : Nat → Int32) (p : Nat) (S : Nat → Int32) (g h : Nat) (u : Int32) : Nat → Nat → Int32 := fun x j =>
  if x = b ∧ j = 2 then Int32.ofNat n else if x = b ∧ j = 4 then Int32.ofNat p else if x = b ∧ j = 5 then Int32.ofNat g else if x = b ∧ j = 6 then Int32.ofNat h else if x = b ∧ j = 7 then u else if x = b + 1 ∧ j < 40 then A j else if x = b + 2 ∧ j < 40 then S j else i x j
theorem qP_2 : qP i b n A p S g h u b 2 = Int32.ofNat n := by simp [qP]
theorem qP_4 : qP i b n A p S g h u b 4 = Int32.ofNat p := by simp [qP]
theorem qP_5 : qP i b n A p S g h u b 5 = Int32.ofNat g := by simp [qP]
theorem qP_6 : qP i b n A p S g h u b 6 = Int32.ofNat h := by simp [qP]
theorem qP_7 : qP i b n A p S g h u b 7 = u := by simp [qP]
theorem qP_a {x : Nat} (hx : x < 40) : qP i b n A p S g h u (b + 1) x = A x := by simp [qP, hx]
theorem qP_s {x : Nat} (hx : x < 40) : qP i b n A p S g h u (b + 2) x = S x := by simp [qP, hx]
theorem qP_o {x : Nat} (h0 : x ≠ b) (h1 : x ≠ b + 1) (h2 : x ≠ b + 2) : qP i b n A p S g h u x = i x := by funext j; simp [qP, h0, h1, h2]
theorem qP_lo (hf : kRc b = true) {x : Nat} (hx : x < 85) : qP i b n A p S g h u x = i x := by
  rcases kRc_of hf with rfl | rfl <;> exact qP_o (by omega) (by omega) (by omega)
theorem qW_2 : kupi (qP i b n A p S g h u) b 2 (Int32.ofNat k) = qP i b k A p S g h u := by
  funext x j; unfold kupi qP
  by_cases e : x = b ∧ j = 2
  · rw [if_pos e, if_pos e]
  · rw [if_neg e, if_neg e, if_neg e]
theorem qW_4 : kupi (qP i b n A p S g h u) b 4 (Int32.ofNat k) = qP i b n A k S g h u := by
  funext x j; unfold kupi qP
  by_cases e : x = b ∧ j = 4
  · rw [if_pos e, if_neg (by omega), if_pos e]
  · rw [if_neg e, if_neg e, if_neg e]
theorem qW_5 : kupi (qP i b n A p S g h u) b 5 (Int32.ofNat k) = qP i b n A p S k h u := by
  funext x j; unfold kupi qP
  by_cases e : x = b ∧ j = 5
  · rw [if_pos e, if_neg (by omega), if_neg (by omega), if_pos e]
  · rw [if_neg e, if_neg e, if_neg e]
theorem qW_6 : kupi (qP i b n A p S g h u) b 6 (Int32.ofNat k) = qP i b n A p S g k u := by
  funext x j; unfold kupi qP
  by_cases e : x = b ∧ j = 6
  · rw [if_pos e, if_neg (by omega), if_neg (by omega), if_neg (by omega), if_pos e]
  · rw [if_neg e, if_neg e, if_neg e]
theorem qW_7 : kupi (qP i b n A p S g h u) b 7 v = qP i b n A p S g h v := by
  funext x j; unfold kupi qP
  by_cases e : x = b ∧ j = 7
  · rw [if_pos e, if_neg (by omega), if_neg (by omega), if_neg (by omega), if_neg (by omega), if_pos e]
  · rw [if_neg e, if_neg e, if_neg e]
theorem qW_a {x : Nat} (hx : x < 40) : kupi (qP i b n A p S g h u) (b + 1) x v = qP i b n (kuf A x v) p S g h u := by
  funext z j; unfold kupi qP kuf
  by_cases e : z = b + 1
  · subst e
    by_cases ej : j = x
    · subst ej; simp [hx]
    · simp [ej]
  · simp [e]
theorem qW_s {x : Nat} (hx : x < 40) : kupi (qP i b n A p S g h u) (b + 2) x v = qP i b n A p (kuf S x v) g h u := by
  funext z j; unfold kupi qP kuf
  by_cases e : z = b + 2
  · subst e
    by_cases ej : j = x
    · subst ej; simp [hx]
    · simp [ej]
  · simp [e]
theorem kin40 {a : Nat} (h : a < 40) : kin (Int32.ofNat a) 40 = True := by rw [tn_kin (by omega)]; exact eq_true h
theorem n40F {x : Nat} (hx : x < 40) : ((40 : Int32) ≤ Int32.ofNat x) = False := jpF (n := 40) hx (by decide)
theorem q_put {v u : Int32} {n p g h : Nat} {A S : Nat → Int32} (hf : kRc b = true) (hn : n < 40) : kCA sc (d + 1) 55 [.ref b, .int v] y nx hd L st ((120, cu, su), qP i b n A p S g h u, l, kR f t sp) K = kWP sc (d + 1) y nx L st ((120, cu, su), qP i b (n + 1) (kuf A n v) p S g h u, l, kR f t sp) K := by
  refine kCA_of (d := d) (v := none) (S2 := ((120, cu, su), qP i b (n + 1) (kuf A n v) p S g h u, l, kR f t sp)) (fun K => ?_)
  rw [km_55]
  show kWP sc (d) 55 0 [.ref b, .int v] [] ((120, cu, su), qP i b n A p S g h u, l, kR f t sp) K = K (some (none)) ((120, cu, su), qP i b (n + 1) (kuf A n v) p S g h u, l, kR f t sp)
  simp only [e_X5_put_0, e_X5_put_1, e_X5_put_4, e_X5_put_6, e_X5_put_9, e_X5_put_10, e_X5_put_13, e_X5_put_14, e_X5_put_17, e_X5_put_18, e_X5_put_19, e_X5_put_20, e_X5_put_21, e_X5_put_24, e_X5_put_25, e_X5_put_26, e_X5_put_29, ob_r hf, rk_r1 hf, ar_r1 hf, kcl_i, kcl_r, kcl_l, kcl_0, kcl_n, true_and, and_true, qP_2, n40F hn, if_false, kin40 hn, cl_n (show n < 100000 by omega), qW_a hn, tn_s, qW_2, true_and]
theorem q_push {v u : Int32} {n p g h : Nat} {A S : Nat → Int32} (hf : kRc b = true) (hp : p < 40) : kCA sc (d + 1) 53 [.ref b, .int v] y nx hd L st ((120, cu, su), qP i b n A p S g h u, l, kR f t sp) K = kWP sc (d + 1) y nx L st ((120, cu, su), qP i b n A (p + 1) (kuf S p v) g h u, l, kR f t sp) K := by
  refine kCA_of (d := d) (v := none) (S2 := ((120, cu, su), qP i b n A (p + 1) (kuf S p v) g h u, l, kR f t sp)) (fun K => ?_)
  rw [km_53]
  show kWP sc (d) 53 0 [.ref b, .int v] [] ((120, cu, su), qP i b n A p S g h u, l, kR f t sp) K = K (some (none)) ((120, cu, su), qP i b n A (p + 1) (kuf S p v) g h u, l, kR f t sp)
  simp only [e_X5_push_0, e_X5_push_1, e_X5_push_4, e_X5_push_6, e_X5_push_9, e_X5_push_10, e_X5_push_13, e_X5_push_14, e_X5_push_17, e_X5_push_18, e_X5_push_19, e_X5_push_20, e_X5_push_21, e_X5_push_24, e_X5_push_25, e_X5_push_26, e_X5_push_29, ob_r hf, rk_r3 hf, ar_r2 hf, kcl_i, kcl_r, kcl_l, kcl_0, kcl_n, true_and, and_true, qP_4, n40F hp, if_false, kin40 hp, cl_n (show p < 100000 by omega), qW_s hp, tn_s, qW_4, true_and]
theorem q_pop {u : Int32} {n p g h : Nat} {A S : Nat → Int32} (hf : kRc b = true) (hp : p < 40) : kCA sc (d + 1) 54 [.ref b] y nx hd L st ((120, cu, su), qP i b n A (p + 1) S g h u, l, kR f t sp) K = kWP sc (d + 1) y nx L (.int (S p) :: st) ((120, cu, su), qP i b n A p S g h u, l, kR f t sp) K := by
  refine kCA_of (d := d) (v := some (.int (S p))) (S2 := ((120, cu, su), qP i b n A p S g h u, l, kR f t sp)) (fun K => ?_)
  rw [km_54]
  show kWP sc (d) 54 0 [.ref b] [] ((120, cu, su), qP i b n A (p + 1) S g h u, l, kR f t sp) K = K (some (some (.int (S p)))) ((120, cu, su), qP i b n A p S g h u, l, kR f t sp)
  have e : (Int32.ofNat (p + 1) = 0) = False := by rw [tn_z (by omega)]; exact eq_false (by omega)
  simp only [e_X5_pop_0, e_X5_pop_1, e_X5_pop_4, e_X5_pop_7, e_X5_pop_8, e_X5_pop_9, e_X5_pop_10, e_X5_pop_11, e_X5_pop_14, e_X5_pop_15, e_X5_pop_16, e_X5_pop_19, e_X5_pop_20, e_X5_pop_23, e_X5_pop_24, e_X5_pop_27, e_X5_pop_28, ob_r hf, rk_r3 hf, ar_r2 hf, kcl_i, kcl_r, kcl_l, kcl_0, kcl_n, true_and, and_true, qP_4, e, if_false, sub1, qW_4, kin40 hp, cl_n (show p < 100000 by omega), qP_s hp, true_and]
def wai (p : Nat) (S : Nat → Int32) : Int32 := if p = 0 then -1 else S (p - 1)
theorem q_waiting {u : Int32} {n p g h : Nat} {A S : Nat → Int32} (hf : kRc b = true) (hp : p ≤ 40) : kCA sc (d + 1) 52 [.ref b] y nx hd L st ((120, cu, su), qP i b n A p S g h u, l, kR f t sp) K = kWP sc (d + 1) y nx L (.int (wai p S) :: st) ((120, cu, su), qP i b n A p S g h u, l, kR f t sp) K := by
  refine kCA_of (d := d) (v := some (.int (wai p S))) (S2 := ((120, cu, su), qP i b n A p S g h u, l, kR f t sp)) (fun K => ?_)
  rw [km_52]
  show kWP sc (d) 52 0 [.ref b] [] ((120, cu, su), qP i b n A p S g h u, l, kR f t sp) K = K (some (some (.int (wai p S)))) ((120, cu, su), qP i b n A p S g h u, l, kR f t sp)
  unfold wai
  by_cases c : p = 0
  · subst c
    simp only [e_X5_waiting_0, e_X5_waiting_1, e_X5_waiting_4, e_X5_waiting_7, e_X5_waiting_8, e_X5_waiting_11, e_X5_waiting_12, e_X5_waiting_15, e_X5_waiting_16, e_X5_waiting_17, e_X5_waiting_18, e_X5_waiting_21, e_X5_waiting_22, ob_r hf, rk_r3 hf, ar_r2 hf, kcl_i, kcl_r, kcl_l, kcl_0, kcl_n, true_and, and_true, qP_4, le0_nat (show 0 < 100000 by decide), Nat.lt_irrefl, not_false_eq_true, if_true]
  · have e : (0 < p) = True := eq_true (by omega)
    simp only [e_X5_waiting_0, e_X5_waiting_1, e_X5_waiting_4, e_X5_waiting_7, e_X5_waiting_8, e_X5_waiting_11, e_X5_waiting_12, e_X5_waiting_15, e_X5_waiting_16, e_X5_waiting_17, e_X5_waiting_18, e_X5_waiting_21, e_X5_waiting_22, ob_r hf, rk_r3 hf, ar_r2 hf, kcl_i, kcl_r, kcl_l, kcl_0, kcl_n, true_and, and_true, qP_4, le0_nat (show p < 100000 by omega), e, not_true_eq_false, if_false, tn_sub (show 0 < p by omega), kin40 (show p - 1 < 40 by omega), cl_n (show p - 1 < 100000 by omega), qP_s (show p - 1 < 40 by omega), c, true_and]
theorem q_bond {v : Int32} : kCA sc (d + 1) 51 [.int v] y nx hd L st ((120, cu, su), i, l, kR f t sp) K = kWP sc (d + 1) y nx L (.int (Int32.ofNat (bnd v)) :: st) ((120, cu, su), i, l, kR f t sp) K := by
  refine kCA_of (d := d) (v := some (.int (Int32.ofNat (bnd v)))) (S2 := ((120, cu, su), i, l, kR f t sp)) (fun K => ?_)
  rw [km_51]
  show kWP sc (d) 51 0 [.int v] [] ((120, cu, su), i, l, kR f t sp) K = K (some (some (.int (Int32.ofNat (bnd v))))) ((120, cu, su), i, l, kR f t sp)
  simp only [e_X5_bondOf_0, e_X5_bondOf_1, e_X5_bondOf_76, e_X5_bondOf_77, e_X5_bondOf_78, e_X5_bondOf_79, e_X5_bondOf_80, e_X5_bondOf_81, e_X5_bondOf_82, e_X5_bondOf_83, e_X5_bondOf_84, e_X5_bondOf_85, kcl_i, kcl_r, kcl_l, kcl_0, kcl_n, true_and, and_true]
  unfold bnd
  by_cases q1 : v = 2042
  · subst q1; rfl
  by_cases q2 : v = 2043
  · subst q2; rfl
  by_cases q3 : v = 2045
  · subst q3; rfl
  by_cases q4 : v = 2047
  · subst q4; rfl
  by_cases q5 : v = 2060
  · subst q5; rfl
  by_cases q6 : v = 2061
  · subst q6; rfl
  by_cases q7 : v = 2062
  · subst q7; rfl
  by_cases q8 : v = 3000
  · subst q8; rfl
  simp only [q1, q2, q3, q4, q5, q6, q7, q8, if_false, or_self]
  rfl
theorem bnd_le {v : Int32} : bnd v ≤ 4 := by unfold bnd; split; decide; split; decide; split; decide; split; decide; decide
theorem bnd_1 : bnd (-1) = 0 := by decide
/-- what release leaves -/
def relF (k : Nat) (S : Nat → Int32) : Nat → Nat → (Nat → Int32) → Nat × Nat × (Nat → Int32)
  | 0, n, A => (0, n, A)
  | p + 1, n, A => if k ≤ bnd (S p) then relF k S p (n + 1) (kuf A n (S p)) else (p + 1, n, A)
theorem relF_L : ∀ {p n : Nat} {A : Nat → Int32}, rel k (SL p S) (SL n A) = (SL (relF k S p n A).1 S, SL (relF k S p n A).2.1 (relF k S p n A).2.2) := by
  intro p
  induction p with
  | zero => intro n A; rfl
  | succ p ih =>
    intro n A
    show (if k ≤ bnd (S p) then rel k (SL p S) (S p :: SL n A) else (S p :: SL p S, SL n A)) = _
    rw [relF]
    by_cases c : k ≤ bnd (S p)
    · rw [if_pos c, if_pos c, ← ih, SL_p]
    · rw [if_neg c, if_neg c]; rfl
theorem relF_le : ∀ {p n : Nat} {A : Nat → Int32}, (relF k S p n A).1 + (relF k S p n A).2.1 = p + n ∧ (relF k S p n A).1 ≤ p := by
  intro p
  induction p with
  | zero => intro n A; exact ⟨rfl, Nat.le_refl _⟩
  | succ p ih =>
    intro n A
    rw [relF]
    by_cases c : k ≤ bnd (S p)
    · rw [if_pos c]
      have := @ih (n + 1) (kuf A n (S p))
      omega
    · rw [if_neg c]; exact ⟨rfl, Nat.le_refl _⟩
theorem l_release (hf : kRc b = true) (hk : 1 ≤ k ∧ k ≤ 4) : ∀ {p n x : Nat} {A : Nat → Int32}, p + n ≤ 40 → x + p ≤ 40 → kWP sc (d + 1) 50 2 [.ref b, .int (Int32.ofNat k), .int (Int32.ofNat x)] [] ((120, cu, su), qP i b n A p S g h u, l, kR f t sp) K = K (some none) ((120, cu, su), qP i b (relF k S p n A).2.1 (relF k S p n A).2.2 (relF k S p n A).1 S g h u, l, kR f t sp) := by
  intro p
  induction p with
  | zero =>
    intro n x A h1 h2
    refine e_X5_release_2.trans ?_
    by_cases c : x < 40
    · have e : wai 0 S = -1 := rfl
      simp only [e_X5_release_0, e_X5_release_1, e_X5_release_3, e_X5_release_5, e_X5_release_8, e_X5_release_9, e_X5_release_12, e_X5_release_15, e_X5_release_16, e_X5_release_19, e_X5_release_20, e_X5_release_21, e_X5_release_24, e_X5_release_27, e_X5_release_30, e_X5_release_33, ob_r hf, kcl_i, kcl_r, kcl_l, kcl_0, kcl_n, true_and, and_true, n40F c, if_false, q_waiting hf (show 0 ≤ 40 by decide), e, q_bond, bnd_1, tn_lt (show 0 < 2147483648 by decide) (show k < 2147483648 by omega), show (0 < k) = True from eq_true (by omega), if_true]
      rfl
    · have e : x = 40 := by omega
      subst e
      simp only [e_X5_release_0, e_X5_release_1, e_X5_release_3, e_X5_release_5, e_X5_release_8, e_X5_release_9, e_X5_release_12, e_X5_release_15, e_X5_release_16, e_X5_release_19, e_X5_release_20, e_X5_release_21, e_X5_release_24, e_X5_release_27, e_X5_release_30, e_X5_release_33, ob_r hf, kcl_i, kcl_r, kcl_l, kcl_0, kcl_n, true_and, and_true, show ((40 : Int32) ≤ Int32.ofNat 40) = True from eq_true (by decide), if_true]
      rfl
  | succ p ih =>
    intro n x A h1 h2
    have e : wai (p + 1) S = S p := rfl
    refine e_X5_release_2.trans ?_
    rw [relF]
    have hb := @bnd_le (S p)
    by_cases c : k ≤ bnd (S p)
    · have c2 : (bnd (S p) < k) = False := eq_false (by omega)
      simp only [e_X5_release_0, e_X5_release_1, e_X5_release_3, e_X5_release_5, e_X5_release_8, e_X5_release_9, e_X5_release_12, e_X5_release_15, e_X5_release_16, e_X5_release_19, e_X5_release_20, e_X5_release_21, e_X5_release_24, e_X5_release_27, e_X5_release_30, e_X5_release_33, ob_r hf, kcl_i, kcl_r, kcl_l, kcl_0, kcl_n, true_and, and_true, n40F (show x < 40 by omega), if_false, q_waiting hf (show p + 1 ≤ 40 by omega), e, q_bond, tn_lt (show bnd (S p) < 2147483648 by omega) (show k < 2147483648 by omega), c2, q_pop hf (show p < 40 by omega), q_put hf (show n < 40 by omega), tn_s, c, if_true]
      exact ih (by omega) (by omega)
    · have c2 : (bnd (S p) < k) = True := eq_true (by omega)
      simp only [e_X5_release_0, e_X5_release_1, e_X5_release_3, e_X5_release_5, e_X5_release_8, e_X5_release_9, e_X5_release_12, e_X5_release_15, e_X5_release_16, e_X5_release_19, e_X5_release_20, e_X5_release_21, e_X5_release_24, e_X5_release_27, e_X5_release_30, e_X5_release_33, ob_r hf, kcl_i, kcl_r, kcl_l, kcl_0, kcl_n, true_and, and_true, n40F (show x < 40 by omega), if_false, q_waiting hf (show p + 1 ≤ 40 by omega), e, q_bond, tn_lt (show bnd (S p) < 2147483648 by omega) (show k < 2147483648 by omega), c2, if_true, c]
theorem q_release {u : Int32} {n p g h k : Nat} {A S : Nat → Int32} (hf : kRc b = true) (hk : 1 ≤ k ∧ k ≤ 4) (hp : p + n ≤ 40) : kCA sc (d + 2) 50 [.ref b, .int (Int32.ofNat k)] y nx hd L st ((120, cu, su), qP i b n A p S g h u, l, kR f t sp) K = kWP sc (d + 2) y nx L st ((120, cu, su), qP i b (relF k S p n A).2.1 (relF k S p n A).2.2 (relF k S p n A).1 S g h u, l, kR f t sp) K := by
  refine kCA_of (d := d + 1) (v := none) (S2 := ((120, cu, su), qP i b (relF k S p n A).2.1 (relF k S p n A).2.2 (relF k S p n A).1 S g h u, l, kR f t sp)) (fun K => ?_)
  rw [km_50]
  show kWP sc (d + 1) 50 0 [.ref b, .int (Int32.ofNat k), .retAddr 0] [] ((120, cu, su), qP i b n A p S g h u, l, kR f t sp) K = K (some (none)) ((120, cu, su), qP i b (relF k S p n A).2.1 (relF k S p n A).2.2 (relF k S p n A).1 S g h u, l, kR f t sp)
  simp only [e_X5_release_0, e_X5_release_1, e_X5_release_3, e_X5_release_5, e_X5_release_8, e_X5_release_9, e_X5_release_12, e_X5_release_15, e_X5_release_16, e_X5_release_19, e_X5_release_20, e_X5_release_21, e_X5_release_24, e_X5_release_27, e_X5_release_30, e_X5_release_33, ob_r hf, kcl_i, kcl_r, kcl_l, kcl_0, kcl_n, true_and, and_true]
  exact l_release (x := 0) hf hk hp (by omega)
theorem q_isLetter {v : Int32} : kCA sc (d + 1) 56 [.int v] y nx hd L st ((120, cu, su), i, l, kR f t sp) K = kWP sc (d + 1) y nx L (.int (kb (isLe v = true)) :: st) ((120, cu, su), i, l, kR f t sp) K := by
  refine kCA_of (d := d) (v := some (.int (kb (isLe v = true)))) (S2 := ((120, cu, su), i, l, kR f t sp)) (fun K => ?_)
  rw [km_56]
  show kWP sc (d) 56 0 [.int v] [] ((120, cu, su), i, l, kR f t sp) K = K (some (some (.int (kb (isLe v = true))))) ((120, cu, su), i, l, kR f t sp)
  simp only [e_X5_isLetter_0, e_X5_isLetter_1, e_X5_isLetter_3, e_X5_isLetter_6, e_X5_isLetter_7, e_X5_isLetter_9, e_X5_isLetter_12, e_X5_isLetter_13, e_X5_isLetter_15, e_X5_isLetter_18, e_X5_isLetter_19, e_X5_isLetter_21, e_X5_isLetter_24, e_X5_isLetter_25, e_X5_isLetter_27, e_X5_isLetter_30, e_X5_isLetter_31, e_X5_isLetter_33, e_X5_isLetter_36, e_X5_isLetter_37, e_X5_isLetter_39, e_X5_isLetter_42, e_X5_isLetter_43, e_X5_isLetter_46, e_X5_isLetter_47, kcl_i, kcl_r, kcl_l, kcl_0, kcl_n, true_and, and_true, kbool_0, kbool_1]
  have e : (isLe v = true) ↔ (v = 119 ∨ v = 98 ∨ v = 116 ∨ v = 112 ∨ v = 104 ∨ v = 109 ∨ v = 108) := by unfold isLe; exact decide_eq_true_iff
  rw [kb_c e]
  unfold kb
  by_cases q1 : v = 119
  · simp [q1]
  by_cases q2 : v = 98
  · simp [q2]
  by_cases q3 : v = 116
  · simp [q3]
  by_cases q4 : v = 112
  · simp [q4]
  by_cases q5 : v = 104
  · simp [q5]
  by_cases q6 : v = 109
  · simp [q6]
  by_cases q7 : v = 108
  · simp [q7]
  simp [q1, q2, q3, q4, q5, q6, q7]
end TC
