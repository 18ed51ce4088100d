/-! fractions, lots -/
section TC
variable {sc : Nat × (Nat → Int32)} {d y nx : Nat} {hd : List (Int × Nat)} {L st : List Value} {S : kS} {cu su : Nat} {i : Nat → Nat → Int32} {l : Nat → Nat → Int64} {f t c b m : Nat} {sp : Nat → Nat} {K : Option (Option Value) → kS → Prop}
variable {N M Z S1 Q A : Nat → Int32} {i1 i2 i3 : Nat → Nat → Int32} {l2 : Nat → Nat → Int64} {n n2 k x a o g : Nat} {v r p q : Int32} {zs zs2 : List Int64}
/-- the greatest number that divides both, step by step -/
def eS (p : Nat × Nat) : Nat × Nat := if p.2 = 0 then p else (p.2, p.1 % p.2)
def eN : Nat → Nat × Nat → Nat × Nat
  | 0, p => p
  | s + 1, p => eN s (eS p)
theorem eN_s : ∀ (s : Nat) (p : Nat × Nat), eN (s + 1) p = eS (eN s p) := by
  intro s
  induction s with
  | zero => intro p; rfl
  | succ s ih => intro p; show eN (s + 1) (eS p) = _; rw [ih]; rfl
theorem eS_gcd {p : Nat × Nat} : Nat.gcd (eS p).1 (eS p).2 = Nat.gcd p.1 p.2 := by
  unfold eS
  by_cases h : p.2 = 0
  · rw [if_pos h]
  · rw [if_neg h]
    show Nat.gcd p.2 (p.1 % p.2) = _
    rw [Nat.gcd_comm p.1 p.2, Nat.gcd_rec p.2 p.1, Nat.gcd_comm]
theorem eN_gcd : ∀ (s : Nat) (p : Nat × Nat), Nat.gcd (eN s p).1 (eN s p).2 = Nat.gcd p.1 p.2 := by
  intro s
  induction s with
  | zero => intro p; rfl
  | succ s ih => intro p; show Nat.gcd (eN s (eS p)).1 (eN s (eS p)).2 = _; rw [ih, eS_gcd]
theorem eN_0 : ∀ (s : Nat) {p : Nat × Nat}, p.2 = 0 → eN s p = p := by
  intro s
  induction s with
  | zero => intro p _; rfl
  | succ s ih =>
    intro p h
    show eN s (eS p) = p
    have : eS p = p := by unfold eS; rw [if_pos h]
    rw [this]; exact ih h
theorem half_mod {r s : Nat} (h0 : 0 < s) (h : s < r) : 2 * (r % s) < r := by
  have h1 := Nat.mod_lt r h0
  have h2 := Nat.div_add_mod r s
  have h3 : 1 ≤ r / s := Nat.div_pos (by omega) h0
  have h4 : s * 1 ≤ s * (r / s) := Nat.mul_le_mul_left s h3
  omega
theorem eN_fin : ∀ (k : Nat) (p : Nat × Nat), p.2 < 2 ^ k → (eN (2 * k) p).2 = 0 := by
  intro k
  induction k with
  | zero => intro p h; have : p.2 = 0 := by omega
            rw [eN_0 _ this]; exact this
  | succ k ih =>
    intro p h
    show (eN (2 * k) (eS (eS p))).2 = 0
    apply ih
    by_cases h0 : p.2 = 0
    · have : eS p = p := by unfold eS; rw [if_pos h0]
      rw [this, this, h0]; exact Nat.pow_pos (by decide)
    · have e1 : eS p = (p.2, p.1 % p.2) := by unfold eS; rw [if_neg h0]
      rw [e1]
      have hl := Nat.mod_lt p.1 (show p.2 > 0 by omega)
      by_cases h1 : p.1 % p.2 = 0
      · have : eS (p.2, p.1 % p.2) = (p.2, p.1 % p.2) := by unfold eS; rw [if_pos h1]
        rw [this]; show p.1 % p.2 < _; rw [h1]; exact Nat.pow_pos (by decide)
      · have : eS (p.2, p.1 % p.2) = (p.1 % p.2, p.2 % (p.1 % p.2)) := by unfold eS; rw [if_neg h1]
        rw [this]
        show p.2 % (p.1 % p.2) < 2 ^ k
        have := half_mod (r := p.2) (s := p.1 % p.2) (by omega) hl
        rw [Nat.pow_succ] at h
        omega
theorem eN_130 {p : Nat × Nat} (h : p.2 < 2 ^ 63) : (eN 130 p).2 = 0 := eN_fin 65 p (Nat.lt_trans h (by decide))
theorem eN_lt : ∀ (s : Nat) (p : Nat × Nat) (B : Nat), p.1 < B → p.2 < B → (eN s p).1 < B ∧ (eN s p).2 < B := by
  intro s
  induction s with
  | zero => intro p B h1 h2; exact ⟨h1, h2⟩
  | succ s ih =>
    intro p B h1 h2
    apply ih
    · unfold eS; split
      · exact h1
      · exact h2
    · unfold eS; split
      · exact h2
      · rename_i h0
        show p.1 % p.2 < B
        exact Nat.lt_trans (Nat.mod_lt _ (by omega)) h2
theorem lm_nat {c r : Nat} (hc : c < 2 ^ 63) (hr : r < 2 ^ 63) : Int64.ofNat c - Int64.ofNat c / Int64.ofNat r * Int64.ofNat r = Int64.ofNat (c % r) := by
  rw [← Int64.ofNat_div hc hr, ← Int64.ofNat_mul, ← Int64.ofNat_sub _ _ (Nat.div_mul_le_self c r)]
  congr 1
  have := Nat.div_add_mod c r
  rw [Nat.mul_comm] at this
  omega
theorem l_eq {a b : Nat} (ha : a < 2 ^ 63) (hb : b < 2 ^ 63) : (Int64.ofNat a = Int64.ofNat b) = (a = b) := by
  apply propext
  constructor
  · intro h
    have h2 := congrArg Int64.toNatClampNeg h
    rw [Int64.toNatClampNeg_ofNat_of_lt ha, Int64.toNatClampNeg_ofNat_of_lt hb] at h2; exact h2
  · intro h; rw [h]
theorem l_0 {a : Nat} (ha : a < 2 ^ 63) : (Int64.ofNat a = 0) = (a = 0) := l_eq (b := 0) ha (by decide)
def eJ (w u : Nat) : Nat → Value
  | 0 => .retAddr 0
  | x + 1 => .long (Int64.ofNat (eN (x + 1) (w, u)).2)
theorem c_addFraction {n u w : Nat} (hn : n + 2 ≤ 128) (hu : u < 2 ^ 63) (hw : w < 2 ^ 63) (hw0 : 0 < w) : kCA sc (d + 2) 42 [.ref 3, .long (Int64.ofNat u), .long (Int64.ofNat w)] y nx hd L st ((120, cu, su), wPut i n, l, kR f t sp) K = kWP sc (d + 2) y nx L st ((120, cu, su), wPut i (n + 2), kupl (kupl l 4 n (Int64.ofNat (u / Nat.gcd u w))) 4 (n + 1) (Int64.ofNat (w / Nat.gcd u w)), kR f t sp) K := by
  refine kCA_of (d := d + 1) (v := none) (S2 := ((120, cu, su), wPut i (n + 2), kupl (kupl l 4 n (Int64.ofNat (u / Nat.gcd u w))) 4 (n + 1) (Int64.ofNat (w / Nat.gcd u w)), kR f t sp)) (fun K => ?_)
  rw [km_42]
  show kWP sc (d + 1) 42 0 [.ref 3, .long (Int64.ofNat u), .retAddr 0, .long (Int64.ofNat w), .retAddr 0, .retAddr 0, .retAddr 0, .retAddr 0, .retAddr 0, .retAddr 0, .retAddr 0, .retAddr 0] [] _ K = _
  have hB : ∀ x, (eN x (w, u)).1 < 2 ^ 63 ∧ (eN x (w, u)).2 < 2 ^ 63 := fun x => eN_lt x _ _ hw hu
  simp only [e_X4_addFraction_0, e_X4_addFraction_1, e_X4_addFraction_3, e_X4_addFraction_4, e_X4_addFraction_6, e_X4_addFraction_7, e_X4_addFraction_11, e_X4_addFraction_14, e_X4_addFraction_17, e_X4_addFraction_19, e_X4_addFraction_20, e_X4_addFraction_21, e_X4_addFraction_24, e_X4_addFraction_26, e_X4_addFraction_28, e_X4_addFraction_29, e_X4_addFraction_31, e_X4_addFraction_33, e_X4_addFraction_35, e_X4_addFraction_37, e_X4_addFraction_39, e_X4_addFraction_42, e_X4_addFraction_45, e_X4_addFraction_47, e_X4_addFraction_48, e_X4_addFraction_49, e_X4_addFraction_52, e_X4_addFraction_53, e_X4_addFraction_54, e_X4_addFraction_56, e_X4_addFraction_57, e_X4_addFraction_60, e_X4_addFraction_61, e_X4_addFraction_62, e_X4_addFraction_64, e_X4_addFraction_65, e_X4_addFraction_68, ob_3, kcl_i, kcl_r, kcl_l, kcl_0, kcl_n, true_and, and_true]
  refine (k_find (P := fun x => kWP sc (d + 1) 42 9 [.ref 3, .long (Int64.ofNat u), .retAddr 0, .long (Int64.ofNat w), .retAddr 0, .long (Int64.ofNat (eN x (w, u)).1), .retAddr 0, .long (Int64.ofNat (eN x (w, u)).2), .retAddr 0, .int (Int32.ofNat x), eJ w u x, .retAddr 0] [] ((120, cu, su), wPut i n, l, kR f t sp) K) (Q := fun x => kWP sc (d + 1) 42 45 [.ref 3, .long (Int64.ofNat u), .retAddr 0, .long (Int64.ofNat w), .retAddr 0, .long (Int64.ofNat (eN x (w, u)).1), .retAddr 0, .long (Int64.ofNat (eN x (w, u)).2), .retAddr 0, .int (Int32.ofNat x), eJ w u x, .retAddr 0] [] ((120, cu, su), wPut i n, l, kR f t sp) K) (p := fun x => (eN x (w, u)).2 = 0) (n := 200) ?_).trans ?_
  · intro x hx
    have c1 : ((200 : Int32) ≤ Int32.ofNat x) = False := jpF (n := 200) hx (by decide)
    refine e_X4_addFraction_9.trans ?_
    simp only [e_X4_addFraction_0, e_X4_addFraction_1, e_X4_addFraction_3, e_X4_addFraction_4, e_X4_addFraction_6, e_X4_addFraction_7, e_X4_addFraction_11, e_X4_addFraction_14, e_X4_addFraction_17, e_X4_addFraction_19, e_X4_addFraction_20, e_X4_addFraction_21, e_X4_addFraction_24, e_X4_addFraction_26, e_X4_addFraction_28, e_X4_addFraction_29, e_X4_addFraction_31, e_X4_addFraction_33, e_X4_addFraction_35, e_X4_addFraction_37, e_X4_addFraction_39, e_X4_addFraction_42, e_X4_addFraction_47, e_X4_addFraction_48, e_X4_addFraction_49, e_X4_addFraction_52, e_X4_addFraction_53, e_X4_addFraction_54, e_X4_addFraction_56, e_X4_addFraction_57, e_X4_addFraction_60, e_X4_addFraction_61, e_X4_addFraction_62, e_X4_addFraction_64, e_X4_addFraction_65, e_X4_addFraction_68, ob_3, kcl_i, kcl_r, kcl_l, kcl_0, kcl_n, true_and, and_true, c1, if_false, lg_eq, l_0 (hB x).2]
    by_cases q : (eN x (w, u)).2 = 0
    · simp only [q, if_true]
    · have e1 : eN (x + 1) (w, u) = ((eN x (w, u)).2, (eN x (w, u)).1 % (eN x (w, u)).2) := by rw [eN_s]; unfold eS; rw [if_neg q]
      have nz : (Int64.ofNat (eN x (w, u)).2 = 0) = False := by rw [l_0 (hB x).2]; exact eq_false q
      simp only [q, if_false, nz, not_false_eq_true, lm_nat (hB x).1 (hB x).2, tn_s, true_and, eJ, e1]
  · cases hk : kfi (fun x => (eN x (w, u)).2 = 0) 200 0 with
    | none => exact absurd (eN_130 (p := (w, u)) hu) (kfi_none hk 130 (Nat.zero_le _) (by decide))
    | some z =>
      have hz := (kfi_some hk).2.2
      have hg := eN_gcd z (w, u)
      rw [hz, Nat.gcd_zero_right, Nat.gcd_comm] at hg
      have hg' : (eN z (w, u)).1 = Nat.gcd u w := hg
      have g0 : 0 < Nat.gcd u w := Nat.gcd_pos_of_pos_right u hw0
      have gB : Nat.gcd u w < 2 ^ 63 := by rw [← hg']; exact (hB z).1
      have nz : (Int64.ofNat (Nat.gcd u w) = 0) = False := by rw [l_0 gB]; exact eq_false (by omega)
      show kWP sc (d + 1) 42 45 _ _ _ K = _
      rw [hg']
      simp only [e_X4_addFraction_0, e_X4_addFraction_1, e_X4_addFraction_3, e_X4_addFraction_4, e_X4_addFraction_6, e_X4_addFraction_7, e_X4_addFraction_11, e_X4_addFraction_14, e_X4_addFraction_17, e_X4_addFraction_19, e_X4_addFraction_20, e_X4_addFraction_21, e_X4_addFraction_24, e_X4_addFraction_26, e_X4_addFraction_28, e_X4_addFraction_29, e_X4_addFraction_31, e_X4_addFraction_33, e_X4_addFraction_35, e_X4_addFraction_37, e_X4_addFraction_39, e_X4_addFraction_42, e_X4_addFraction_45, e_X4_addFraction_47, e_X4_addFraction_48, e_X4_addFraction_49, e_X4_addFraction_52, e_X4_addFraction_53, e_X4_addFraction_54, e_X4_addFraction_56, e_X4_addFraction_57, e_X4_addFraction_60, e_X4_addFraction_61, e_X4_addFraction_62, e_X4_addFraction_64, e_X4_addFraction_65, e_X4_addFraction_68, ob_3, kcl_i, kcl_r, kcl_l, kcl_0, kcl_n, true_and, and_true, lg_eq, nz, if_false, not_false_eq_true, ← Int64.ofNat_div hu gB, ← Int64.ofNat_div hw gB, c_radd (show n < 128 by omega), c_radd (show n + 1 < 128 by omega), true_and]
theorem m_common : ∀ (s : Nat) (a b : Nat), a < 2 ^ 63 → b < 2 ^ 63 → (eN s (a, b)).2 = 0 → ∀ {sc : Nat × (Nat → Int32)} {d y nx : Nat} {hd : List (Int × Nat)} {L st : List Value} {S : kS} {K : Option (Option Value) → kS → Prop}, kCA sc (d + s + 1) 160 [.long (Int64.ofNat a), .long (Int64.ofNat b)] y nx hd L st S K = kWP sc (d + s + 1) y nx L (.long (Int64.ofNat (Nat.gcd a b)) :: st) S K := by
  intro s
  induction s with
  | zero =>
    intro a b ha hb h0 sc d y nx hd L st S K
    have h0' : b = 0 := h0
    subst h0'
    refine kCA_of (d := d + 0) (v := some (.long (Int64.ofNat (Nat.gcd a 0)))) (S2 := S) (fun K => ?_)
    rw [km_160]
    show kWP sc (d + 0) 160 0 [.long (Int64.ofNat a), .retAddr 0, .long (Int64.ofNat 0), .retAddr 0] [] _ K = _
    simp only [e_X11_common_0, e_X11_common_1, e_X11_common_2, e_X11_common_3, e_X11_common_6, e_X11_common_7, e_X11_common_10, e_X11_common_11, e_X11_common_12, e_X11_common_13, e_X11_common_14, e_X11_common_17, kcl_i, kcl_r, kcl_l, kcl_0, kcl_n, true_and, and_true, lg_eq, l_0 (show 0 < 2 ^ 63 by decide), if_true, Nat.gcd_zero_right]
  | succ s ih =>
    intro a b ha hb h0 sc d y nx hd L st S K
    refine kCA_of (d := d + (s + 1)) (v := some (.long (Int64.ofNat (Nat.gcd a b)))) (S2 := S) (fun K => ?_)
    rw [km_160]
    show kWP sc (d + s + 1) 160 0 [.long (Int64.ofNat a), .retAddr 0, .long (Int64.ofNat b), .retAddr 0] [] _ K = _
    by_cases q : b = 0
    · subst q
      simp only [e_X11_common_0, e_X11_common_1, e_X11_common_2, e_X11_common_3, e_X11_common_6, e_X11_common_7, e_X11_common_10, e_X11_common_11, e_X11_common_12, e_X11_common_13, e_X11_common_14, e_X11_common_17, kcl_i, kcl_r, kcl_l, kcl_0, kcl_n, true_and, and_true, lg_eq, l_0 (show 0 < 2 ^ 63 by decide), if_true, Nat.gcd_zero_right]
    · have h1 : (eN s (b, a % b)).2 = 0 := by
        have h2 : eN (s + 1) (a, b) = eN s (b, a % b) := by show eN s (eS (a, b)) = _; unfold eS; rw [if_neg q]
        rw [h2] at h0; exact h0
      have hm : a % b < 2 ^ 63 := Nat.lt_trans (Nat.mod_lt _ (by omega)) hb
      have nz : (Int64.ofNat b = 0) = False := by rw [l_0 hb]; exact eq_false q
      have eg : Nat.gcd b (a % b) = Nat.gcd a b := by rw [Nat.gcd_comm a b, Nat.gcd_rec b a, Nat.gcd_comm]
      simp only [e_X11_common_0, e_X11_common_1, e_X11_common_2, e_X11_common_3, e_X11_common_6, e_X11_common_7, e_X11_common_10, e_X11_common_11, e_X11_common_12, e_X11_common_13, e_X11_common_14, e_X11_common_17, kcl_i, kcl_r, kcl_l, kcl_0, kcl_n, true_and, and_true, lg_eq, nz, if_false, not_false_eq_true, lm_nat ha hb, true_and]
      rw [ih b (a % b) hb hm h1, eg]
      simp only [e_X11_common_0, e_X11_common_1, e_X11_common_2, e_X11_common_3, e_X11_common_6, e_X11_common_7, e_X11_common_10, e_X11_common_11, e_X11_common_12, e_X11_common_13, e_X11_common_14, e_X11_common_17, kcl_i, kcl_r, kcl_l, kcl_0, kcl_n, true_and, and_true]
theorem m_tells {u w : Nat} (hu : u < 2 ^ 63) (hw : w < 2 ^ 63) (hw0 : 0 < w) : kCA sc (d + 132) 162 [.ref 91, .long (Int64.ofNat u), .long (Int64.ofNat w)] y nx hd L st ((120, cu, su), i, l, kR f t sp) K = kWP sc (d + 132) y nx L st ((120, cu, su), vPut i 2, kupl (kupl l 92 0 (Int64.ofNat (u / Nat.gcd u w))) 92 1 (Int64.ofNat (w / Nat.gcd u w)), kR f t sp) K := by
  refine kCA_of (d := d + 131) (v := none) (S2 := ((120, cu, su), vPut i 2, kupl (kupl l 92 0 (Int64.ofNat (u / Nat.gcd u w))) 92 1 (Int64.ofNat (w / Nat.gcd u w)), kR f t sp)) (fun K => ?_)
  rw [km_162]
  show kWP sc (d + 131) 162 0 [.ref 91, .long (Int64.ofNat u), .retAddr 0, .long (Int64.ofNat w), .retAddr 0, .retAddr 0, .retAddr 0] [] _ K = _
  have g0 : 0 < Nat.gcd u w := Nat.gcd_pos_of_pos_right u hw0
  have gB : Nat.gcd u w < 2 ^ 63 := Nat.lt_of_le_of_lt (Nat.le_of_dvd hw0 (Nat.gcd_dvd_right u w)) hw
  have nz : (Int64.ofNat (Nat.gcd u w) = 0) = False := by rw [l_0 gB]; exact eq_false (by omega)
  have P := fun (y nx : Nat) (L st : List Value) (hd : List (Int × Nat)) (K : Option (Option Value) → kS → Prop) => m_common 130 u w hu hw (eN_130 hw) (sc := sc) (d := d) (y := y) (nx := nx) (hd := hd) (L := L) (st := st) (S := ((120, cu, su), i, l, kR f t sp)) (K := K)
  simp only [e_X11_tellsFraction_0, e_X11_tellsFraction_1, e_X11_tellsFraction_2, e_X11_tellsFraction_5, e_X11_tellsFraction_7, e_X11_tellsFraction_8, e_X11_tellsFraction_9, e_X11_tellsFraction_12, e_X11_tellsFraction_13, e_X11_tellsFraction_14, e_X11_tellsFraction_16, e_X11_tellsFraction_17, e_X11_tellsFraction_20, e_X11_tellsFraction_21, e_X11_tellsFraction_22, e_X11_tellsFraction_24, e_X11_tellsFraction_25, e_X11_tellsFraction_28, ob_91, kcl_i, kcl_r, kcl_l, kcl_0, kcl_n, true_and, and_true, show d + 131 = d + 130 + 1 from rfl, P]
  simp only [e_X11_tellsFraction_0, e_X11_tellsFraction_1, e_X11_tellsFraction_2, e_X11_tellsFraction_5, e_X11_tellsFraction_7, e_X11_tellsFraction_8, e_X11_tellsFraction_9, e_X11_tellsFraction_12, e_X11_tellsFraction_13, e_X11_tellsFraction_14, e_X11_tellsFraction_16, e_X11_tellsFraction_17, e_X11_tellsFraction_20, e_X11_tellsFraction_21, e_X11_tellsFraction_22, e_X11_tellsFraction_24, e_X11_tellsFraction_25, e_X11_tellsFraction_28, ob_91, kcl_i, kcl_r, kcl_l, kcl_0, kcl_n, true_and, and_true, vP_0, nz, not_false_eq_true, ← Int64.ofNat_div hu gB, ← Int64.ofNat_div hw gB, m_enters (show 0 < 256 by decide), m_enters (show 0 + 1 < 256 by decide), true_and]
def gLot (m : Nat) (free : Bool) (x : Nat) (w : Nat × Nat) : Nat × Nat := if free = true ∧ x = 0 then (1, w.2 * m) else (w.2 - w.1, w.2 * (m - 1))
def pLot (m : Nat) (free : Bool) (h0 n : Nat) : Nat × Nat := kfo (gLot m free) n (h0, 1)
theorem lot_ok {free : Bool} {h0 : Nat} (hm : 2 ≤ m) (h8 : m ≤ 8) (hh : h0 ≤ 1) : ∀ x, (pLot m free h0 x).1 ≤ (pLot m free h0 x).2 ∧ 0 < (pLot m free h0 x).2 ∧ (pLot m free h0 x).2 ≤ 8 ^ x := by
  intro x
  induction x with
  | zero => exact ⟨hh, Nat.zero_lt_one, Nat.le_refl 1⟩
  | succ x ih =>
    have e : pLot m free h0 (x + 1) = gLot m free x (pLot m free h0 x) := rfl
    rw [e]
    generalize pLot m free h0 x = w at ih
    obtain ⟨a, b, c⟩ := ih
    unfold gLot
    have hb : w.2 * m ≤ 8 ^ x * 8 := Nat.mul_le_mul c h8
    have hb2 : w.2 * (m - 1) ≤ w.2 * m := Nat.mul_le_mul_left _ (by omega)
    have hb3 : w.2 * 1 ≤ w.2 * (m - 1) := Nat.mul_le_mul_left _ (by omega)
    have hb4 : w.2 * 1 ≤ w.2 * m := Nat.mul_le_mul_left _ (by omega)
    rw [Nat.pow_succ]
    split
    · exact ⟨by show 1 ≤ w.2 * m; omega, by show 0 < w.2 * m; omega, hb⟩
    · exact ⟨by show w.2 - w.1 ≤ w.2 * (m - 1); omega, by show 0 < w.2 * (m - 1); omega, by show w.2 * (m - 1) ≤ _; omega⟩
theorem i2l_nat {a : Nat} (h : a < 100000) : (Int32.ofNat a).toInt64 = Int64.ofNat a := by
  apply Int64.toInt_inj.1
  rw [Int32.toInt_toInt64, Int32.toInt_ofNat_of_lt (by omega), Int64.toInt_ofNat_of_lt (by omega)]
theorem J_lot (h : IV m i l f t sp) (p q : Int32) : JJ 125 238 [.int p, .int q] i l f t sp := by
  obtain ⟨⟨h5, h91, h8, e9, hle, hp⟩, _, _, hN, _⟩ := id h
  have hNow := IV_now h
  by_cases h0 : pHas (Int32.ofNat m) p = true ∧ ¬ q < 1 ∧ ¬ 8 < q
  · obtain ⟨a, ha, rfl⟩ := kN_has h8 h0.1
    obtain ⟨z, hz, rfl⟩ := tn_exle (m := 8) (by decide) (Int32.le_trans (by decide) (Int32.not_lt.1 h0.2.1)) (Int32.not_lt.1 h0.2.2)
    have q8 : Int32.ofNat z ≤ 8 := Int32.not_lt.1 h0.2.2
    by_cases h2 : m < 2
    · have c2 : ((2 : Int32) ≤ Int32.ofNat m) = False := jpF (n := 2) h2 (by decide)
      refine JJ_n h (-2) i (uPut i) ag_r (ag_uu ag_r) rfl rfl ?_ ?_
      · intro sc d y nx hd L st cu su K
        refine kCA_of (d := d + 499) (v := some (.int _)) (fun K => ?_)
        rw [km_125]
        show kWP sc (d + 499) 125 0 [.ref 0, .int (Int32.ofNat a), .int (Int32.ofNat z), .retAddr 0, .retAddr 0, .retAddr 0, .retAddr 0, .retAddr 0, .retAddr 0] [] _ K = _
        simp only [e_X10_lot_0, e_X10_lot_1, e_X10_lot_4, e_X10_lot_5, e_X10_lot_8, e_X10_lot_11, e_X10_lot_12, e_X10_lot_13, e_X10_lot_16, e_X10_lot_17, e_X10_lot_19, e_X10_lot_22, e_X10_lot_23, e_X10_lot_24, e_X10_lot_25, e_X10_lot_28, e_X10_lot_31, e_X10_lot_32, e_X10_lot_35, e_X10_lot_37, e_X10_lot_38, e_X10_lot_39, e_X10_lot_40, e_X10_lot_41, e_X10_lot_44, e_X10_lot_47, e_X10_lot_48, e_X10_lot_51, e_X10_lot_52, e_X10_lot_55, e_X10_lot_56, e_X10_lot_58, e_X10_lot_59, e_X10_lot_63, e_X10_lot_64, e_X10_lot_67, e_X10_lot_69, e_X10_lot_72, e_X10_lot_73, e_X10_lot_76, e_X10_lot_79, e_X10_lot_80, e_X10_lot_83, e_X10_lot_84, e_X10_lot_87, e_X10_lot_88, e_X10_lot_90, e_X10_lot_92, e_X10_lot_95, e_X10_lot_96, e_X10_lot_99, e_X10_lot_100, e_X10_lot_102, e_X10_lot_103, e_X10_lot_105, e_X10_lot_106, e_X10_lot_108, e_X10_lot_111, e_X10_lot_112, e_X10_lot_115, e_X10_lot_118, e_X10_lot_119, e_X10_lot_122, e_X10_lot_123, e_X10_lot_126, e_X10_lot_129, e_X10_lot_130, e_X10_lot_131, e_X10_lot_132, e_X10_lot_133, e_X10_lot_134, e_X10_lot_137, e_X10_lot_140, e_X10_lot_141, e_X10_lot_144, e_X10_lot_147, e_X10_lot_148, e_X10_lot_151, e_X10_lot_153, e_X10_lot_154, e_X10_lot_157, e_X10_lot_158, ob_0, rk_0_2, ob_5, rk_0_3, ob_10, ob_13, rk_0_1, ob_3, kcl_i, kcl_r, kcl_l, kcl_0, kcl_n, true_and, and_true, c_has, kb_0, h5, h0.1, h0.2.1, q8, not_true_eq_false, if_true, if_false, c2]
      · intro sc d y nx hd L st cu su K
        have h91' : uPut i 91 3 = Int32.ofNat m := h91
        refine kCA_of (d := d + 499) (v := some (.int _)) (fun K => ?_)
        rw [km_238]
        show kWP sc (d + 499) 238 0 [.ref 91, .int (Int32.ofNat a), .int (Int32.ofNat z), .retAddr 0, .retAddr 0, .retAddr 0, .retAddr 0, .retAddr 0, .retAddr 0] [] _ K = _
        simp only [e_X11_lot_0, e_X11_lot_1, e_X11_lot_2, e_X11_lot_5, e_X11_lot_6, e_X11_lot_7, e_X11_lot_10, e_X11_lot_13, e_X11_lot_14, e_X11_lot_15, e_X11_lot_16, e_X11_lot_19, e_X11_lot_22, e_X11_lot_25, e_X11_lot_26, e_X11_lot_27, e_X11_lot_28, e_X11_lot_31, e_X11_lot_32, e_X11_lot_35, e_X11_lot_37, e_X11_lot_38, e_X11_lot_39, e_X11_lot_42, e_X11_lot_44, e_X11_lot_45, e_X11_lot_46, e_X11_lot_49, e_X11_lot_50, e_X11_lot_53, e_X11_lot_54, e_X11_lot_57, e_X11_lot_58, e_X11_lot_59, e_X11_lot_60, e_X11_lot_62, e_X11_lot_63, e_X11_lot_67, e_X11_lot_68, e_X11_lot_71, e_X11_lot_73, e_X11_lot_76, e_X11_lot_77, e_X11_lot_80, e_X11_lot_82, e_X11_lot_83, e_X11_lot_86, e_X11_lot_87, e_X11_lot_90, e_X11_lot_91, e_X11_lot_93, e_X11_lot_95, e_X11_lot_98, e_X11_lot_99, e_X11_lot_102, e_X11_lot_104, e_X11_lot_105, e_X11_lot_106, e_X11_lot_107, e_X11_lot_109, e_X11_lot_111, e_X11_lot_114, e_X11_lot_115, e_X11_lot_118, e_X11_lot_119, e_X11_lot_122, e_X11_lot_123, e_X11_lot_126, e_X11_lot_127, e_X11_lot_128, e_X11_lot_129, e_X11_lot_130, e_X11_lot_132, e_X11_lot_135, e_X11_lot_138, e_X11_lot_139, e_X11_lot_140, e_X11_lot_142, e_X11_lot_145, e_X11_lot_146, ob_91, rk_91_8, ar_96, kcl_i, kcl_r, kcl_l, kcl_0, kcl_n, true_and, and_true, uP_0, m_isMan h91' h8, kb_0, h0.1, l1, show (8 : Int64) = (8 : Int32).toInt64 from by decide, m_in, m_inI, h0.2, not_true_eq_false, not_false_eq_true, and_self, if_true, if_false, h91', c2]
    · have c2 : ((2 : Int32) ≤ Int32.ofNat m) = True := by rw [show (2 : Int32) = Int32.ofNat 2 from rfl, tn_le (by decide) (by omega)]; exact eq_true (by omega)
      obtain ⟨fr, hfr⟩ : ∃ fr : Bool, fr = decide (i 96 18 = -1) := ⟨_, rfl⟩
      obtain ⟨hh, hhh⟩ : ∃ hh : Nat, hh = if i 96 18 = Int32.ofNat a then 1 else 0 := ⟨_, rfl⟩
      have hh1 : hh ≤ 1 := by rw [hhh]; split <;> decide
      have ok := fun x => lot_ok (m := m) (free := fr) (h0 := hh) (by omega) h8 hh1 x
      have B63 : ∀ x, x ≤ 8 → (8 : Nat) ^ x < 2 ^ 63 := by decide
      have bd : ∀ x, x ≤ 8 → (pLot m fr hh x).1 < 2 ^ 63 ∧ (pLot m fr hh x).2 < 2 ^ 63 := fun x hx => ⟨Nat.lt_of_le_of_lt (Nat.le_trans (ok x).1 (ok x).2.2) (B63 x hx), Nat.lt_of_le_of_lt (ok x).2.2 (B63 x hx)⟩
      have neg : (i 96 18 < 0) = (i 96 18 = -1) := by
        rcases hN.1.2.2.2.1 with e | ⟨b, hb, e⟩
        · rw [e]; exact propext ⟨fun _ => rfl, fun _ => by decide⟩
        · rw [e]; exact propext ⟨fun q => absurd q (tn_nn (by omega)), fun q => absurd q (m1_ne (by omega))⟩
      have m1 : Int32.ofNat m - 1 = Int32.ofNat (m - 1) := tn_sub (by omega)
      generalize hGG : pLot m fr hh z = G at *
      have okz := ok z
      have bdz := bd z hz
      rw [hGG] at okz bdz
      refine JJ_q h 0 2 i (uPut (wPut i 2)) [Int64.ofNat (G.1 / Nat.gcd G.1 G.2), Int64.ofNat (G.2 / Nat.gcd G.1 G.2)] rfl (by decide) ag_r (ag_uu ag_r) rfl ?_ ?_
      · intro sc d y nx hd L st cu su K
        have F := fun (y nx : Nat) (L st : List Value) (hd : List (Int × Nat)) (K : Option (Option Value) → kS → Prop) => c_addFraction (sc := sc) (d := d + 497) (y := y) (nx := nx) (hd := hd) (L := L) (st := st) (cu := cu) (su := su) (i := i) (l := l) (f := f) (t := t) (sp := sp) (K := K) (n := 0) (u := G.1) (w := G.2) (by decide) bdz.1 bdz.2 okz.2.1
        refine kCA_of (d := d + 499) (v := some (.int _)) (fun K => ?_)
        rw [km_125]
        show kWP sc (d + 499) 125 0 [.ref 0, .int (Int32.ofNat a), .int (Int32.ofNat z), .retAddr 0, .retAddr 0, .retAddr 0, .retAddr 0, .retAddr 0, .retAddr 0] [] _ K = _
        have key : kWP sc (d + 499) 125 56 [.ref 0, .int (Int32.ofNat a), .int (Int32.ofNat z), .long 1, .retAddr 0, .retAddr 0, .retAddr 0, .retAddr 0, .retAddr 0] [.long (Int64.ofNat hh)] ((120, cu, su), i, l, kR f t sp) K = K (some (some (.int 0))) ((120, cu, su), wPut i 2, tC l 0 [Int64.ofNat (G.1 / Nat.gcd G.1 G.2), Int64.ofNat (G.2 / Nat.gcd G.1 G.2)], kR f t sp) := by
          simp only [e_X10_lot_0, e_X10_lot_1, e_X10_lot_4, e_X10_lot_5, e_X10_lot_8, e_X10_lot_11, e_X10_lot_12, e_X10_lot_13, e_X10_lot_16, e_X10_lot_17, e_X10_lot_19, e_X10_lot_22, e_X10_lot_23, e_X10_lot_24, e_X10_lot_25, e_X10_lot_28, e_X10_lot_31, e_X10_lot_32, e_X10_lot_35, e_X10_lot_37, e_X10_lot_38, e_X10_lot_39, e_X10_lot_40, e_X10_lot_41, e_X10_lot_44, e_X10_lot_47, e_X10_lot_48, e_X10_lot_51, e_X10_lot_52, e_X10_lot_55, e_X10_lot_56, e_X10_lot_58, e_X10_lot_59, e_X10_lot_63, e_X10_lot_64, e_X10_lot_67, e_X10_lot_69, e_X10_lot_72, e_X10_lot_73, e_X10_lot_76, e_X10_lot_79, e_X10_lot_80, e_X10_lot_83, e_X10_lot_84, e_X10_lot_87, e_X10_lot_88, e_X10_lot_90, e_X10_lot_92, e_X10_lot_95, e_X10_lot_96, e_X10_lot_99, e_X10_lot_100, e_X10_lot_102, e_X10_lot_103, e_X10_lot_105, e_X10_lot_106, e_X10_lot_108, e_X10_lot_111, e_X10_lot_112, e_X10_lot_115, e_X10_lot_118, e_X10_lot_119, e_X10_lot_122, e_X10_lot_123, e_X10_lot_126, e_X10_lot_129, e_X10_lot_130, e_X10_lot_131, e_X10_lot_132, e_X10_lot_133, e_X10_lot_134, e_X10_lot_137, e_X10_lot_140, e_X10_lot_141, e_X10_lot_144, e_X10_lot_147, e_X10_lot_148, e_X10_lot_151, e_X10_lot_153, e_X10_lot_154, e_X10_lot_157, e_X10_lot_158, ob_0, rk_0_2, ob_5, rk_0_3, ob_10, ob_13, rk_0_1, ob_3, kcl_i, kcl_r, kcl_l, kcl_0, kcl_n, true_and, and_true]
          have E := k_lq (n := z) (Q := fun x (w : (Nat × Nat) × Value) => kWP sc (d + 499) 125 61 [.ref 0, .int (Int32.ofNat a), .int (Int32.ofNat z), .long (Int64.ofNat w.1.2), .retAddr 0, .long (Int64.ofNat w.1.1), .retAddr 0, .int (Int32.ofNat x), w.2] [] ((120, cu, su), i, l, kR f t sp) K) (I := fun x w => w.1 = pLot m fr hh x) (b0 := ((hh, 1), .retAddr 0)) ?_ rfl
          · obtain ⟨⟨w, v8⟩, hw, e⟩ := E
            have hw' : w = G := hw.trans hGG
            refine e.trans ?_
            rw [hw']
            refine e_X10_lot_61.trans ?_
            simp only [e_X10_lot_0, e_X10_lot_1, e_X10_lot_4, e_X10_lot_5, e_X10_lot_8, e_X10_lot_11, e_X10_lot_12, e_X10_lot_13, e_X10_lot_16, e_X10_lot_17, e_X10_lot_19, e_X10_lot_22, e_X10_lot_23, e_X10_lot_24, e_X10_lot_25, e_X10_lot_28, e_X10_lot_31, e_X10_lot_32, e_X10_lot_35, e_X10_lot_37, e_X10_lot_38, e_X10_lot_39, e_X10_lot_40, e_X10_lot_41, e_X10_lot_44, e_X10_lot_47, e_X10_lot_48, e_X10_lot_51, e_X10_lot_52, e_X10_lot_55, e_X10_lot_56, e_X10_lot_58, e_X10_lot_59, e_X10_lot_63, e_X10_lot_64, e_X10_lot_67, e_X10_lot_69, e_X10_lot_72, e_X10_lot_73, e_X10_lot_76, e_X10_lot_79, e_X10_lot_80, e_X10_lot_83, e_X10_lot_84, e_X10_lot_87, e_X10_lot_88, e_X10_lot_90, e_X10_lot_92, e_X10_lot_95, e_X10_lot_96, e_X10_lot_99, e_X10_lot_100, e_X10_lot_102, e_X10_lot_103, e_X10_lot_105, e_X10_lot_106, e_X10_lot_108, e_X10_lot_111, e_X10_lot_112, e_X10_lot_115, e_X10_lot_118, e_X10_lot_119, e_X10_lot_122, e_X10_lot_123, e_X10_lot_126, e_X10_lot_129, e_X10_lot_130, e_X10_lot_131, e_X10_lot_132, e_X10_lot_133, e_X10_lot_134, e_X10_lot_137, e_X10_lot_140, e_X10_lot_141, e_X10_lot_144, e_X10_lot_147, e_X10_lot_148, e_X10_lot_151, e_X10_lot_153, e_X10_lot_154, e_X10_lot_157, e_X10_lot_158, ob_0, rk_0_2, ob_5, rk_0_3, ob_10, ob_13, rk_0_1, ob_3, kcl_i, kcl_r, kcl_l, kcl_0, kcl_n, true_and, and_true, Int32.le_refl, if_true, c_start]
            rw [show d + 499 = d + 497 + 2 from rfl, F]
            simp only [e_X10_lot_0, e_X10_lot_1, e_X10_lot_4, e_X10_lot_5, e_X10_lot_8, e_X10_lot_11, e_X10_lot_12, e_X10_lot_13, e_X10_lot_16, e_X10_lot_17, e_X10_lot_19, e_X10_lot_22, e_X10_lot_23, e_X10_lot_24, e_X10_lot_25, e_X10_lot_28, e_X10_lot_31, e_X10_lot_32, e_X10_lot_35, e_X10_lot_37, e_X10_lot_38, e_X10_lot_39, e_X10_lot_40, e_X10_lot_41, e_X10_lot_44, e_X10_lot_47, e_X10_lot_48, e_X10_lot_51, e_X10_lot_52, e_X10_lot_55, e_X10_lot_56, e_X10_lot_58, e_X10_lot_59, e_X10_lot_63, e_X10_lot_64, e_X10_lot_67, e_X10_lot_69, e_X10_lot_72, e_X10_lot_73, e_X10_lot_76, e_X10_lot_79, e_X10_lot_80, e_X10_lot_83, e_X10_lot_84, e_X10_lot_87, e_X10_lot_88, e_X10_lot_90, e_X10_lot_92, e_X10_lot_95, e_X10_lot_96, e_X10_lot_99, e_X10_lot_100, e_X10_lot_102, e_X10_lot_103, e_X10_lot_105, e_X10_lot_106, e_X10_lot_108, e_X10_lot_111, e_X10_lot_112, e_X10_lot_115, e_X10_lot_118, e_X10_lot_119, e_X10_lot_122, e_X10_lot_123, e_X10_lot_126, e_X10_lot_129, e_X10_lot_130, e_X10_lot_131, e_X10_lot_132, e_X10_lot_133, e_X10_lot_134, e_X10_lot_137, e_X10_lot_140, e_X10_lot_141, e_X10_lot_144, e_X10_lot_147, e_X10_lot_148, e_X10_lot_151, e_X10_lot_153, e_X10_lot_154, e_X10_lot_157, e_X10_lot_158, ob_0, rk_0_2, ob_5, rk_0_3, ob_10, ob_13, rk_0_1, ob_3, kcl_i, kcl_r, kcl_l, kcl_0, kcl_n, true_and, and_true]
            rfl
          · intro x ⟨w, v8⟩ hx hI
            have hI' : w = pLot m fr hh x := hI
            have okx := ok x
            rw [← hI'] at okx
            refine ⟨(gLot m fr x w, .int (kb (x = 0 ∧ i 96 18 = -1))), ?_, ?_⟩
            · show gLot m fr x w = gLot m fr x (pLot m fr hh x); rw [hI']
            · refine e_X10_lot_61.trans ?_
              simp only [e_X10_lot_0, e_X10_lot_1, e_X10_lot_4, e_X10_lot_5, e_X10_lot_8, e_X10_lot_11, e_X10_lot_12, e_X10_lot_13, e_X10_lot_16, e_X10_lot_17, e_X10_lot_19, e_X10_lot_22, e_X10_lot_23, e_X10_lot_24, e_X10_lot_25, e_X10_lot_28, e_X10_lot_31, e_X10_lot_32, e_X10_lot_35, e_X10_lot_37, e_X10_lot_38, e_X10_lot_39, e_X10_lot_40, e_X10_lot_41, e_X10_lot_44, e_X10_lot_47, e_X10_lot_48, e_X10_lot_51, e_X10_lot_52, e_X10_lot_55, e_X10_lot_56, e_X10_lot_58, e_X10_lot_59, e_X10_lot_63, e_X10_lot_64, e_X10_lot_67, e_X10_lot_69, e_X10_lot_72, e_X10_lot_73, e_X10_lot_76, e_X10_lot_79, e_X10_lot_80, e_X10_lot_83, e_X10_lot_84, e_X10_lot_87, e_X10_lot_88, e_X10_lot_90, e_X10_lot_92, e_X10_lot_95, e_X10_lot_96, e_X10_lot_99, e_X10_lot_100, e_X10_lot_102, e_X10_lot_103, e_X10_lot_105, e_X10_lot_106, e_X10_lot_108, e_X10_lot_111, e_X10_lot_112, e_X10_lot_115, e_X10_lot_118, e_X10_lot_119, e_X10_lot_122, e_X10_lot_123, e_X10_lot_126, e_X10_lot_129, e_X10_lot_130, e_X10_lot_131, e_X10_lot_132, e_X10_lot_133, e_X10_lot_134, e_X10_lot_137, e_X10_lot_140, e_X10_lot_141, e_X10_lot_144, e_X10_lot_147, e_X10_lot_148, e_X10_lot_151, e_X10_lot_153, e_X10_lot_154, e_X10_lot_157, e_X10_lot_158, ob_0, rk_0_2, ob_5, rk_0_3, ob_10, ob_13, rk_0_1, ob_3, kcl_i, kcl_r, kcl_l, kcl_0, kcl_n, true_and, and_true, jpF hx (by omega), if_false, tn_z (show x < 2147483648 by omega), hNow.2.1, h5, m1, i2l_nat (show m < 100000 by omega), i2l_nat (show m - 1 < 100000 by omega), ← Int64.ofNat_mul, ← Int64.ofNat_sub _ _ okx.1, tn_s]
              unfold gLot kb
              rw [hfr]
              by_cases q1 : x = 0
              · by_cases q2 : i 96 18 = -1
                · simp only [q1, q2, if_true, and_self, z10, if_false, decide_true]; rfl
                · simp only [q1, q2, if_true, and_false, if_false, decide_false]; rfl
              · simp only [q1, if_true, if_false, false_and, and_false]
        simp only [e_X10_lot_0, e_X10_lot_1, e_X10_lot_4, e_X10_lot_5, e_X10_lot_8, e_X10_lot_11, e_X10_lot_12, e_X10_lot_13, e_X10_lot_16, e_X10_lot_17, e_X10_lot_19, e_X10_lot_22, e_X10_lot_23, e_X10_lot_24, e_X10_lot_25, e_X10_lot_28, e_X10_lot_31, e_X10_lot_32, e_X10_lot_35, e_X10_lot_37, e_X10_lot_38, e_X10_lot_39, e_X10_lot_40, e_X10_lot_41, e_X10_lot_44, e_X10_lot_47, e_X10_lot_48, e_X10_lot_51, e_X10_lot_52, e_X10_lot_55, e_X10_lot_58, e_X10_lot_59, e_X10_lot_63, e_X10_lot_64, e_X10_lot_67, e_X10_lot_69, e_X10_lot_72, e_X10_lot_73, e_X10_lot_76, e_X10_lot_79, e_X10_lot_80, e_X10_lot_83, e_X10_lot_84, e_X10_lot_87, e_X10_lot_88, e_X10_lot_90, e_X10_lot_92, e_X10_lot_95, e_X10_lot_96, e_X10_lot_99, e_X10_lot_100, e_X10_lot_102, e_X10_lot_103, e_X10_lot_105, e_X10_lot_106, e_X10_lot_108, e_X10_lot_111, e_X10_lot_112, e_X10_lot_115, e_X10_lot_118, e_X10_lot_119, e_X10_lot_122, e_X10_lot_123, e_X10_lot_126, e_X10_lot_129, e_X10_lot_130, e_X10_lot_131, e_X10_lot_132, e_X10_lot_133, e_X10_lot_134, e_X10_lot_137, e_X10_lot_140, e_X10_lot_141, e_X10_lot_144, e_X10_lot_147, e_X10_lot_148, e_X10_lot_151, e_X10_lot_153, e_X10_lot_154, e_X10_lot_157, e_X10_lot_158, ob_0, rk_0_2, ob_5, rk_0_3, ob_10, ob_13, rk_0_1, ob_3, kcl_i, kcl_r, kcl_l, kcl_0, kcl_n, true_and, and_true, c_has, kb_0, h5, h0.1, h0.2.1, q8, not_true_eq_false, if_true, if_false, c2, hNow.2.1]
        rw [hhh] at key
        by_cases q1 : i 96 18 = Int32.ofNat a
        · rw [if_pos q1] at key ⊢; exact key
        · rw [if_neg q1] at key ⊢; exact key
      · intro sc d y nx hd L st cu su K
        have h91' : uPut (wPut i 2) 91 3 = Int32.ofNat m := h91
        have F := fun (y nx : Nat) (L st : List Value) (hd : List (Int × Nat)) (K : Option (Option Value) → kS → Prop) => m_tells (sc := sc) (d := d + 367) (y := y) (nx := nx) (hd := hd) (L := L) (st := st) (cu := cu) (su := su) (i := uPut (wPut i 2)) (l := tC l 0 [Int64.ofNat (G.1 / Nat.gcd G.1 G.2), Int64.ofNat (G.2 / Nat.gcd G.1 G.2)]) (f := f) (t := t) (sp := sp) (K := K) (u := G.1) (w := G.2) bdz.1 bdz.2 okz.2.1
        refine kCA_of (d := d + 499) (v := some (.int _)) (fun K => ?_)
        rw [km_238]
        show kWP sc (d + 499) 238 0 [.ref 91, .int (Int32.ofNat a), .int (Int32.ofNat z), .retAddr 0, .retAddr 0, .retAddr 0, .retAddr 0, .retAddr 0, .retAddr 0] [] _ K = _
        have key : kWP sc (d + 499) 238 57 [.ref 91, .int (Int32.ofNat a), .int (Int32.ofNat z), .retAddr 0, .retAddr 0, .retAddr 0, .retAddr 0, .retAddr 0, .retAddr 0] [.int (Int32.ofNat hh)] ((120, cu, su), uPut (wPut i 2), tC l 0 [Int64.ofNat (G.1 / Nat.gcd G.1 G.2), Int64.ofNat (G.2 / Nat.gcd G.1 G.2)], kR f t sp) K = K (some (some (.int 0))) ((120, cu, su), vPut (uPut (wPut i 2)) 2, tR (tC l 0 [Int64.ofNat (G.1 / Nat.gcd G.1 G.2), Int64.ofNat (G.2 / Nat.gcd G.1 G.2)]) 0 [Int64.ofNat (G.1 / Nat.gcd G.1 G.2), Int64.ofNat (G.2 / Nat.gcd G.1 G.2)], kR f t sp) := by
          simp only [e_X11_lot_0, e_X11_lot_1, e_X11_lot_2, e_X11_lot_5, e_X11_lot_6, e_X11_lot_7, e_X11_lot_10, e_X11_lot_13, e_X11_lot_14, e_X11_lot_15, e_X11_lot_16, e_X11_lot_19, e_X11_lot_22, e_X11_lot_25, e_X11_lot_26, e_X11_lot_27, e_X11_lot_28, e_X11_lot_31, e_X11_lot_32, e_X11_lot_35, e_X11_lot_37, e_X11_lot_38, e_X11_lot_39, e_X11_lot_42, e_X11_lot_44, e_X11_lot_45, e_X11_lot_46, e_X11_lot_49, e_X11_lot_50, e_X11_lot_53, e_X11_lot_54, e_X11_lot_57, e_X11_lot_58, e_X11_lot_59, e_X11_lot_60, e_X11_lot_62, e_X11_lot_63, e_X11_lot_67, e_X11_lot_68, e_X11_lot_71, e_X11_lot_73, e_X11_lot_76, e_X11_lot_77, e_X11_lot_80, e_X11_lot_82, e_X11_lot_83, e_X11_lot_86, e_X11_lot_87, e_X11_lot_90, e_X11_lot_91, e_X11_lot_93, e_X11_lot_95, e_X11_lot_98, e_X11_lot_99, e_X11_lot_102, e_X11_lot_104, e_X11_lot_105, e_X11_lot_106, e_X11_lot_107, e_X11_lot_109, e_X11_lot_111, e_X11_lot_114, e_X11_lot_115, e_X11_lot_118, e_X11_lot_119, e_X11_lot_122, e_X11_lot_123, e_X11_lot_126, e_X11_lot_127, e_X11_lot_128, e_X11_lot_129, e_X11_lot_130, e_X11_lot_132, e_X11_lot_135, e_X11_lot_138, e_X11_lot_139, e_X11_lot_140, e_X11_lot_142, e_X11_lot_145, e_X11_lot_146, ob_91, rk_91_8, ar_96, kcl_i, kcl_r, kcl_l, kcl_0, kcl_n, true_and, and_true, i2l_nat (show hh < 100000 by omega)]
          have E := k_lq (n := z) (Q := fun x (w : (Nat × Nat) × Value) => kWP sc (d + 499) 238 65 [.ref 91, .int (Int32.ofNat a), .int (Int32.ofNat z), .long (Int64.ofNat w.1.1), .retAddr 0, .long (Int64.ofNat w.1.2), .retAddr 0, .int (Int32.ofNat x), w.2] [] ((120, cu, su), uPut (wPut i 2), tC l 0 [Int64.ofNat (G.1 / Nat.gcd G.1 G.2), Int64.ofNat (G.2 / Nat.gcd G.1 G.2)], kR f t sp) K) (I := fun x w => w.1 = pLot m fr hh x) (b0 := ((hh, 1), .retAddr 0)) ?_ rfl
          · obtain ⟨⟨w, v8⟩, hw, e⟩ := E
            have hw' : w = G := hw.trans hGG
            refine e.trans ?_
            rw [hw']
            refine e_X11_lot_65.trans ?_
            simp only [e_X11_lot_0, e_X11_lot_1, e_X11_lot_2, e_X11_lot_5, e_X11_lot_6, e_X11_lot_7, e_X11_lot_10, e_X11_lot_13, e_X11_lot_14, e_X11_lot_15, e_X11_lot_16, e_X11_lot_19, e_X11_lot_22, e_X11_lot_25, e_X11_lot_26, e_X11_lot_27, e_X11_lot_28, e_X11_lot_31, e_X11_lot_32, e_X11_lot_35, e_X11_lot_37, e_X11_lot_38, e_X11_lot_39, e_X11_lot_42, e_X11_lot_44, e_X11_lot_45, e_X11_lot_46, e_X11_lot_49, e_X11_lot_50, e_X11_lot_53, e_X11_lot_54, e_X11_lot_57, e_X11_lot_58, e_X11_lot_59, e_X11_lot_60, e_X11_lot_62, e_X11_lot_63, e_X11_lot_67, e_X11_lot_68, e_X11_lot_71, e_X11_lot_73, e_X11_lot_76, e_X11_lot_77, e_X11_lot_80, e_X11_lot_82, e_X11_lot_83, e_X11_lot_86, e_X11_lot_87, e_X11_lot_90, e_X11_lot_91, e_X11_lot_93, e_X11_lot_95, e_X11_lot_98, e_X11_lot_99, e_X11_lot_102, e_X11_lot_104, e_X11_lot_105, e_X11_lot_106, e_X11_lot_107, e_X11_lot_109, e_X11_lot_111, e_X11_lot_114, e_X11_lot_115, e_X11_lot_118, e_X11_lot_119, e_X11_lot_122, e_X11_lot_123, e_X11_lot_126, e_X11_lot_127, e_X11_lot_128, e_X11_lot_129, e_X11_lot_130, e_X11_lot_132, e_X11_lot_135, e_X11_lot_138, e_X11_lot_139, e_X11_lot_140, e_X11_lot_142, e_X11_lot_145, e_X11_lot_146, ob_91, rk_91_8, ar_96, kcl_i, kcl_r, kcl_l, kcl_0, kcl_n, true_and, and_true, Int32.le_refl, if_true]
            rw [show d + 499 = d + 367 + 132 from rfl, F]
            simp only [e_X11_lot_0, e_X11_lot_1, e_X11_lot_2, e_X11_lot_5, e_X11_lot_6, e_X11_lot_7, e_X11_lot_10, e_X11_lot_13, e_X11_lot_14, e_X11_lot_15, e_X11_lot_16, e_X11_lot_19, e_X11_lot_22, e_X11_lot_25, e_X11_lot_26, e_X11_lot_27, e_X11_lot_28, e_X11_lot_31, e_X11_lot_32, e_X11_lot_35, e_X11_lot_37, e_X11_lot_38, e_X11_lot_39, e_X11_lot_42, e_X11_lot_44, e_X11_lot_45, e_X11_lot_46, e_X11_lot_49, e_X11_lot_50, e_X11_lot_53, e_X11_lot_54, e_X11_lot_57, e_X11_lot_58, e_X11_lot_59, e_X11_lot_60, e_X11_lot_62, e_X11_lot_63, e_X11_lot_67, e_X11_lot_68, e_X11_lot_71, e_X11_lot_73, e_X11_lot_76, e_X11_lot_77, e_X11_lot_80, e_X11_lot_82, e_X11_lot_83, e_X11_lot_86, e_X11_lot_87, e_X11_lot_90, e_X11_lot_91, e_X11_lot_93, e_X11_lot_95, e_X11_lot_98, e_X11_lot_99, e_X11_lot_102, e_X11_lot_104, e_X11_lot_105, e_X11_lot_106, e_X11_lot_107, e_X11_lot_109, e_X11_lot_111, e_X11_lot_114, e_X11_lot_115, e_X11_lot_118, e_X11_lot_119, e_X11_lot_122, e_X11_lot_123, e_X11_lot_126, e_X11_lot_127, e_X11_lot_128, e_X11_lot_129, e_X11_lot_130, e_X11_lot_132, e_X11_lot_135, e_X11_lot_138, e_X11_lot_139, e_X11_lot_140, e_X11_lot_142, e_X11_lot_145, e_X11_lot_146, ob_91, rk_91_8, ar_96, kcl_i, kcl_r, kcl_l, kcl_0, kcl_n, true_and, and_true]
            rfl
          · intro x ⟨w, v8⟩ hx hI
            have hI' : w = pLot m fr hh x := hI
            have okx := ok x
            rw [← hI'] at okx
            have nn : (0 ≤ i 96 18) = ¬ (i 96 18 = -1) := by rw [← neg]; exact propext (Int32.not_lt).symm
            refine ⟨(gLot m fr x w, .int (kb (x = 0 ∧ i 96 18 = -1))), ?_, ?_⟩
            · show gLot m fr x w = gLot m fr x (pLot m fr hh x); rw [hI']
            · refine e_X11_lot_65.trans ?_
              simp only [e_X11_lot_0, e_X11_lot_1, e_X11_lot_2, e_X11_lot_5, e_X11_lot_6, e_X11_lot_7, e_X11_lot_10, e_X11_lot_13, e_X11_lot_14, e_X11_lot_15, e_X11_lot_16, e_X11_lot_19, e_X11_lot_22, e_X11_lot_25, e_X11_lot_26, e_X11_lot_27, e_X11_lot_28, e_X11_lot_31, e_X11_lot_32, e_X11_lot_35, e_X11_lot_37, e_X11_lot_38, e_X11_lot_39, e_X11_lot_42, e_X11_lot_44, e_X11_lot_45, e_X11_lot_46, e_X11_lot_49, e_X11_lot_50, e_X11_lot_53, e_X11_lot_54, e_X11_lot_57, e_X11_lot_58, e_X11_lot_59, e_X11_lot_60, e_X11_lot_62, e_X11_lot_63, e_X11_lot_67, e_X11_lot_68, e_X11_lot_71, e_X11_lot_73, e_X11_lot_76, e_X11_lot_77, e_X11_lot_80, e_X11_lot_82, e_X11_lot_83, e_X11_lot_86, e_X11_lot_87, e_X11_lot_90, e_X11_lot_91, e_X11_lot_93, e_X11_lot_95, e_X11_lot_98, e_X11_lot_99, e_X11_lot_102, e_X11_lot_104, e_X11_lot_105, e_X11_lot_106, e_X11_lot_107, e_X11_lot_109, e_X11_lot_111, e_X11_lot_114, e_X11_lot_115, e_X11_lot_118, e_X11_lot_119, e_X11_lot_122, e_X11_lot_123, e_X11_lot_126, e_X11_lot_127, e_X11_lot_128, e_X11_lot_129, e_X11_lot_130, e_X11_lot_132, e_X11_lot_135, e_X11_lot_138, e_X11_lot_139, e_X11_lot_140, e_X11_lot_142, e_X11_lot_145, e_X11_lot_146, ob_91, rk_91_8, ar_96, kcl_i, kcl_r, kcl_l, kcl_0, kcl_n, true_and, and_true, jpF hx (by omega), if_false, tn_z (show x < 2147483648 by omega), u96, w96, ki18, ni18, nn, h91', m1, i2l_nat (show m < 100000 by omega), i2l_nat (show m - 1 < 100000 by omega), ← Int64.ofNat_mul, ← Int64.ofNat_sub _ _ okx.1, tn_s]
              unfold gLot kb
              rw [hfr]
              by_cases q1 : x = 0
              · by_cases q2 : i 96 18 = -1
                · simp only [q1, q2, if_true, and_self, z10, if_false, decide_true, not_true_eq_false]; rfl
                · simp only [q1, q2, if_true, and_false, if_false, decide_false, not_false_eq_true]; rfl
              · simp only [q1, if_true, if_false, false_and, and_false]
        simp only [e_X11_lot_0, e_X11_lot_1, e_X11_lot_2, e_X11_lot_5, e_X11_lot_6, e_X11_lot_7, e_X11_lot_10, e_X11_lot_13, e_X11_lot_14, e_X11_lot_15, e_X11_lot_16, e_X11_lot_19, e_X11_lot_22, e_X11_lot_25, e_X11_lot_26, e_X11_lot_27, e_X11_lot_28, e_X11_lot_31, e_X11_lot_32, e_X11_lot_35, e_X11_lot_37, e_X11_lot_38, e_X11_lot_39, e_X11_lot_42, e_X11_lot_44, e_X11_lot_45, e_X11_lot_46, e_X11_lot_49, e_X11_lot_50, e_X11_lot_53, e_X11_lot_54, e_X11_lot_58, e_X11_lot_59, e_X11_lot_60, e_X11_lot_62, e_X11_lot_63, e_X11_lot_67, e_X11_lot_68, e_X11_lot_71, e_X11_lot_73, e_X11_lot_76, e_X11_lot_77, e_X11_lot_80, e_X11_lot_82, e_X11_lot_83, e_X11_lot_86, e_X11_lot_87, e_X11_lot_90, e_X11_lot_91, e_X11_lot_93, e_X11_lot_95, e_X11_lot_98, e_X11_lot_99, e_X11_lot_102, e_X11_lot_104, e_X11_lot_105, e_X11_lot_106, e_X11_lot_107, e_X11_lot_109, e_X11_lot_111, e_X11_lot_114, e_X11_lot_115, e_X11_lot_118, e_X11_lot_119, e_X11_lot_122, e_X11_lot_123, e_X11_lot_126, e_X11_lot_127, e_X11_lot_128, e_X11_lot_129, e_X11_lot_130, e_X11_lot_132, e_X11_lot_135, e_X11_lot_138, e_X11_lot_139, e_X11_lot_140, e_X11_lot_142, e_X11_lot_145, e_X11_lot_146, ob_91, rk_91_8, ar_96, kcl_i, kcl_r, kcl_l, kcl_0, kcl_n, true_and, and_true, uP_0, m_isMan h91' h8, kb_0, h0.1, l1, show (8 : Int64) = (8 : Int32).toInt64 from by decide, m_in, m_inI, h0.2, not_true_eq_false, not_false_eq_true, and_self, if_true, if_false, h91', c2, u96, w96, ki18, ni18, m_flag]
        rw [hhh] at key
        by_cases q1 : i 96 18 = Int32.ofNat a
        · simp only [q1, if_true, z10, if_false] at key ⊢; exact key
        · simp only [q1, if_true, if_false] at key ⊢; exact key
  · refine JJ_n h (-1) i (uPut i) ag_r (ag_uu ag_r) rfl rfl ?_ ?_
    · intro sc d y nx hd L st cu su K
      refine kCA_of (d := d + 499) (v := some (.int _)) (fun K => ?_)
      rw [km_125]
      show kWP sc (d + 499) 125 0 [.ref 0, .int p, .int q, .retAddr 0, .retAddr 0, .retAddr 0, .retAddr 0, .retAddr 0, .retAddr 0] [] _ K = _
      simp only [e_X10_lot_0, e_X10_lot_1, e_X10_lot_4, e_X10_lot_5, e_X10_lot_8, e_X10_lot_11, e_X10_lot_12, e_X10_lot_13, e_X10_lot_16, e_X10_lot_17, e_X10_lot_19, e_X10_lot_22, e_X10_lot_23, e_X10_lot_24, e_X10_lot_25, e_X10_lot_28, e_X10_lot_31, e_X10_lot_32, e_X10_lot_35, e_X10_lot_37, e_X10_lot_38, e_X10_lot_39, e_X10_lot_40, e_X10_lot_41, e_X10_lot_44, e_X10_lot_47, e_X10_lot_48, e_X10_lot_51, e_X10_lot_52, e_X10_lot_55, e_X10_lot_56, e_X10_lot_58, e_X10_lot_59, e_X10_lot_63, e_X10_lot_64, e_X10_lot_67, e_X10_lot_69, e_X10_lot_72, e_X10_lot_73, e_X10_lot_76, e_X10_lot_79, e_X10_lot_80, e_X10_lot_83, e_X10_lot_84, e_X10_lot_87, e_X10_lot_88, e_X10_lot_90, e_X10_lot_92, e_X10_lot_95, e_X10_lot_96, e_X10_lot_99, e_X10_lot_100, e_X10_lot_102, e_X10_lot_103, e_X10_lot_105, e_X10_lot_106, e_X10_lot_108, e_X10_lot_111, e_X10_lot_112, e_X10_lot_115, e_X10_lot_118, e_X10_lot_119, e_X10_lot_122, e_X10_lot_123, e_X10_lot_126, e_X10_lot_129, e_X10_lot_130, e_X10_lot_131, e_X10_lot_132, e_X10_lot_133, e_X10_lot_134, e_X10_lot_137, e_X10_lot_140, e_X10_lot_141, e_X10_lot_144, e_X10_lot_147, e_X10_lot_148, e_X10_lot_151, e_X10_lot_153, e_X10_lot_154, e_X10_lot_157, e_X10_lot_158, ob_0, rk_0_2, ob_5, rk_0_3, ob_10, ob_13, rk_0_1, ob_3, kcl_i, kcl_r, kcl_l, kcl_0, kcl_n, true_and, and_true, c_has, kb_0, h5]
      by_cases q1 : pHas (Int32.ofNat m) p = true
      · by_cases q2 : q < 1
        · simp [q1, q2]
        · have q3 : ¬ q ≤ 8 := fun e => h0 ⟨q1, q2, Int32.not_lt.2 e⟩
          simp [q1, q2, q3]
      · simp [q1]
    · intro sc d y nx hd L st cu su K
      have h91' : uPut i 91 3 = Int32.ofNat m := h91
      refine kCA_of (d := d + 499) (v := some (.int _)) (fun K => ?_)
      rw [km_238]
      show kWP sc (d + 499) 238 0 [.ref 91, .int p, .int q, .retAddr 0, .retAddr 0, .retAddr 0, .retAddr 0, .retAddr 0, .retAddr 0] [] _ K = _
      simp only [e_X11_lot_0, e_X11_lot_1, e_X11_lot_2, e_X11_lot_5, e_X11_lot_6, e_X11_lot_7, e_X11_lot_10, e_X11_lot_13, e_X11_lot_14, e_X11_lot_15, e_X11_lot_16, e_X11_lot_19, e_X11_lot_22, e_X11_lot_25, e_X11_lot_26, e_X11_lot_27, e_X11_lot_28, e_X11_lot_31, e_X11_lot_32, e_X11_lot_35, e_X11_lot_37, e_X11_lot_38, e_X11_lot_39, e_X11_lot_42, e_X11_lot_44, e_X11_lot_45, e_X11_lot_46, e_X11_lot_49, e_X11_lot_50, e_X11_lot_53, e_X11_lot_54, e_X11_lot_57, e_X11_lot_58, e_X11_lot_59, e_X11_lot_60, e_X11_lot_62, e_X11_lot_63, e_X11_lot_67, e_X11_lot_68, e_X11_lot_71, e_X11_lot_73, e_X11_lot_76, e_X11_lot_77, e_X11_lot_80, e_X11_lot_82, e_X11_lot_83, e_X11_lot_86, e_X11_lot_87, e_X11_lot_90, e_X11_lot_91, e_X11_lot_93, e_X11_lot_95, e_X11_lot_98, e_X11_lot_99, e_X11_lot_102, e_X11_lot_104, e_X11_lot_105, e_X11_lot_106, e_X11_lot_107, e_X11_lot_109, e_X11_lot_111, e_X11_lot_114, e_X11_lot_115, e_X11_lot_118, e_X11_lot_119, e_X11_lot_122, e_X11_lot_123, e_X11_lot_126, e_X11_lot_127, e_X11_lot_128, e_X11_lot_129, e_X11_lot_130, e_X11_lot_132, e_X11_lot_135, e_X11_lot_138, e_X11_lot_139, e_X11_lot_140, e_X11_lot_142, e_X11_lot_145, e_X11_lot_146, ob_91, rk_91_8, ar_96, kcl_i, kcl_r, kcl_l, kcl_0, kcl_n, true_and, and_true, uP_0, m_isMan h91' h8, kb_0, l1, show (8 : Int64) = (8 : Int32).toInt64 from by decide, m_in, m_inI]
      by_cases q1 : pHas (Int32.ofNat m) p = true
      · have q2 : ¬ (¬ q < 1 ∧ ¬ 8 < q) := fun e => h0 ⟨q1, e⟩
        simp only [q1, q2, not_true_eq_false, not_false_eq_true, if_true, if_false]
      · simp [q1]
end TC
