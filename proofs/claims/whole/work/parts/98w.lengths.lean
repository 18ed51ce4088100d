/-! lengths -/
section TC
variable {sc : Nat × (Nat → Int32)} {d y nx : Nat} {hd : List (Int × Nat)} {L st : List Value} {S : kS} {cu su : Nat} {i : Nat → Nat → Int32} {l : Nat → Nat → Int64} {f t c b m : Nat} {sp : Nat → Nat} {K : Option (Option Value) → kS → Prop}
variable {N M Z S1 Q A : Nat → Int32} {i1 i2 i3 : Nat → Nat → Int32} {l2 : Nat → Nat → Int64} {n n2 k x a o g : Nat} {v r p q : Int32} {zs zs2 : List Int64}
theorem k_findM {P Q : Nat → Prop} {p : Nat → Prop} [DecidablePred p] {n : Nat} (h : ∀ x, x < n → (∀ z, z < x → ¬ p z) → P x = if p x then Q x else P (x + 1)) : P 0 = match kfi p n 0 with | some y => Q y | none => P n := by
  have : ∀ k x, x + k = n → (∀ z, z < x → ¬ p z) → P x = match kfi p k x with | some y => Q y | none => P n := by
    intro k
    induction k with
    | zero => intro x hx _; have : x = n := by omega
              subst this; rfl
    | succ k ih =>
      intro x hx hz
      rw [h x (by omega) hz, kfi]
      by_cases q : p x
      · rw [if_pos q, if_pos q]
      · rw [if_neg q, if_neg q]
        refine ih (x + 1) (by omega) (fun z hz2 => ?_)
        by_cases e : z = x
        · subst e; exact q
        · exact hz z (by omega)
  exact this n 0 (by omega) (fun z hz => absurd hz (Nat.not_lt_zero z))
/-- the sign at a place of THE TEXT, -1 behind it -/
def tA (T : Nat → Int32) (n x : Nat) : Int32 := if x < n then T x else -1
def okL (T : Nat → Int32) (n x : Nat) : Prop := ¬ (tA T n x - 48 < 1) ∧ ¬ (9 < tA T n x - 48)
theorem c_atN {T : Nat → Int32} (hn : i 1 1 = Int32.ofNat n) (h80 : n ≤ 80) (hT : ∀ x, x < n → i 2 x = T x) {x : Nat} (hx : x < 100000) : kCA sc (d + 1) 92 [.ref 1, .int (Int32.ofNat x)] y nx hd L st ((120, cu, su), i, l, kR f t sp) K = kWP sc (d + 1) y nx L (.int (tA T n x) :: st) ((120, cu, su), i, l, kR f t sp) K := by
  have hs : ¬ 80 < i 1 1 := by rw [hn, show (80 : Int32) = Int32.ofNat 80 from rfl, tn_lt (by decide) (by omega)]; omega
  rw [c_at hs]
  have e : (if ¬ Int32.ofNat x < 0 ∧ ¬ i 1 1 ≤ Int32.ofNat x then i 2 (Int32.ofNat x).toNatClampNeg else -1) = tA T n x := by
    unfold tA
    rw [tn_cl (by omega), hn]
    by_cases q : x < n
    · rw [if_pos q, if_pos ⟨tn_nn (by omega), by rw [tn_le (by omega) (by omega)]; omega⟩]; exact hT x q
    · rw [if_neg q, if_neg (fun z => z.2 (by rw [tn_le (by omega) (by omega)]; omega))]
  rw [e]
theorem sub_m1 {y : Nat} : (-1 : Int32) - Int32.ofNat y = -1 - Int32.ofNat y := rfl
def lenA (T : Nat → Int32) (n : Nat) (A : Nat → Int32) : Nat → Int32 := kfo (fun x A => kuf A x (tA T n x - 48)) 8 A
theorem lenA_e {T : Nat → Int32} {x : Nat} : lenA T n A x = if x < 8 then tA T n x - 48 else A x := kfo_kuf x
theorem c_readLengths {T : Nat → Int32} (hn : i 1 1 = Int32.ofNat n) (h80 : n ≤ 80) (hT : ∀ x, x < n → i 2 x = T x) (hm : i 5 0 = Int32.ofNat m) (h8 : m ≤ 8) :
    (∀ z, kfi (fun x => ¬ (¬ (tA T n x - 48 < 1) ∧ ¬ (9 < tA T n x - 48))) 8 0 = some z → CC 97 [.ref 0] i l f t sp (.int (-1 - Int32.ofNat z)) (kupi i 1 1 0) l f t sp) ∧
    (kfi (fun x => ¬ (¬ (tA T n x - 48 < 1) ∧ ¬ (9 < tA T n x - 48))) 8 0 = none → (8 < n → CC 97 [.ref 0] i l f t sp (.int (-9)) (kupi i 1 1 0) l f t sp) ∧ (n ≤ 8 → CC 97 [.ref 0] i l f t sp (.int (pSum (lenA T n (i 9)) 8)) (kupi (aPut (aPut i 9 8 (lenA T n (i 9))) 8 8 (pWs (aPut i 9 8 (lenA T n (i 9))) m)) 1 1 0) l f t sp)) := by
  have R : ∀ (sc : Nat × (Nat → Int32)) (d cu su : Nat) (K : Option (Option Value) → kS → Prop), kWP sc (d + 498) 30 0 [.ref 5, .ref 1, .retAddr 0] [] ((120, cu, su), i, l, kR f t sp) K = match kfi (fun x => ¬ (¬ (tA T n x - 48 < 1) ∧ ¬ (9 < tA T n x - 48))) 8 0 with | some z => K (some (some (.int (-1 - Int32.ofNat z)))) ((120, cu, su), i, l, kR f t sp) | none => kWP sc (d + 498) 30 32 [.ref 5, .ref 1, .int (Int32.ofNat 8)] [] ((120, cu, su), i, l, kR f t sp) K := by
    intro sc d cu su K
    simp only [e_X3_readLengths_0, e_X3_readLengths_1, e_X3_readLengths_3, e_X3_readLengths_5, e_X3_readLengths_8, e_X3_readLengths_9, e_X3_readLengths_10, e_X3_readLengths_13, e_X3_readLengths_15, e_X3_readLengths_16, e_X3_readLengths_19, e_X3_readLengths_22, e_X3_readLengths_23, e_X3_readLengths_24, e_X3_readLengths_25, e_X3_readLengths_26, e_X3_readLengths_29, e_X3_readLengths_32, e_X3_readLengths_33, e_X3_readLengths_36, e_X3_readLengths_38, e_X3_readLengths_41, e_X3_readLengths_43, e_X3_readLengths_44, e_X3_readLengths_45, e_X3_readLengths_47, e_X3_readLengths_49, e_X3_readLengths_52, e_X3_readLengths_53, e_X3_readLengths_56, e_X3_readLengths_57, e_X3_readLengths_58, e_X3_readLengths_59, e_X3_readLengths_62, e_X3_readLengths_64, e_X3_readLengths_65, e_X3_readLengths_66, e_X3_readLengths_69, e_X3_readLengths_72, e_X3_readLengths_73, e_X3_readLengths_76, e_X3_readLengths_77, e_X3_readLengths_80, e_X3_readLengths_83, ob_1, ob_5, rk_5_4, ar_9, kcl_i, kcl_r, kcl_l, kcl_0, kcl_n, true_and, and_true]
    refine (k_find (P := fun x => kWP sc (d + 498) 30 2 [.ref 5, .ref 1, .int (Int32.ofNat x)] [] ((120, cu, su), i, l, kR f t sp) K) (Q := fun z => K (some (some (.int (-1 - Int32.ofNat z)))) ((120, cu, su), i, l, kR f t sp)) (p := fun x => ¬ (¬ (tA T n x - 48 < 1) ∧ ¬ (9 < tA T n x - 48))) (n := 8) ?_).trans ?_
    · intro x hx
      refine e_X3_readLengths_2.trans ?_
      simp only [e_X3_readLengths_0, e_X3_readLengths_1, e_X3_readLengths_3, e_X3_readLengths_5, e_X3_readLengths_8, e_X3_readLengths_9, e_X3_readLengths_10, e_X3_readLengths_13, e_X3_readLengths_15, e_X3_readLengths_16, e_X3_readLengths_19, e_X3_readLengths_22, e_X3_readLengths_23, e_X3_readLengths_24, e_X3_readLengths_25, e_X3_readLengths_26, e_X3_readLengths_29, e_X3_readLengths_32, e_X3_readLengths_33, e_X3_readLengths_36, e_X3_readLengths_38, e_X3_readLengths_41, e_X3_readLengths_43, e_X3_readLengths_44, e_X3_readLengths_45, e_X3_readLengths_47, e_X3_readLengths_49, e_X3_readLengths_52, e_X3_readLengths_53, e_X3_readLengths_56, e_X3_readLengths_57, e_X3_readLengths_58, e_X3_readLengths_59, e_X3_readLengths_62, e_X3_readLengths_64, e_X3_readLengths_65, e_X3_readLengths_66, e_X3_readLengths_69, e_X3_readLengths_72, e_X3_readLengths_73, e_X3_readLengths_76, e_X3_readLengths_77, e_X3_readLengths_80, e_X3_readLengths_83, ob_1, ob_5, rk_5_4, ar_9, kcl_i, kcl_r, kcl_l, kcl_0, kcl_n, true_and, and_true, jp8 hx, if_false, c_atN hn h80 hT (show x < 100000 by omega), c_isLength, kb_0, tn_s]
    · cases kfi (fun x => ¬ (¬ (tA T n x - 48 < 1) ∧ ¬ (9 < tA T n x - 48))) 8 0 with
      | some y => rfl
      | none =>
        refine e_X3_readLengths_2.trans ?_
        simp only [e_X3_readLengths_0, e_X3_readLengths_1, e_X3_readLengths_3, e_X3_readLengths_5, e_X3_readLengths_8, e_X3_readLengths_9, e_X3_readLengths_10, e_X3_readLengths_13, e_X3_readLengths_15, e_X3_readLengths_16, e_X3_readLengths_19, e_X3_readLengths_22, e_X3_readLengths_23, e_X3_readLengths_24, e_X3_readLengths_25, e_X3_readLengths_26, e_X3_readLengths_29, e_X3_readLengths_33, e_X3_readLengths_36, e_X3_readLengths_38, e_X3_readLengths_41, e_X3_readLengths_43, e_X3_readLengths_44, e_X3_readLengths_45, e_X3_readLengths_47, e_X3_readLengths_49, e_X3_readLengths_52, e_X3_readLengths_53, e_X3_readLengths_56, e_X3_readLengths_57, e_X3_readLengths_58, e_X3_readLengths_59, e_X3_readLengths_62, e_X3_readLengths_64, e_X3_readLengths_65, e_X3_readLengths_66, e_X3_readLengths_69, e_X3_readLengths_72, e_X3_readLengths_73, e_X3_readLengths_76, e_X3_readLengths_77, e_X3_readLengths_80, e_X3_readLengths_83, ob_1, ob_5, rk_5_4, ar_9, kcl_i, kcl_r, kcl_l, kcl_0, kcl_n, true_and, and_true, jp88, if_true]
        simp only [e_X3_readLengths_0, e_X3_readLengths_1, e_X3_readLengths_3, e_X3_readLengths_5, e_X3_readLengths_8, e_X3_readLengths_9, e_X3_readLengths_10, e_X3_readLengths_13, e_X3_readLengths_15, e_X3_readLengths_16, e_X3_readLengths_19, e_X3_readLengths_22, e_X3_readLengths_23, e_X3_readLengths_24, e_X3_readLengths_25, e_X3_readLengths_26, e_X3_readLengths_29, e_X3_readLengths_32, e_X3_readLengths_33, e_X3_readLengths_36, e_X3_readLengths_38, e_X3_readLengths_41, e_X3_readLengths_43, e_X3_readLengths_44, e_X3_readLengths_45, e_X3_readLengths_47, e_X3_readLengths_49, e_X3_readLengths_52, e_X3_readLengths_53, e_X3_readLengths_56, e_X3_readLengths_57, e_X3_readLengths_58, e_X3_readLengths_59, e_X3_readLengths_62, e_X3_readLengths_64, e_X3_readLengths_65, e_X3_readLengths_66, e_X3_readLengths_69, e_X3_readLengths_72, e_X3_readLengths_73, e_X3_readLengths_76, e_X3_readLengths_77, e_X3_readLengths_80, e_X3_readLengths_83, ob_1, ob_5, rk_5_4, ar_9, kcl_i, kcl_r, kcl_l, kcl_0, kcl_n, true_and, and_true]
  constructor
  · intro z hz sc d y nx hd L st cu su K
    refine kCA_of (d := d + 499) (v := some (.int _)) (fun K => ?_)
    rw [km_97]
    show kWP sc (d + 499) 97 0 [.ref 0, .retAddr 0] [] _ K = _
    simp only [e_X10_lengths_0, e_X10_lengths_1, e_X10_lengths_4, e_X10_lengths_5, e_X10_lengths_8, e_X10_lengths_11, e_X10_lengths_12, e_X10_lengths_13, e_X10_lengths_16, e_X10_lengths_19, e_X10_lengths_20, ob_0, rk_0_2, rk_0_0, ob_5, ob_1, kcl_i, kcl_r, kcl_l, kcl_0, kcl_n, true_and, and_true]
    have P := fun (y nx : Nat) (L st : List Value) (hd : List (Int × Nat)) (K : Option (Option Value) → kS → Prop) => kCA_of (sc := sc) (d := d + 498) (z := 30) (as := [.ref 5, .ref 1]) (y := y) (nx := nx) (hd := hd) (L := L) (st := st) (S := ((120, cu, su), i, l, kR f t sp)) (S2 := ((120, cu, su), i, l, kR f t sp)) (v := some (.int (-1 - Int32.ofNat z))) (K := K) (fun K => by
      rw [km_30]
      show kWP sc (d + 498) 30 0 [.ref 5, .ref 1, .retAddr 0] [] _ K = _
      rw [R, hz])
    rw [show d + 499 = d + 498 + 1 from rfl, P]
    show kWP sc (d + 498 + 1) _ _ _ [.int (-1 - Int32.ofNat z)] _ K = _
    simp only [e_X10_lengths_0, e_X10_lengths_1, e_X10_lengths_4, e_X10_lengths_5, e_X10_lengths_8, e_X10_lengths_11, e_X10_lengths_12, e_X10_lengths_13, e_X10_lengths_16, e_X10_lengths_19, e_X10_lengths_20, ob_0, rk_0_2, rk_0_0, ob_5, ob_1, kcl_i, kcl_r, kcl_l, kcl_0, kcl_n, true_and, and_true, c_empty]
  · intro hz
    constructor
    · intro h9 sc d y nx hd L st cu su K
      have c9 : (Int32.ofNat n ≤ 8) = False := by rw [show (8 : Int32) = Int32.ofNat 8 from rfl, tn_le (by omega) (by decide)]; exact eq_false (by omega)
      refine kCA_of (d := d + 499) (v := some (.int _)) (fun K => ?_)
      rw [km_97]
      show kWP sc (d + 499) 97 0 [.ref 0, .retAddr 0] [] _ K = _
      simp only [e_X10_lengths_0, e_X10_lengths_1, e_X10_lengths_4, e_X10_lengths_5, e_X10_lengths_8, e_X10_lengths_11, e_X10_lengths_12, e_X10_lengths_13, e_X10_lengths_16, e_X10_lengths_19, e_X10_lengths_20, ob_0, rk_0_2, rk_0_0, ob_5, ob_1, kcl_i, kcl_r, kcl_l, kcl_0, kcl_n, true_and, and_true]
      have P := fun (y nx : Nat) (L st : List Value) (hd : List (Int × Nat)) (K : Option (Option Value) → kS → Prop) => kCA_of (sc := sc) (d := d + 498) (z := 30) (as := [.ref 5, .ref 1]) (y := y) (nx := nx) (hd := hd) (L := L) (st := st) (S := ((120, cu, su), i, l, kR f t sp)) (S2 := ((120, cu, su), i, l, kR f t sp)) (v := some (.int (-9))) (K := K) (fun K => by
        rw [km_30]
        show kWP sc (d + 498) 30 0 [.ref 5, .ref 1, .retAddr 0] [] _ K = _
        rw [R, hz]
        simp only [e_X3_readLengths_0, e_X3_readLengths_1, e_X3_readLengths_3, e_X3_readLengths_5, e_X3_readLengths_8, e_X3_readLengths_9, e_X3_readLengths_10, e_X3_readLengths_13, e_X3_readLengths_15, e_X3_readLengths_16, e_X3_readLengths_19, e_X3_readLengths_22, e_X3_readLengths_23, e_X3_readLengths_24, e_X3_readLengths_25, e_X3_readLengths_26, e_X3_readLengths_29, e_X3_readLengths_32, e_X3_readLengths_33, e_X3_readLengths_36, e_X3_readLengths_38, e_X3_readLengths_41, e_X3_readLengths_43, e_X3_readLengths_44, e_X3_readLengths_45, e_X3_readLengths_47, e_X3_readLengths_49, e_X3_readLengths_52, e_X3_readLengths_53, e_X3_readLengths_56, e_X3_readLengths_57, e_X3_readLengths_58, e_X3_readLengths_59, e_X3_readLengths_62, e_X3_readLengths_64, e_X3_readLengths_65, e_X3_readLengths_66, e_X3_readLengths_69, e_X3_readLengths_72, e_X3_readLengths_73, e_X3_readLengths_76, e_X3_readLengths_77, e_X3_readLengths_80, e_X3_readLengths_83, ob_1, ob_5, rk_5_4, ar_9, kcl_i, kcl_r, kcl_l, kcl_0, kcl_n, true_and, and_true, hn, c9, if_false])
      rw [show d + 499 = d + 498 + 1 from rfl, P]
      show kWP sc (d + 498 + 1) _ _ _ [.int (-9)] _ K = _
      simp only [e_X10_lengths_0, e_X10_lengths_1, e_X10_lengths_4, e_X10_lengths_5, e_X10_lengths_8, e_X10_lengths_11, e_X10_lengths_12, e_X10_lengths_13, e_X10_lengths_16, e_X10_lengths_19, e_X10_lengths_20, ob_0, rk_0_2, rk_0_0, ob_5, ob_1, kcl_i, kcl_r, kcl_l, kcl_0, kcl_n, true_and, and_true, c_empty]
    · intro h9 sc d y nx hd L st cu su K
      have c9 : (Int32.ofNat n ≤ 8) = True := by rw [show (8 : Int32) = Int32.ofNat 8 from rfl, tn_le (by omega) (by decide)]; exact eq_true (by omega)
      refine kCA_of (d := d + 499) (v := some (.int _)) (fun K => ?_)
      rw [km_97]
      show kWP sc (d + 499) 97 0 [.ref 0, .retAddr 0] [] _ K = _
      simp only [e_X10_lengths_0, e_X10_lengths_1, e_X10_lengths_4, e_X10_lengths_5, e_X10_lengths_8, e_X10_lengths_11, e_X10_lengths_12, e_X10_lengths_13, e_X10_lengths_16, e_X10_lengths_19, e_X10_lengths_20, ob_0, rk_0_2, rk_0_0, ob_5, ob_1, kcl_i, kcl_r, kcl_l, kcl_0, kcl_n, true_and, and_true]
      have P := fun (y nx : Nat) (L st : List Value) (hd : List (Int × Nat)) (K : Option (Option Value) → kS → Prop) => kCA_of (sc := sc) (d := d + 498) (z := 30) (as := [.ref 5, .ref 1]) (y := y) (nx := nx) (hd := hd) (L := L) (st := st) (S := ((120, cu, su), i, l, kR f t sp)) (S2 := ((120, cu, su), aPut (aPut i 9 8 (lenA T n (i 9))) 8 8 (pWs (aPut i 9 8 (lenA T n (i 9))) m), l, kR f t sp)) (v := some (.int (pSum (lenA T n (i 9)) 8))) (K := K) (fun K => by
        rw [km_30]
        show kWP sc (d + 498) 30 0 [.ref 5, .ref 1, .retAddr 0] [] _ K = _
        rw [R, hz]
        simp only [e_X3_readLengths_0, e_X3_readLengths_1, e_X3_readLengths_3, e_X3_readLengths_5, e_X3_readLengths_8, e_X3_readLengths_9, e_X3_readLengths_10, e_X3_readLengths_13, e_X3_readLengths_15, e_X3_readLengths_16, e_X3_readLengths_19, e_X3_readLengths_22, e_X3_readLengths_23, e_X3_readLengths_24, e_X3_readLengths_25, e_X3_readLengths_26, e_X3_readLengths_29, e_X3_readLengths_32, e_X3_readLengths_33, e_X3_readLengths_36, e_X3_readLengths_38, e_X3_readLengths_41, e_X3_readLengths_43, e_X3_readLengths_44, e_X3_readLengths_45, e_X3_readLengths_47, e_X3_readLengths_49, e_X3_readLengths_52, e_X3_readLengths_53, e_X3_readLengths_56, e_X3_readLengths_57, e_X3_readLengths_58, e_X3_readLengths_59, e_X3_readLengths_62, e_X3_readLengths_64, e_X3_readLengths_65, e_X3_readLengths_66, e_X3_readLengths_69, e_X3_readLengths_72, e_X3_readLengths_73, e_X3_readLengths_76, e_X3_readLengths_77, e_X3_readLengths_80, e_X3_readLengths_83, ob_1, ob_5, rk_5_4, ar_9, kcl_i, kcl_r, kcl_l, kcl_0, kcl_n, true_and, and_true, hn, c9, if_true]
        have F := k_for (P := fun x (A : Nat → Int32) => kWP sc (d + 498) 30 46 [.ref 5, .ref 1, .int (Int32.ofNat x)] [] ((120, cu, su), aPut i 9 8 A, l, kR f t sp) K) (n := 8) (g := fun x A => kuf A x (tA T n x - 48)) (fun x A hx => by
          refine e_X3_readLengths_46.trans ?_
          simp only [e_X3_readLengths_0, e_X3_readLengths_1, e_X3_readLengths_3, e_X3_readLengths_5, e_X3_readLengths_8, e_X3_readLengths_9, e_X3_readLengths_10, e_X3_readLengths_13, e_X3_readLengths_15, e_X3_readLengths_16, e_X3_readLengths_19, e_X3_readLengths_22, e_X3_readLengths_23, e_X3_readLengths_24, e_X3_readLengths_25, e_X3_readLengths_26, e_X3_readLengths_29, e_X3_readLengths_32, e_X3_readLengths_33, e_X3_readLengths_36, e_X3_readLengths_38, e_X3_readLengths_41, e_X3_readLengths_43, e_X3_readLengths_44, e_X3_readLengths_45, e_X3_readLengths_47, e_X3_readLengths_49, e_X3_readLengths_52, e_X3_readLengths_53, e_X3_readLengths_56, e_X3_readLengths_57, e_X3_readLengths_58, e_X3_readLengths_59, e_X3_readLengths_62, e_X3_readLengths_64, e_X3_readLengths_65, e_X3_readLengths_66, e_X3_readLengths_69, e_X3_readLengths_72, e_X3_readLengths_73, e_X3_readLengths_76, e_X3_readLengths_77, e_X3_readLengths_80, e_X3_readLengths_83, ob_1, ob_5, rk_5_4, ar_9, kcl_i, kcl_r, kcl_l, kcl_0, kcl_n, true_and, and_true, jp8 hx, if_false, c_atN (i := aPut i 9 8 A) (by rw [aP_o (by decide)]; exact hn) h80 (by rw [aP_o (by decide)]; exact hT) (show x < 100000 by omega), kin8 hx, cl_n (show x < 100000 by omega), aW_s hx, tn_s]) (i 9)
        rw [aP_g] at F
        refine F.trans ?_
        refine e_X3_readLengths_46.trans ?_
        have hm2 : aPut i 9 8 (lenA T n (i 9)) 5 0 = Int32.ofNat m := by rw [aP_o (by decide)]; exact hm
        have eL : kfo (fun x A => kuf A x (tA T n x - 48)) 8 (i 9) = lenA T n (i 9) := rfl
        have eS : pSum (aPut (aPut i 9 8 (lenA T n (i 9))) 8 8 (pWs (aPut i 9 8 (lenA T n (i 9))) m) 9) 8 = pSum (lenA T n (i 9)) 8 := kfo_congr (fun x hx s => by rw [aP_o (by decide), aP_s hx])
        simp only [e_X3_readLengths_0, e_X3_readLengths_1, e_X3_readLengths_3, e_X3_readLengths_5, e_X3_readLengths_8, e_X3_readLengths_9, e_X3_readLengths_10, e_X3_readLengths_13, e_X3_readLengths_15, e_X3_readLengths_16, e_X3_readLengths_19, e_X3_readLengths_22, e_X3_readLengths_23, e_X3_readLengths_24, e_X3_readLengths_25, e_X3_readLengths_26, e_X3_readLengths_29, e_X3_readLengths_32, e_X3_readLengths_33, e_X3_readLengths_36, e_X3_readLengths_38, e_X3_readLengths_41, e_X3_readLengths_43, e_X3_readLengths_44, e_X3_readLengths_45, e_X3_readLengths_47, e_X3_readLengths_49, e_X3_readLengths_52, e_X3_readLengths_53, e_X3_readLengths_56, e_X3_readLengths_57, e_X3_readLengths_58, e_X3_readLengths_59, e_X3_readLengths_62, e_X3_readLengths_64, e_X3_readLengths_65, e_X3_readLengths_66, e_X3_readLengths_69, e_X3_readLengths_72, e_X3_readLengths_73, e_X3_readLengths_76, e_X3_readLengths_77, e_X3_readLengths_80, e_X3_readLengths_83, ob_1, ob_5, rk_5_4, ar_9, kcl_i, kcl_r, kcl_l, kcl_0, kcl_n, true_and, and_true, jp88, if_true, eL, c_weigh hm2 h8, c_sumOf (Or.inr (Or.inr rfl)), eS])
      rw [show d + 499 = d + 498 + 1 from rfl, P]
      show kWP sc (d + 498 + 1) _ _ _ [.int (pSum (lenA T n (i 9)) 8)] _ K = _
      simp only [e_X10_lengths_0, e_X10_lengths_1, e_X10_lengths_4, e_X10_lengths_5, e_X10_lengths_8, e_X10_lengths_11, e_X10_lengths_12, e_X10_lengths_13, e_X10_lengths_16, e_X10_lengths_19, e_X10_lengths_20, ob_0, rk_0_2, rk_0_0, ob_5, ob_1, kcl_i, kcl_r, kcl_l, kcl_0, kcl_n, true_and, and_true, c_empty]
theorem tU {c j : Nat} {v : Int32} (h : c ≠ 91) : kupi (tS i a o g) c j v = tS (kupi i c j v) a o g := by
  funext b z; unfold kupi tS
  dsimp only
  by_cases q : b = c ∧ z = j
  · rw [if_pos q, if_neg (by omega), if_neg (by omega), if_neg (by omega), if_pos q]
  · rw [if_neg q, if_neg q]
theorem kin16 {a : Nat} (h : a < 16) : kin (Int32.ofNat a) 16 = True := by rw [tn_kin (by omega)]; exact eq_true h
def rdA (T : Nat → Int32) (A : Nat → Int32) (x : Nat) : Nat → Int32 := kfo (fun x A => kuf A x (T x - 48)) x A
def rdS (T : Nat → Int32) (x : Nat) : Int32 := kfo (fun x s => s + (T x - 48)) x 0
theorem rdA_e {T : Nat → Int32} {j : Nat} : rdA T A x j = if j < x then T j - 48 else A j := kfo_kuf j
def bdL (T : Nat → Int32) (n x : Nat) : Prop := ¬ (x < n ∧ dgIn (T x) 1 9 = true)
theorem m_lengths {T : Nat → Int32} (hn : i 91 11 = Int32.ofNat n) (h80 : n ≤ 80) (hT : ∀ x, x < n → i 98 x = T x) :
    (∀ z, kfi (fun x => ¬ (x < n ∧ dgIn (T x) 1 9 = true)) 8 0 = some z → CC 179 [.ref 91] i l f t sp (.int (-1 - Int32.ofNat z)) (tS (aPut (kupi (uPut i) 91 11 0) 99 16 (kuf (rdA T (i 99) z) z (-1))) z n 0) l f t sp) ∧
    (kfi (fun x => ¬ (x < n ∧ dgIn (T x) 1 9 = true)) 8 0 = none → (8 < n → CC 179 [.ref 91] i l f t sp (.int (-9)) (tS (aPut (kupi (uPut i) 91 11 0) 99 16 (rdA T (i 99) 8)) 8 n 0) l f t sp) ∧ (n ≤ 8 → CC 179 [.ref 91] i l f t sp (.int (rdS T 8)) (tS (aPut (aPut (kupi (uPut i) 91 11 0) 99 16 (rdA T (i 99) 8)) 93 8 (kfo (fun x A => kuf A x (T x - 48)) 8 (i 93))) 8 n 0) l f t sp)) := by
  have hn' : uPut i 91 11 = Int32.ofNat n := hn
  have e0 : aPut (kupi (uPut i) 91 11 0) 99 16 (i 99) = kupi (uPut i) 91 11 0 := by
    have := @aP_g (kupi (uPut i) 91 11 0) 99 16
    rw [kupi_cf (by decide), uP_o (by decide)] at this; exact this
  have e98 : ∀ A, aPut (kupi (uPut i) 91 11 0) 99 16 A 98 = i 98 := fun A => by rw [aP_o (by decide), kupi_cf (by decide), uP_o (by decide)]
  have R : ∀ (sc : Nat × (Nat → Int32)) (d cu su : Nat) (K : Option (Option Value) → kS → Prop), kWP sc (d + 499) 179 0 [.ref 91, .retAddr 0, .retAddr 0, .retAddr 0] [] ((120, cu, su), i, l, kR f t sp) K = match kfi (fun x => ¬ (x < n ∧ dgIn (T x) 1 9 = true)) 8 0 with | some z => K (some (some (.int (-1 - Int32.ofNat z)))) ((120, cu, su), tS (aPut (kupi (uPut i) 91 11 0) 99 16 (kuf (rdA T (i 99) z) z (-1))) z n 0, l, kR f t sp) | none => kWP sc (d + 499) 179 71 [.ref 91, .int (rdS T 8), .int 1, .int (Int32.ofNat 8)] [] ((120, cu, su), tS (aPut (kupi (uPut i) 91 11 0) 99 16 (rdA T (i 99) 8)) 8 n 0, l, kR f t sp) K := by
    intro sc d cu su K
    have B := fun (y nx : Nat) (L st : List Value) (hd : List (Int × Nat)) (K : Option (Option Value) → kS → Prop) => m_begins (sc := sc) (d := d + 498) (y := y) (nx := nx) (hd := hd) (L := L) (st := st) (cu := cu) (su := su) (i := uPut i) (l := l) (f := f) (t := t) (sp := sp) (K := K) (n := n) (k := 80) hn' (by omega) (by decide)
    rw [show (Int32.ofNat 80) = (80 : Int32) from rfl, Nat.min_eq_left h80] at B
    simp only [e_X11_lengths_0, e_X11_lengths_1, e_X11_lengths_2, e_X11_lengths_5, e_X11_lengths_6, e_X11_lengths_8, e_X11_lengths_11, e_X11_lengths_12, e_X11_lengths_13, e_X11_lengths_14, e_X11_lengths_15, e_X11_lengths_16, e_X11_lengths_17, e_X11_lengths_19, e_X11_lengths_21, e_X11_lengths_24, e_X11_lengths_25, e_X11_lengths_28, e_X11_lengths_29, e_X11_lengths_32, e_X11_lengths_33, e_X11_lengths_34, e_X11_lengths_35, e_X11_lengths_37, e_X11_lengths_40, e_X11_lengths_41, e_X11_lengths_42, e_X11_lengths_45, e_X11_lengths_46, e_X11_lengths_47, e_X11_lengths_50, e_X11_lengths_51, e_X11_lengths_54, e_X11_lengths_55, e_X11_lengths_56, e_X11_lengths_57, e_X11_lengths_58, e_X11_lengths_61, e_X11_lengths_62, e_X11_lengths_63, e_X11_lengths_64, e_X11_lengths_65, e_X11_lengths_68, e_X11_lengths_72, e_X11_lengths_75, e_X11_lengths_76, e_X11_lengths_79, e_X11_lengths_80, e_X11_lengths_83, e_X11_lengths_86, e_X11_lengths_87, e_X11_lengths_88, e_X11_lengths_91, e_X11_lengths_92, e_X11_lengths_93, e_X11_lengths_94, e_X11_lengths_96, e_X11_lengths_98, e_X11_lengths_101, e_X11_lengths_102, e_X11_lengths_105, e_X11_lengths_106, e_X11_lengths_107, e_X11_lengths_110, e_X11_lengths_111, e_X11_lengths_112, e_X11_lengths_113, e_X11_lengths_116, e_X11_lengths_119, e_X11_lengths_120, ob_91, rk_91_15, ar_99, rk_91_5, ar_93, kcl_i, kcl_r, kcl_l, kcl_0, kcl_n, true_and, and_true, uP_0, B]
    refine Eq.trans ?_ ((k_findM (P := fun x => kWP sc (d + 499) 179 18 [.ref 91, .int (rdS T x), .int 1, .int (Int32.ofNat x)] [] ((120, cu, su), tS (aPut (kupi (uPut i) 91 11 0) 99 16 (rdA T (i 99) x)) x n 0, l, kR f t sp) K) (Q := fun z => K (some (some (.int (-1 - Int32.ofNat z)))) ((120, cu, su), tS (aPut (kupi (uPut i) 91 11 0) 99 16 (kuf (rdA T (i 99) z) z (-1))) z n 0, l, kR f t sp)) (p := fun x => ¬ (x < n ∧ dgIn (T x) 1 9 = true)) (n := 8) ?_).trans ?_)
    · show kWP sc (d + 499) _ _ _ _ (_, tS (kupi (uPut i) 91 11 0) 0 n 0, _, _) K = kWP sc (d + 499) _ _ _ _ (_, tS (aPut (kupi (uPut i) 91 11 0) 99 16 (i 99)) 0 n 0, _, _) K
      rw [e0]; rfl
    · intro x hx hall
      have hxn : x ≤ n := by
        by_cases e : x = 0
        · omega
        · have := hall (x - 1) (by omega)
          rw [Classical.not_not] at this; omega
      have eA : kuf (rdA T (i 99) x) x (T x - 48) = rdA T (i 99) (x + 1) := rfl
      have eS : rdS T x + (T x - 48) = rdS T (x + 1) := rfl
      have eX : rdA T (i 99) (x + 1) x = T x - 48 := by rw [rdA_e, if_pos (by omega)]
      refine e_X11_lengths_18.trans ?_
      simp only [e_X11_lengths_0, e_X11_lengths_1, e_X11_lengths_2, e_X11_lengths_5, e_X11_lengths_6, e_X11_lengths_8, e_X11_lengths_11, e_X11_lengths_12, e_X11_lengths_13, e_X11_lengths_14, e_X11_lengths_15, e_X11_lengths_16, e_X11_lengths_17, e_X11_lengths_19, e_X11_lengths_21, e_X11_lengths_24, e_X11_lengths_25, e_X11_lengths_28, e_X11_lengths_29, e_X11_lengths_32, e_X11_lengths_33, e_X11_lengths_34, e_X11_lengths_35, e_X11_lengths_37, e_X11_lengths_40, e_X11_lengths_41, e_X11_lengths_42, e_X11_lengths_45, e_X11_lengths_46, e_X11_lengths_47, e_X11_lengths_50, e_X11_lengths_51, e_X11_lengths_54, e_X11_lengths_55, e_X11_lengths_56, e_X11_lengths_57, e_X11_lengths_58, e_X11_lengths_61, e_X11_lengths_62, e_X11_lengths_63, e_X11_lengths_64, e_X11_lengths_65, e_X11_lengths_68, e_X11_lengths_71, e_X11_lengths_72, e_X11_lengths_75, e_X11_lengths_76, e_X11_lengths_79, e_X11_lengths_80, e_X11_lengths_83, e_X11_lengths_86, e_X11_lengths_87, e_X11_lengths_88, e_X11_lengths_91, e_X11_lengths_92, e_X11_lengths_93, e_X11_lengths_94, e_X11_lengths_96, e_X11_lengths_98, e_X11_lengths_101, e_X11_lengths_102, e_X11_lengths_105, e_X11_lengths_106, e_X11_lengths_107, e_X11_lengths_110, e_X11_lengths_111, e_X11_lengths_112, e_X11_lengths_113, e_X11_lengths_116, e_X11_lengths_119, e_X11_lengths_120, ob_91, rk_91_15, ar_99, rk_91_5, ar_93, kcl_i, kcl_r, kcl_l, kcl_0, kcl_n, true_and, and_true, jp8 hx, if_false, z10, m_digitIn h80 hxn, e98]
      by_cases q : x < n ∧ dgIn (T x) 1 9 = true
      · have q' : x < n ∧ dgIn (i 98 x) 1 9 = true := by rw [hT x q.1]; exact q
        have qd := dgIn_iff.1 q.2
        have qp : ¬ T x - 48 ≤ 0 := fun e => qd.1 (Int32.lt_of_le_of_lt e (by decide))
        simp only [q, q', hT x q.1, if_true, not_true_eq_false, if_false, and_self, tU (show 99 ≠ 91 by decide), tS_o (show 99 ≠ 91 by decide), kin16 (show x < 16 by omega), cl_n (show x < 100000 by omega), aW_s (show x < 16 by omega), aP_s (show x < 16 by omega), kuf_s, eA, eX, qp, eS, tn_s, true_and]
      · have q' : ¬ (x < n ∧ dgIn (i 98 x) 1 9 = true) := fun e => q ⟨e.1, by rw [← hT x e.1]; exact e.2⟩
        simp only [q, q', if_true, not_false_eq_true, if_false, tU (show 99 ≠ 91 by decide), tS_o (show 99 ≠ 91 by decide), kin16 (show x < 16 by omega), cl_n (show x < 100000 by omega), aW_s (show x < 16 by omega), aP_s (show x < 16 by omega), kuf_s, show ((-1 : Int32) ≤ 0) = True from eq_true (by decide), tn_s, true_and]
        refine e_X11_lengths_18.trans ?_
        simp only [e_X11_lengths_0, e_X11_lengths_1, e_X11_lengths_2, e_X11_lengths_5, e_X11_lengths_6, e_X11_lengths_8, e_X11_lengths_11, e_X11_lengths_12, e_X11_lengths_13, e_X11_lengths_14, e_X11_lengths_15, e_X11_lengths_16, e_X11_lengths_17, e_X11_lengths_19, e_X11_lengths_21, e_X11_lengths_24, e_X11_lengths_25, e_X11_lengths_28, e_X11_lengths_29, e_X11_lengths_32, e_X11_lengths_33, e_X11_lengths_34, e_X11_lengths_35, e_X11_lengths_37, e_X11_lengths_40, e_X11_lengths_41, e_X11_lengths_42, e_X11_lengths_45, e_X11_lengths_46, e_X11_lengths_47, e_X11_lengths_50, e_X11_lengths_51, e_X11_lengths_54, e_X11_lengths_55, e_X11_lengths_56, e_X11_lengths_57, e_X11_lengths_58, e_X11_lengths_61, e_X11_lengths_62, e_X11_lengths_63, e_X11_lengths_64, e_X11_lengths_65, e_X11_lengths_68, e_X11_lengths_71, e_X11_lengths_72, e_X11_lengths_75, e_X11_lengths_76, e_X11_lengths_79, e_X11_lengths_80, e_X11_lengths_83, e_X11_lengths_86, e_X11_lengths_87, e_X11_lengths_88, e_X11_lengths_91, e_X11_lengths_92, e_X11_lengths_93, e_X11_lengths_94, e_X11_lengths_96, e_X11_lengths_98, e_X11_lengths_101, e_X11_lengths_102, e_X11_lengths_105, e_X11_lengths_106, e_X11_lengths_107, e_X11_lengths_110, e_X11_lengths_111, e_X11_lengths_112, e_X11_lengths_113, e_X11_lengths_116, e_X11_lengths_119, e_X11_lengths_120, ob_91, rk_91_15, ar_99, rk_91_5, ar_93, kcl_i, kcl_r, kcl_l, kcl_0, kcl_n, true_and, and_true, if_true, tS_12, ite_self]
    · cases kfi (fun x => ¬ (x < n ∧ dgIn (T x) 1 9 = true)) 8 0 with
      | some y => rfl
      | none =>
        refine e_X11_lengths_18.trans ?_
        simp only [e_X11_lengths_0, e_X11_lengths_1, e_X11_lengths_2, e_X11_lengths_5, e_X11_lengths_6, e_X11_lengths_8, e_X11_lengths_11, e_X11_lengths_12, e_X11_lengths_13, e_X11_lengths_14, e_X11_lengths_15, e_X11_lengths_16, e_X11_lengths_17, e_X11_lengths_19, e_X11_lengths_21, e_X11_lengths_24, e_X11_lengths_25, e_X11_lengths_28, e_X11_lengths_29, e_X11_lengths_32, e_X11_lengths_33, e_X11_lengths_34, e_X11_lengths_35, e_X11_lengths_37, e_X11_lengths_40, e_X11_lengths_41, e_X11_lengths_42, e_X11_lengths_45, e_X11_lengths_46, e_X11_lengths_47, e_X11_lengths_50, e_X11_lengths_51, e_X11_lengths_54, e_X11_lengths_55, e_X11_lengths_56, e_X11_lengths_57, e_X11_lengths_58, e_X11_lengths_61, e_X11_lengths_62, e_X11_lengths_63, e_X11_lengths_64, e_X11_lengths_65, e_X11_lengths_68, e_X11_lengths_72, e_X11_lengths_75, e_X11_lengths_76, e_X11_lengths_79, e_X11_lengths_80, e_X11_lengths_83, e_X11_lengths_86, e_X11_lengths_87, e_X11_lengths_88, e_X11_lengths_91, e_X11_lengths_92, e_X11_lengths_93, e_X11_lengths_94, e_X11_lengths_96, e_X11_lengths_98, e_X11_lengths_101, e_X11_lengths_102, e_X11_lengths_105, e_X11_lengths_106, e_X11_lengths_107, e_X11_lengths_110, e_X11_lengths_111, e_X11_lengths_112, e_X11_lengths_113, e_X11_lengths_116, e_X11_lengths_119, e_X11_lengths_120, ob_91, rk_91_15, ar_99, rk_91_5, ar_93, kcl_i, kcl_r, kcl_l, kcl_0, kcl_n, true_and, and_true, jp88, if_true]
  constructor
  · intro z hz sc d y nx hd L st cu su K
    refine kCA_of (d := d + 499) (v := some (.int _)) (fun K => ?_)
    rw [km_179]
    show kWP sc (d + 499) 179 0 [.ref 91, .retAddr 0, .retAddr 0, .retAddr 0] [] _ K = _
    rw [R, hz]
  · intro hz
    constructor
    · intro h9 sc d y nx hd L st cu su K
      have c9 : ¬ n ≤ 8 := by omega
      refine kCA_of (d := d + 499) (v := some (.int _)) (fun K => ?_)
      rw [km_179]
      show kWP sc (d + 499) 179 0 [.ref 91, .retAddr 0, .retAddr 0, .retAddr 0] [] _ K = _
      rw [R, hz]
      simp only [e_X11_lengths_0, e_X11_lengths_1, e_X11_lengths_2, e_X11_lengths_5, e_X11_lengths_6, e_X11_lengths_8, e_X11_lengths_11, e_X11_lengths_12, e_X11_lengths_13, e_X11_lengths_14, e_X11_lengths_15, e_X11_lengths_16, e_X11_lengths_17, e_X11_lengths_19, e_X11_lengths_21, e_X11_lengths_24, e_X11_lengths_25, e_X11_lengths_28, e_X11_lengths_29, e_X11_lengths_32, e_X11_lengths_33, e_X11_lengths_34, e_X11_lengths_35, e_X11_lengths_37, e_X11_lengths_40, e_X11_lengths_41, e_X11_lengths_42, e_X11_lengths_45, e_X11_lengths_46, e_X11_lengths_47, e_X11_lengths_50, e_X11_lengths_51, e_X11_lengths_54, e_X11_lengths_55, e_X11_lengths_56, e_X11_lengths_57, e_X11_lengths_58, e_X11_lengths_61, e_X11_lengths_62, e_X11_lengths_63, e_X11_lengths_64, e_X11_lengths_65, e_X11_lengths_68, e_X11_lengths_71, e_X11_lengths_72, e_X11_lengths_75, e_X11_lengths_76, e_X11_lengths_79, e_X11_lengths_80, e_X11_lengths_83, e_X11_lengths_86, e_X11_lengths_87, e_X11_lengths_88, e_X11_lengths_91, e_X11_lengths_92, e_X11_lengths_93, e_X11_lengths_94, e_X11_lengths_96, e_X11_lengths_98, e_X11_lengths_101, e_X11_lengths_102, e_X11_lengths_105, e_X11_lengths_106, e_X11_lengths_107, e_X11_lengths_110, e_X11_lengths_111, e_X11_lengths_112, e_X11_lengths_113, e_X11_lengths_116, e_X11_lengths_119, e_X11_lengths_120, ob_91, rk_91_15, ar_99, rk_91_5, ar_93, kcl_i, kcl_r, kcl_l, kcl_0, kcl_n, true_and, and_true, z10, if_false, tS_12, tS_13, ge_nat (show n < 100000 by omega) (show 8 < 100000 by decide), c9]
      rfl
    · intro h9 sc d y nx hd L st cu su K
      refine kCA_of (d := d + 499) (v := some (.int _)) (fun K => ?_)
      rw [km_179]
      show kWP sc (d + 499) 179 0 [.ref 91, .retAddr 0, .retAddr 0, .retAddr 0] [] _ K = _
      rw [R, hz]
      simp only [e_X11_lengths_0, e_X11_lengths_1, e_X11_lengths_2, e_X11_lengths_5, e_X11_lengths_6, e_X11_lengths_8, e_X11_lengths_11, e_X11_lengths_12, e_X11_lengths_13, e_X11_lengths_14, e_X11_lengths_15, e_X11_lengths_16, e_X11_lengths_17, e_X11_lengths_19, e_X11_lengths_21, e_X11_lengths_24, e_X11_lengths_25, e_X11_lengths_28, e_X11_lengths_29, e_X11_lengths_32, e_X11_lengths_33, e_X11_lengths_34, e_X11_lengths_35, e_X11_lengths_37, e_X11_lengths_40, e_X11_lengths_41, e_X11_lengths_42, e_X11_lengths_45, e_X11_lengths_46, e_X11_lengths_47, e_X11_lengths_50, e_X11_lengths_51, e_X11_lengths_54, e_X11_lengths_55, e_X11_lengths_56, e_X11_lengths_57, e_X11_lengths_58, e_X11_lengths_61, e_X11_lengths_62, e_X11_lengths_63, e_X11_lengths_64, e_X11_lengths_65, e_X11_lengths_68, e_X11_lengths_71, e_X11_lengths_72, e_X11_lengths_75, e_X11_lengths_76, e_X11_lengths_79, e_X11_lengths_80, e_X11_lengths_83, e_X11_lengths_86, e_X11_lengths_87, e_X11_lengths_88, e_X11_lengths_91, e_X11_lengths_92, e_X11_lengths_93, e_X11_lengths_94, e_X11_lengths_96, e_X11_lengths_98, e_X11_lengths_101, e_X11_lengths_102, e_X11_lengths_105, e_X11_lengths_106, e_X11_lengths_107, e_X11_lengths_110, e_X11_lengths_111, e_X11_lengths_112, e_X11_lengths_113, e_X11_lengths_116, e_X11_lengths_119, e_X11_lengths_120, ob_91, rk_91_15, ar_99, rk_91_5, ar_93, kcl_i, kcl_r, kcl_l, kcl_0, kcl_n, true_and, and_true, z10, if_false, tS_12, tS_13, ge_nat (show n < 100000 by omega) (show 8 < 100000 by decide), h9, if_true]
      have e93 : aPut (kupi (uPut i) 91 11 0) 99 16 (rdA T (i 99) 8) 93 = i 93 := by rw [aP_o (by decide), kupi_cf (by decide), u93]
      have F := k_for (P := fun x (A : Nat → Int32) => kWP sc (d + 499) 179 95 [.ref 91, .int (rdS T 8), .int 1, .int (Int32.ofNat x)] [] ((120, cu, su), tS (aPut (aPut (kupi (uPut i) 91 11 0) 99 16 (rdA T (i 99) 8)) 93 8 A) 8 n 0, l, kR f t sp) K) (n := 8) (g := fun x A => kuf A x (T x - 48)) (fun x A hx => by
        have eX : rdA T (i 99) 8 x = T x - 48 := by rw [rdA_e, if_pos hx]
        refine e_X11_lengths_95.trans ?_
        simp only [e_X11_lengths_0, e_X11_lengths_1, e_X11_lengths_2, e_X11_lengths_5, e_X11_lengths_6, e_X11_lengths_8, e_X11_lengths_11, e_X11_lengths_12, e_X11_lengths_13, e_X11_lengths_14, e_X11_lengths_15, e_X11_lengths_16, e_X11_lengths_17, e_X11_lengths_19, e_X11_lengths_21, e_X11_lengths_24, e_X11_lengths_25, e_X11_lengths_28, e_X11_lengths_29, e_X11_lengths_32, e_X11_lengths_33, e_X11_lengths_34, e_X11_lengths_35, e_X11_lengths_37, e_X11_lengths_40, e_X11_lengths_41, e_X11_lengths_42, e_X11_lengths_45, e_X11_lengths_46, e_X11_lengths_47, e_X11_lengths_50, e_X11_lengths_51, e_X11_lengths_54, e_X11_lengths_55, e_X11_lengths_56, e_X11_lengths_57, e_X11_lengths_58, e_X11_lengths_61, e_X11_lengths_62, e_X11_lengths_63, e_X11_lengths_64, e_X11_lengths_65, e_X11_lengths_68, e_X11_lengths_71, e_X11_lengths_72, e_X11_lengths_75, e_X11_lengths_76, e_X11_lengths_79, e_X11_lengths_80, e_X11_lengths_83, e_X11_lengths_86, e_X11_lengths_87, e_X11_lengths_88, e_X11_lengths_91, e_X11_lengths_92, e_X11_lengths_93, e_X11_lengths_94, e_X11_lengths_96, e_X11_lengths_98, e_X11_lengths_101, e_X11_lengths_102, e_X11_lengths_105, e_X11_lengths_106, e_X11_lengths_107, e_X11_lengths_110, e_X11_lengths_111, e_X11_lengths_112, e_X11_lengths_113, e_X11_lengths_116, e_X11_lengths_119, e_X11_lengths_120, ob_91, rk_91_15, ar_99, rk_91_5, ar_93, kcl_i, kcl_r, kcl_l, kcl_0, kcl_n, true_and, and_true, jp8 hx, if_false, tS_o (show 99 ≠ 91 by decide), aP_o (show 99 ≠ 93 by decide), aP_s (show x < 16 by omega), eX, kin8 hx, kin16 (show x < 16 by omega), cl_n (show x < 100000 by omega), tU (show 93 ≠ 91 by decide), aW_s hx, tn_s]) (i 93)
      rw [← e93, aP_g] at F
      refine F.trans ?_
      rw [e93]
      refine e_X11_lengths_95.trans ?_
      simp only [e_X11_lengths_0, e_X11_lengths_1, e_X11_lengths_2, e_X11_lengths_5, e_X11_lengths_6, e_X11_lengths_8, e_X11_lengths_11, e_X11_lengths_12, e_X11_lengths_13, e_X11_lengths_14, e_X11_lengths_15, e_X11_lengths_16, e_X11_lengths_17, e_X11_lengths_19, e_X11_lengths_21, e_X11_lengths_24, e_X11_lengths_25, e_X11_lengths_28, e_X11_lengths_29, e_X11_lengths_32, e_X11_lengths_33, e_X11_lengths_34, e_X11_lengths_35, e_X11_lengths_37, e_X11_lengths_40, e_X11_lengths_41, e_X11_lengths_42, e_X11_lengths_45, e_X11_lengths_46, e_X11_lengths_47, e_X11_lengths_50, e_X11_lengths_51, e_X11_lengths_54, e_X11_lengths_55, e_X11_lengths_56, e_X11_lengths_57, e_X11_lengths_58, e_X11_lengths_61, e_X11_lengths_62, e_X11_lengths_63, e_X11_lengths_64, e_X11_lengths_65, e_X11_lengths_68, e_X11_lengths_71, e_X11_lengths_72, e_X11_lengths_75, e_X11_lengths_76, e_X11_lengths_79, e_X11_lengths_80, e_X11_lengths_83, e_X11_lengths_86, e_X11_lengths_87, e_X11_lengths_88, e_X11_lengths_91, e_X11_lengths_92, e_X11_lengths_93, e_X11_lengths_94, e_X11_lengths_96, e_X11_lengths_98, e_X11_lengths_101, e_X11_lengths_102, e_X11_lengths_105, e_X11_lengths_106, e_X11_lengths_107, e_X11_lengths_110, e_X11_lengths_111, e_X11_lengths_112, e_X11_lengths_113, e_X11_lengths_116, e_X11_lengths_119, e_X11_lengths_120, ob_91, rk_91_15, ar_99, rk_91_5, ar_93, kcl_i, kcl_r, kcl_l, kcl_0, kcl_n, true_and, and_true, jp88, if_true]
theorem bad_eq {T : Nat → Int32} {x : Nat} : (¬ (x < n ∧ dgIn (T x) 1 9 = true)) ↔ (¬ (¬ (tA T n x - 48 < 1) ∧ ¬ (9 < tA T n x - 48))) := by
  unfold tA
  by_cases q : x < n
  · rw [if_pos q, dgIn_iff]
    exact ⟨fun h e => h ⟨q, e⟩, fun h e => h e.2⟩
  · rw [if_neg q]
    exact ⟨fun _ e => e.1 (by decide), fun _ e => q e.1⟩
theorem dg_nat {v : Int32} (h : dgIn v 1 9 = true) : ∃ a, 1 ≤ a ∧ a ≤ 9 ∧ v - 48 = Int32.ofNat a := len_nat (dgIn_iff.1 h)
theorem J_lengths (h : IV m i l f t sp) : JJ 97 179 [] i l f t sp := by
  obtain ⟨⟨h5, h91, h8, e9, hle, hp⟩, ⟨n, h80, x1, x2, x3⟩, hW, hN, hU, hS, hK, hH, hR, hF⟩ := id h
  have C := c_readLengths (l := l) (f := f) (t := t) (sp := sp) (T := i 98) x1 h80 (fun x hx => (x3 x hx).1) h5 h8
  have eq : kfi (fun x => ¬ (x < n ∧ dgIn (i 98 x) 1 9 = true)) 8 0 = kfi (fun x => ¬ (¬ (tA (i 98) n x - 48 < 1) ∧ ¬ (9 < tA (i 98) n x - 48))) 8 0 := kfi_congr (fun x _ _ => bad_eq)
  have hX0 : ∀ (i2 : Nat → Nat → Int32), i2 1 1 = 0 → i2 91 11 = 0 → IX (i2 1 1) (i2 91 11) (i2 2) (i2 98) := fun i2 a b => ⟨0, by decide, a, b, fun x hx => absurd hx (Nat.not_lt_zero x)⟩
  have fin : ∀ (A : Nat → Int32) (z : Nat) (r : Int32), CC 97 [.ref 0] i l f t sp (.int r) (kupi i 1 1 0) l f t sp → CC 179 [.ref 91] (kupi i 1 1 0) l f t sp (.int r) (tS (aPut (kupi (uPut (kupi i 1 1 0)) 91 11 0) 99 16 A) z n 0) l f t sp → JJ 97 179 [] i l f t sp := by
    intro A z r hC hM
    refine ⟨r, _, _, f, t, sp, _, _, m, hC, hM, ?_⟩
    refine kIV_t h ?_ (hX0 _ ?_ ?_) ?_
    · intro c k hq
      unfold tS
      rw [if_neg (fun e => by rw [e.1, e.2] at hq; exact absurd hq (by decide)), if_neg (fun e => by rw [e.1, e.2] at hq; exact absurd hq (by decide)), if_neg (fun e => by rw [e.1, e.2] at hq; exact absurd hq (by decide))]
      exact ag_a (ag_u (ag_u (ag_u ag_r rfl) rfl) rfl) (fun _ _ => rfl) c k hq
    · rw [tS_o (by decide), aP_o (by decide), kupi_c (by decide), uP_o (by decide), kupi_s]
    · rw [tS_f (by decide) (by decide) (by decide), aP_o (by decide), kupi_s]
    · rw [tS_o (by decide), aP_o (by decide), kupi_c (by decide), uP_o (by decide), kupi_c (by decide), tS_f (by decide) (by decide) (by decide), aP_o (by decide), kupi_k (by decide), uP_f (by decide), kupi_c (by decide)]; exact hW
  cases hk : kfi (fun x => ¬ (¬ (tA (i 98) n x - 48 < 1) ∧ ¬ (9 < tA (i 98) n x - 48))) 8 0 with
  | some z =>
    have W := (m_lengths (i := kupi i 1 1 0) (l := l) (f := f) (t := t) (sp := sp) (T := i 98) (n := n) x2 h80 (fun _ _ => rfl)).1 z (eq.trans hk)
    exact fin _ _ _ (C.1 z hk) W
  | none =>
    have M := (m_lengths (i := kupi i 1 1 0) (l := l) (f := f) (t := t) (sp := sp) (T := i 98) (n := n) x2 h80 (fun _ _ => rfl)).2 (eq.trans hk)
    have hok : ∀ x, x < 8 → x < n ∧ dgIn (i 98 x) 1 9 = true := fun x hx => Classical.byContradiction fun e => kfi_none (eq.trans hk) x (Nat.zero_le _) (by omega) e
    by_cases q : 8 < n
    · exact fin _ _ _ ((C.2 hk).1 q) (M.1 q)
    · have q9 : n ≤ 8 := by omega
      have hC := (C.2 hk).2 q9
      have eT : ∀ x, x < 8 → tA (i 98) n x = i 98 x := fun x hx => by unfold tA; rw [if_pos (hok x hx).1]
      have eSum : pSum (lenA (i 98) n (i 9)) 8 = rdS (i 98) 8 := kfo_congr (fun x hx s => by rw [lenA_e, if_pos hx, eT x hx])
      rw [eSum] at hC
      have hiC : ∀ c, c ≠ 1 → c ≠ 8 → c ≠ 9 → kupi (aPut (aPut i 9 8 (lenA (i 98) n (i 9))) 8 8 (pWs (aPut i 9 8 (lenA (i 98) n (i 9))) m)) 1 1 0 c = i c := fun c c1 c2 c3 => by rw [kupi_cf c1, aP_o c2, aP_o c3]
      have x9 : kupi (aPut (aPut i 9 8 (lenA (i 98) n (i 9))) 8 8 (pWs (aPut i 9 8 (lenA (i 98) n (i 9))) m)) 1 1 0 9 = fun x => if x < 8 then i 98 x - 48 else i 93 x := by
        rw [kupi_cf (by decide), aP_o (by decide)]
        funext x
        by_cases hx : x < 8
        · rw [aP_s hx, lenA_e, if_pos hx, if_pos hx, eT x hx]
        · unfold aPut; rw [if_neg (fun z => hx z.2), if_neg hx, e9]
      have x8 : ∀ a, a < m → kupi (aPut (aPut i 9 8 (lenA (i 98) n (i 9))) 8 8 (pWs (aPut i 9 8 (lenA (i 98) n (i 9))) m)) 1 1 0 8 a = pAble (fun x => if x < 8 then i 98 x - 48 else i 93 x) (i 94 a) (i 95 a) := by
        intro a ha
        rw [kupi_c (by decide), aP_s (by omega), pWs_eq, if_pos ha, aP_o (show 6 ≠ 9 by decide), aP_o (show 7 ≠ 9 by decide), pW_able, (hp a ha).1, (hp a ha).2.1]
        have : aPut i 9 8 (lenA (i 98) n (i 9)) 9 = fun x => if x < 8 then i 98 x - 48 else i 93 x := by
          funext x
          by_cases hx : x < 8
          · rw [aP_s hx, lenA_e, if_pos hx, if_pos hx, eT x hx]
          · unfold aPut; rw [if_neg (fun z => hx z.2), if_neg hx, e9]
        rw [this]
      have x11 : kupi (aPut (aPut i 9 8 (lenA (i 98) n (i 9))) 8 8 (pWs (aPut i 9 8 (lenA (i 98) n (i 9))) m)) 1 1 0 1 1 = 0 := kupi_s
      generalize hX1 : kupi (aPut (aPut i 9 8 (lenA (i 98) n (i 9))) 8 8 (pWs (aPut i 9 8 (lenA (i 98) n (i 9))) m)) 1 1 0 = X at hC hiC x9 x8 x11
      have W := ((m_lengths (i := X) (l := l) (f := f) (t := t) (sp := sp) (T := i 98) (n := n) (by rw [hiC 91 (by decide) (by decide) (by decide)]; exact x2) h80 (fun x _ => by rw [hiC 98 (by decide) (by decide) (by decide)])).2 (eq.trans hk)).2 q9
      rw [hiC 93 (by decide) (by decide) (by decide)] at W
      refine ⟨_, _, _, f, t, sp, _, _, m, hC, W, ?_⟩
      have ap : ∀ {c : Nat}, c ≠ 91 → c ≠ 93 → c ≠ 99 → tS (aPut (aPut (kupi (uPut X) 91 11 0) 99 16 (rdA (i 98) (X 99) 8)) 93 8 (kfo (fun x A => kuf A x (i 98 x - 48)) 8 (i 93))) 8 n 0 c = X c := fun c1 c2 c3 => by rw [tS_o c1, aP_o c2, aP_o c3, kupi_cf c1, uP_o c1]
      have api : ∀ {c : Nat}, c ≠ 91 → c ≠ 93 → c ≠ 99 → c ≠ 1 → c ≠ 8 → c ≠ 9 → tS (aPut (aPut (kupi (uPut X) 91 11 0) 99 16 (rdA (i 98) (X 99) 8)) 93 8 (kfo (fun x A => kuf A x (i 98 x - 48)) 8 (i 93))) 8 n 0 c = i c := fun c1 c2 c3 c4 c5 c6 => by rw [ap c1 c2 c3, hiC _ c4 c5 c6]
      have a91 : ∀ {j : Nat}, j ≠ 0 → j ≠ 11 → j ≠ 12 → j ≠ 13 → j ≠ 14 → tS (aPut (aPut (kupi (uPut X) 91 11 0) 99 16 (rdA (i 98) (X 99) 8)) 93 8 (kfo (fun x A => kuf A x (i 98 x - 48)) 8 (i 93))) 8 n 0 91 j = i 91 j := fun j0 j1 j2 j3 j4 => by rw [tS_f j2 j3 j4, aP_o (by decide), aP_o (by decide), kupi_k j1, uP_f j0, hiC 91 (by decide) (by decide) (by decide)]
      have y93 : tS (aPut (aPut (kupi (uPut X) 91 11 0) 99 16 (rdA (i 98) (X 99) 8)) 93 8 (kfo (fun x A => kuf A x (i 98 x - 48)) 8 (i 93))) 8 n 0 93 = fun x => if x < 8 then i 98 x - 48 else i 93 x := by
        rw [tS_o (by decide)]
        funext x
        by_cases hx : x < 8
        · rw [aP_s hx, kfo_kuf, if_pos hx]
        · unfold aPut; rw [if_neg (fun z => hx z.2), if_neg hx, if_neg (fun z => absurd z.1 (by decide)), kupi_c (by decide), u93, hiC 93 (by decide) (by decide) (by decide)]
      refine ⟨⟨?_, ?_, h8, ?_, ?_, ?_⟩, ?_, ?_, ?_, ?_, hS, ?_, ?_, ?_, hF⟩
      · rw [api (by decide) (by decide) (by decide) (by decide) (by decide) (by decide)]; exact h5
      · rw [a91 (by decide) (by decide) (by decide) (by decide) (by decide)]; exact h91
      · rw [ap (by decide) (by decide) (by decide), x9, y93]
      · rw [y93]
        intro x hx
        obtain ⟨a, a1, a9, e⟩ := dg_nat (hok x hx).2
        refine ⟨a, a1, a9, ?_⟩
        show (if x < 8 then i 98 x - 48 else i 93 x) = _
        rw [if_pos hx]; exact e
      · intro a ha
        refine ⟨?_, ?_, ?_⟩
        · rw [api (c := 6) (by decide) (by decide) (by decide) (by decide) (by decide) (by decide), api (c := 94) (by decide) (by decide) (by decide) (by decide) (by decide) (by decide)]; exact (hp a ha).1
        · rw [api (c := 7) (by decide) (by decide) (by decide) (by decide) (by decide) (by decide), api (c := 95) (by decide) (by decide) (by decide) (by decide) (by decide) (by decide)]; exact (hp a ha).2.1
        · rw [ap (c := 8) (by decide) (by decide) (by decide), x8 a ha, y93, api (c := 94) (by decide) (by decide) (by decide) (by decide) (by decide) (by decide), api (c := 95) (by decide) (by decide) (by decide) (by decide) (by decide) (by decide)]
      · refine hX0 _ ?_ ?_
        · rw [ap (by decide) (by decide) (by decide)]; exact x11
        · rw [tS_f (by decide) (by decide) (by decide), aP_o (by decide), aP_o (by decide), kupi_s]
      · rw [api (by decide) (by decide) (by decide) (by decide) (by decide) (by decide), a91 (by decide) (by decide) (by decide) (by decide) (by decide)]; exact hW
      · rw [nGet_c (i := i) (c := 10) (api (by decide) (by decide) (by decide) (by decide) (by decide) (by decide)) (api (by decide) (by decide) (by decide) (by decide) (by decide) (by decide)) (api (by decide) (by decide) (by decide) (by decide) (by decide) (by decide)), api (c := 96) (by decide) (by decide) (by decide) (by decide) (by decide) (by decide)]; exact hN
      · rw [api (c := 16) (by decide) (by decide) (by decide) (by decide) (by decide) (by decide), api (c := 104) (by decide) (by decide) (by decide) (by decide) (by decide) (by decide), a91 (by decide) (by decide) (by decide) (by decide) (by decide)]
        exact IU_c hS hU (fun c c1 c2 => api (by omega) (by omega) (by omega) (by omega) (by omega) (by omega))
      · rw [a91 (by decide) (by decide) (by decide) (by decide) (by decide), api (c := 19) (by decide) (by decide) (by decide) (by decide) (by decide) (by decide), api (c := 116) (by decide) (by decide) (by decide) (by decide) (by decide) (by decide), api (c := 117) (by decide) (by decide) (by decide) (by decide) (by decide) (by decide), api (c := 118) (by decide) (by decide) (by decide) (by decide) (by decide) (by decide)]
        exact IK_c hK (fun c c1 c2 => api (by omega) (by omega) (by omega) (by omega) (by omega) (by omega))
      · rw [api (c := 74) (by decide) (by decide) (by decide) (by decide) (by decide) (by decide), api (c := 75) (by decide) (by decide) (by decide) (by decide) (by decide) (by decide), api (c := 76) (by decide) (by decide) (by decide) (by decide) (by decide) (by decide), api (c := 113) (by decide) (by decide) (by decide) (by decide) (by decide) (by decide), api (c := 114) (by decide) (by decide) (by decide) (by decide) (by decide) (by decide), a91 (by decide) (by decide) (by decide) (by decide) (by decide)]; exact hH
      · have gg : ∀ c, 77 ≤ c → c < 91 → tS (aPut (aPut (kupi (uPut X) 91 11 0) 99 16 (rdA (i 98) (X 99) 8)) 93 8 (kfo (fun x A => kuf A x (i 98 x - 48)) 8 (i 93))) 8 n 0 c = i c := fun c c1 c2 => api (by omega) (by omega) (by omega) (by omega) (by omega) (by omega)
        refine IR_c hF ?_ (by rw [gg 85 (by decide) (by decide)]) (by rw [gg 88 (by decide) (by decide)]) (gg 86 (by decide) (by decide)) (gg 89 (by decide) (by decide))
        rw [a91 (by decide) (by decide) (by decide) (by decide) (by decide), api (c := 100) (by decide) (by decide) (by decide) (by decide) (by decide) (by decide)]; exact hR
end TC
