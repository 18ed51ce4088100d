/-! the past: what can be undone, what is kept -/
section TC
variable {sc : Nat × (Nat → Int32)} {d y nx : Nat} {hd : List (Int × Nat)} {L st : List Value} {S : kS} {cu su : Nat} {i : Nat → Nat → Int32} {l : Nat → Nat → Int64} {f t c b m : Nat} {sp : Nat → Nat} {K : Option (Option Value) → kS → Prop}
variable {N : Nat → Int32}
def kus (sp : Nat → Nat) (k x : Nat) : Nat → Nat := fun j => if j = k then x else sp j
theorem kR_u {k x : Nat} (hk : k < 15) : kupr (kR f t sp) 17 k (.ref x) = kR f t (kus sp k x) := by
  funext a j
  unfold kupr kR kus
  by_cases h : a = 17 ∧ j = k
  · rw [if_pos h]
    have e1 : ¬ (a = 0 ∧ j = 10) := by omega
    have e2 : ¬ (a = 0 ∧ j = 11) := by omega
    have e3 : a = 17 ∧ j < 15 := by omega
    rw [if_neg e1, if_neg e2, if_pos e3, if_pos h.2]
  · rw [if_neg h]
    by_cases e1 : a = 0 ∧ j = 10
    · rw [if_pos e1, if_pos e1]
    · rw [if_neg e1, if_neg e1]
      by_cases e2 : a = 0 ∧ j = 11
      · rw [if_pos e2, if_pos e2]
      · rw [if_neg e2, if_neg e2]
        by_cases e3 : a = 17 ∧ j < 15
        · rw [if_pos e3, if_pos e3, if_neg (fun e => h ⟨e3.1, e⟩)]
        · rw [if_neg e3, if_neg e3]
def spRot (sp : Nat → Nat) : Nat → Nat := kus (kfo (fun x p => kus p x (p (x + 1))) 14 sp) 14 (sp 0)
theorem spRot_eq {j : Nat} (h : j < 15) : spRot sp j = if j < 14 then sp (j + 1) else sp 0 := by
  have g : ∀ n, n ≤ 14 → ∀ j, kfo (fun x (p : Nat → Nat) => kus p x (p (x + 1))) n sp j = if j < n then sp (j + 1) else sp j := by
    intro n
    induction n with
    | zero => intro _ j; simp [kfo]
    | succ n ih =>
      intro hn j
      show (if j = n then kfo (fun x (p : Nat → Nat) => kus p x (p (x + 1))) n sp (n + 1) else kfo (fun x (p : Nat → Nat) => kus p x (p (x + 1))) n sp j) = _
      rw [ih (by omega), ih (by omega)]
      by_cases e : j = n
      · subst e; rw [if_pos rfl, if_neg (by omega), if_pos (by omega)]
      · rw [if_neg e]
        by_cases e2 : j < n
        · rw [if_pos e2, if_pos (by omega)]
        · rw [if_neg e2, if_neg (by omega)]
  show (if j = 14 then sp 0 else kfo (fun x (p : Nat → Nat) => kus p x (p (x + 1))) 14 sp j) = _
  by_cases e : j = 14
  · subst e; simp
  · rw [if_neg e]
    rw [g 14 (by omega)]
    rw [if_pos (by omega), if_pos (by omega)]
theorem spRot_ok (h : ∀ j, j < 15 → kNc (sp j) = true) : ∀ j, j < 15 → kNc (spRot sp j) = true := by
  intro j hj
  rw [spRot_eq hj]
  split
  · exact h _ (by omega)
  · exact h _ (by omega)
theorem c_drop {n : Nat} (hsp : ∀ j, j < 15 → kNc (sp j) = true) (hn : i 16 1 = Int32.ofNat n) (h0 : 0 < n) : kCA sc (d + 1) 26 [.ref 16] y nx hd L st ((120, cu, su), i, l, kR f t sp) K = kWP sc (d + 1) y nx L st ((120, cu, su), kupi i 16 1 (Int32.ofNat (n - 1)), l, kR f t (spRot sp)) K := by
  refine kCA_of (d := d) (v := none) (S2 := ((120, cu, su), kupi i 16 1 (Int32.ofNat (n - 1)), l, kR f t (spRot sp))) (fun K => ?_)
  rw [km_26]
  show kWP sc (d) 26 0 [.ref 16, .retAddr 0, .retAddr 0] [] ((120, cu, su), i, l, kR f t sp) K = K (some (none)) ((120, cu, su), kupi i 16 1 (Int32.ofNat (n - 1)), l, kR f t (spRot sp))
  have k0 : kin 0 15 = True := eq_true (by decide)
  have z0 : Int32.toNatClampNeg 0 = 0 := rfl
  simp only [e_X2_dropOldest_0, e_X2_dropOldest_1, e_X2_dropOldest_4, e_X2_dropOldest_5, e_X2_dropOldest_6, e_X2_dropOldest_7, e_X2_dropOldest_8, e_X2_dropOldest_10, e_X2_dropOldest_12, e_X2_dropOldest_15, e_X2_dropOldest_16, e_X2_dropOldest_19, e_X2_dropOldest_20, e_X2_dropOldest_21, e_X2_dropOldest_22, e_X2_dropOldest_23, e_X2_dropOldest_26, e_X2_dropOldest_27, e_X2_dropOldest_28, e_X2_dropOldest_29, e_X2_dropOldest_32, e_X2_dropOldest_35, e_X2_dropOldest_36, e_X2_dropOldest_39, e_X2_dropOldest_41, e_X2_dropOldest_42, e_X2_dropOldest_43, e_X2_dropOldest_44, e_X2_dropOldest_45, e_X2_dropOldest_48, e_X2_dropOldest_49, e_X2_dropOldest_50, e_X2_dropOldest_53, ob_16, rk_16_0, ar_17, kcl_i, kcl_r, kcl_l, kcl_0, kcl_n, true_and, and_true, k0, z0, rk_17 (show 0 < 15 by decide)]
  refine (k_forI (P := fun x (p : Nat → Nat) => kWP sc d 26 9 [.ref 16, .ref (sp 0), .int (Int32.ofNat (x + 1))] [] ((120, cu, su), i, l, kR f t p) K) (I := fun _ p => ∀ j, j < 15 → kNc (p j) = true) (n := 14) (g := fun x p => kus p x (p (x + 1))) ?_ sp hsp).1.trans ?_
  · intro x p hx hp
    have c1 : (15 ≤ Int32.ofNat (x + 1)) = False := by rw [show (15 : Int32) = Int32.ofNat 15 from rfl, tn_le (by omega) (by omega)]; exact eq_false (by omega)
    have c2 : kin (Int32.ofNat (x + 1)) 15 = True := by rw [tn_kin (by omega)]; exact eq_true (by omega)
    have c3 : kin (Int32.ofNat x) 15 = True := by rw [tn_kin (by omega)]; exact eq_true (by omega)
    have c4 : Int32.ofNat (x + 1) - 1 = Int32.ofNat x := tn_sub (a := x + 1) (by omega)
    refine ⟨?_, ?_⟩
    · refine e_X2_dropOldest_9.trans ?_
      simp only [e_X2_dropOldest_0, e_X2_dropOldest_1, e_X2_dropOldest_4, e_X2_dropOldest_5, e_X2_dropOldest_6, e_X2_dropOldest_7, e_X2_dropOldest_8, e_X2_dropOldest_10, e_X2_dropOldest_12, e_X2_dropOldest_15, e_X2_dropOldest_16, e_X2_dropOldest_19, e_X2_dropOldest_20, e_X2_dropOldest_21, e_X2_dropOldest_22, e_X2_dropOldest_23, e_X2_dropOldest_26, e_X2_dropOldest_27, e_X2_dropOldest_28, e_X2_dropOldest_29, e_X2_dropOldest_32, e_X2_dropOldest_35, e_X2_dropOldest_36, e_X2_dropOldest_39, e_X2_dropOldest_41, e_X2_dropOldest_42, e_X2_dropOldest_43, e_X2_dropOldest_44, e_X2_dropOldest_45, e_X2_dropOldest_48, e_X2_dropOldest_49, e_X2_dropOldest_50, e_X2_dropOldest_53, ob_16, rk_16_0, ar_17, kcl_i, kcl_r, kcl_l, kcl_0, kcl_n, true_and, and_true, c1, c2, c3, c4, if_false, tn_cl (show x + 1 < 2147483648 by omega), tn_cl (show x < 2147483648 by omega), rk_17 (show x + 1 < 15 by omega), ob_n (hp (x + 1) (by omega)), kR_u (show x < 15 by omega), tn_s]
    · intro j hj
      unfold kus
      split
      · exact hp _ (by omega)
      · exact hp _ hj
  · have c2 : kin 14 15 = True := eq_true (by decide)
    refine e_X2_dropOldest_9.trans ?_
    simp only [e_X2_dropOldest_0, e_X2_dropOldest_1, e_X2_dropOldest_4, e_X2_dropOldest_5, e_X2_dropOldest_6, e_X2_dropOldest_7, e_X2_dropOldest_8, e_X2_dropOldest_10, e_X2_dropOldest_12, e_X2_dropOldest_15, e_X2_dropOldest_16, e_X2_dropOldest_19, e_X2_dropOldest_20, e_X2_dropOldest_21, e_X2_dropOldest_22, e_X2_dropOldest_23, e_X2_dropOldest_26, e_X2_dropOldest_27, e_X2_dropOldest_28, e_X2_dropOldest_29, e_X2_dropOldest_32, e_X2_dropOldest_35, e_X2_dropOldest_36, e_X2_dropOldest_39, e_X2_dropOldest_41, e_X2_dropOldest_42, e_X2_dropOldest_43, e_X2_dropOldest_44, e_X2_dropOldest_45, e_X2_dropOldest_48, e_X2_dropOldest_49, e_X2_dropOldest_50, e_X2_dropOldest_53, ob_16, rk_16_0, ar_17, kcl_i, kcl_r, kcl_l, kcl_0, kcl_n, true_and, and_true, show ((15 : Int32) ≤ Int32.ofNat (14 + 1)) = True from eq_true (by decide), if_true, c2, ob_n (hsp 0 (by omega)), show Int32.toNatClampNeg 14 = 14 from rfl, kR_u (show 14 < 15 by decide), hn, tn_sub h0]
    rfl
def pR (k : Nat) (sp : Nat → Nat) : Nat → Nat := if k = 15 then spRot sp else sp
def pK (k : Nat) : Nat := if k = 15 then 14 else k
def pRem (i : Nat → Nat → Int32) (sp : Nat → Nat) (k c : Nat) : Nat → Nat → Int32 := kupi (nPut (kupi i 16 1 (Int32.ofNat (pK k))) (pR k sp (pK k)) (nGet i c)) 16 1 (Int32.ofNat (pK k + 1))
theorem nGet_c {i2 : Nat → Nat → Int32} (h0 : i2 c = i c) (h1 : i2 (c + 1) = i (c + 1)) (h2 : i2 (c + 2) = i (c + 2)) : nGet i2 c = nGet i c := by
  funext k; unfold nGet; rw [h0, h1, h2]
theorem nGet_16 {v : Int32} (hc : kNc c = true) : nGet (kupi i 16 1 v) c = nGet i c := by
  have h := kNc_all (P := fun c => 16 ≠ c ∧ 16 ≠ c + 1 ∧ 16 ≠ c + 2) (by decide) hc
  exact nGet_c (kupi_cf (Ne.symm h.1)) (kupi_cf (Ne.symm h.2.1)) (kupi_cf (Ne.symm h.2.2))
theorem c_remember {k : Nat} (hc : kNc c = true) (hsp : ∀ j, j < 15 → kNc (sp j) = true) (hne : ∀ j, j < 15 → sp j ≠ c) (hk : i 16 1 = Int32.ofNat k) (h15 : k ≤ 15) : kCA sc (d + 2) 21 [.ref 16, .ref c] y nx hd L st ((120, cu, su), i, l, kR f t sp) K = kWP sc (d + 2) y nx L st ((120, cu, su), pRem i sp k c, l, kR f t (pR k sp)) K := by
  refine kCA_of (d := d + 1) (v := none) (S2 := ((120, cu, su), pRem i sp k c, l, kR f t (pR k sp))) (fun K => ?_)
  rw [km_21]
  show kWP sc (d + 1) 21 0 [.ref 16, .ref c] [] ((120, cu, su), i, l, kR f t sp) K = K (some (none)) ((120, cu, su), pRem i sp k c, l, kR f t (pR k sp))
  have e15 : (Int32.ofNat k = 15) = (k = 15) := tn_eq (b := 15) (by omega) (by decide)
  simp only [e_X2_remember_0, e_X2_remember_1, e_X2_remember_4, e_X2_remember_6, e_X2_remember_9, e_X2_remember_10, e_X2_remember_13, e_X2_remember_14, e_X2_remember_17, e_X2_remember_18, e_X2_remember_21, e_X2_remember_22, e_X2_remember_23, e_X2_remember_26, e_X2_remember_27, e_X2_remember_28, e_X2_remember_31, e_X2_remember_32, e_X2_remember_33, e_X2_remember_36, ob_16, rk_16_0, ar_17, ob_n hc, kcl_i, kcl_r, kcl_l, kcl_0, kcl_n, true_and, and_true, hk, e15]
  have hN16 : ∀ (x : Nat) (i2 : Nat → Nat → Int32) (N : Nat → Int32), kNc x = true → nPut i2 x N 16 1 = i2 16 1 := by
    intro x i2 N hx
    have h := kNc_all (P := fun c => 16 ≠ c ∧ 16 ≠ c + 1 ∧ 16 ≠ c + 2) (by decide) hx
    rw [nP_o h.1 h.2.1 h.2.2]
  by_cases q : k = 15
  · subst q
    have hr := spRot_ok hsp
    have hr2 : spRot sp 14 ≠ c := by rw [spRot_eq (by decide)]; exact hne 0 (by decide)
    have c2 : kin (Int32.ofNat 14) 15 = True := eq_true (by decide)
    simp only [if_true, c_drop hsp hk (by decide), e_X2_remember_0, e_X2_remember_1, e_X2_remember_4, e_X2_remember_6, e_X2_remember_9, e_X2_remember_10, e_X2_remember_13, e_X2_remember_14, e_X2_remember_17, e_X2_remember_18, e_X2_remember_21, e_X2_remember_22, e_X2_remember_23, e_X2_remember_26, e_X2_remember_27, e_X2_remember_28, e_X2_remember_31, e_X2_remember_32, e_X2_remember_33, e_X2_remember_36, ob_16, rk_16_0, ar_17, ob_n hc, kcl_i, kcl_r, kcl_l, kcl_0, kcl_n, true_and, and_true, kupi_s, show 15 - 1 = 14 from rfl, c2, show (Int32.ofNat 14).toNatClampNeg = 14 from rfl, rk_17 (show 14 < 15 by decide), ob_n (hr 14 (by decide)), c_copy (hr 14 (by decide)) hc (Ne.symm hr2), hN16 _ _ _ (hr 14 (by decide)), tn_s, nGet_16 hc]
    rfl
  · have c2 : kin (Int32.ofNat k) 15 = True := by rw [tn_kin (by omega)]; exact eq_true (by omega)
    have e : kupi i 16 1 (Int32.ofNat k) = i := by
      funext a j; unfold kupi; split
      · rename_i h; rw [h.1, h.2, hk]
      · rfl
    simp only [q, if_false, c2, tn_cl (show k < 2147483648 by omega), rk_17 (show k < 15 by omega), ob_n (hsp k (by omega)), true_and, c_copy (hsp k (by omega)) hc (Ne.symm (hne k (by omega))), e_X2_remember_0, e_X2_remember_1, e_X2_remember_4, e_X2_remember_6, e_X2_remember_9, e_X2_remember_10, e_X2_remember_13, e_X2_remember_14, e_X2_remember_17, e_X2_remember_18, e_X2_remember_21, e_X2_remember_22, e_X2_remember_23, e_X2_remember_26, e_X2_remember_27, e_X2_remember_28, e_X2_remember_31, e_X2_remember_32, e_X2_remember_33, e_X2_remember_36, ob_16, rk_16_0, ar_17, ob_n hc, kcl_i, kcl_r, kcl_l, kcl_0, kcl_n, true_and, and_true, hN16 _ _ _ (hsp k (by omega)), hk, tn_s]
    unfold pRem pR pK
    simp only [q, if_false, e]
theorem c_bringBack {k : Nat} (hc : kNc c = true) (hsp : ∀ j, j < 15 → kNc (sp j) = true) (hne : ∀ j, j < 15 → sp j ≠ c) (hk : i 16 1 = Int32.ofNat k) (h15 : k ≤ 15) : kCA sc (d + 2) 22 [.ref 16, .ref c] y nx hd L st ((120, cu, su), i, l, kR f t sp) K = kWP sc (d + 2) y nx L (.int (if k = 0 then -1 else Int32.ofNat (k - 1)) :: st) ((120, cu, su), if k = 0 then i else nPut (kupi i 16 1 (Int32.ofNat (k - 1))) c (nGet i (sp (k - 1))), l, kR f t sp) K := by
  refine kCA_of (d := d + 1) (v := some (.int (if k = 0 then -1 else Int32.ofNat (k - 1)))) (S2 := ((120, cu, su), if k = 0 then i else nPut (kupi i 16 1 (Int32.ofNat (k - 1))) c (nGet i (sp (k - 1))), l, kR f t sp)) (fun K => ?_)
  rw [km_22]
  show kWP sc (d + 1) 22 0 [.ref 16, .ref c] [] ((120, cu, su), i, l, kR f t sp) K = K (some (some (.int (if k = 0 then -1 else Int32.ofNat (k - 1))))) ((120, cu, su), if k = 0 then i else nPut (kupi i 16 1 (Int32.ofNat (k - 1))) c (nGet i (sp (k - 1))), l, kR f t sp)
  simp only [e_X2_bringBack_0, e_X2_bringBack_1, e_X2_bringBack_4, e_X2_bringBack_7, e_X2_bringBack_8, e_X2_bringBack_9, e_X2_bringBack_10, e_X2_bringBack_11, e_X2_bringBack_14, e_X2_bringBack_15, e_X2_bringBack_16, e_X2_bringBack_19, e_X2_bringBack_20, e_X2_bringBack_21, e_X2_bringBack_24, e_X2_bringBack_25, e_X2_bringBack_28, e_X2_bringBack_29, e_X2_bringBack_32, e_X2_bringBack_33, e_X2_bringBack_36, ob_16, rk_16_0, ar_17, ob_n hc, kcl_i, kcl_r, kcl_l, kcl_0, kcl_n, true_and, and_true, hk, tn_z (show k < 2147483648 by omega)]
  by_cases q : k = 0
  · simp only [q, if_true]
  · have h16 := kNc_all (P := fun c => 16 ≠ c ∧ 16 ≠ c + 1 ∧ 16 ≠ c + 2) (by decide) hc
    have c2 : kin (Int32.ofNat (k - 1)) 15 = True := by rw [tn_kin (by omega)]; exact eq_true (by omega)
    simp only [q, if_false, tn_sub (show 0 < k by omega), kupi_s, c2, tn_cl (show k - 1 < 2147483648 by omega), rk_17 (show k - 1 < 15 by omega), true_and, c_copy hc (hsp (k - 1) (by omega)) (hne (k - 1) (by omega)), e_X2_bringBack_0, e_X2_bringBack_1, e_X2_bringBack_4, e_X2_bringBack_7, e_X2_bringBack_8, e_X2_bringBack_9, e_X2_bringBack_10, e_X2_bringBack_11, e_X2_bringBack_14, e_X2_bringBack_15, e_X2_bringBack_16, e_X2_bringBack_19, e_X2_bringBack_20, e_X2_bringBack_21, e_X2_bringBack_24, e_X2_bringBack_25, e_X2_bringBack_28, e_X2_bringBack_29, e_X2_bringBack_32, e_X2_bringBack_33, e_X2_bringBack_36, ob_16, rk_16_0, ar_17, ob_n hc, kcl_i, kcl_r, kcl_l, kcl_0, kcl_n, true_and, and_true, nP_o h16.1 h16.2.1 h16.2.2, nGet_16 (hsp (k - 1) (by omega))]
theorem rk_18 {k : Nat} (h : k < 3) : kR f t sp 18 k = .ref (65 + 3 * k) := by
  have : k = 0 ∨ k = 1 ∨ k = 2 := by omega
  rcases this with rfl | rfl | rfl <;> rfl
theorem kNc_18 {k : Nat} (h : k < 3) : kNc (65 + 3 * k) = true := by
  have : k = 0 ∨ k = 1 ∨ k = 2 := by omega
  rcases this with rfl | rfl | rfl <;> decide
theorem kbool1 : kbool 1 = 1 := by decide
theorem kbool0 : kbool 0 = 0 := by decide
theorem c_keepUnder {p : Int32} : kCA sc (d + 2) 23 [.ref 16, .int p, .ref 10] y nx hd L st ((120, cu, su), i, l, kR f t sp) K = kWP sc (d + 2) y nx L (.int (kb (¬ p < 0 ∧ p < 3)) :: st) ((120, cu, su), if ¬ p < 0 ∧ p < 3 then kupi (nPut i (65 + 3 * p.toNatClampNeg) (nGet i 10)) 19 p.toNatClampNeg 1 else i, l, kR f t sp) K := by
  refine kCA_of (d := d + 1) (v := some (.int (kb (¬ p < 0 ∧ p < 3)))) (S2 := ((120, cu, su), if ¬ p < 0 ∧ p < 3 then kupi (nPut i (65 + 3 * p.toNatClampNeg) (nGet i 10)) 19 p.toNatClampNeg 1 else i, l, kR f t sp)) (fun K => ?_)
  rw [km_23]
  show kWP sc (d + 1) 23 0 [.ref 16, .int p, .ref 10] [] ((120, cu, su), i, l, kR f t sp) K = K (some (some (.int (kb (¬ p < 0 ∧ p < 3))))) ((120, cu, su), if ¬ p < 0 ∧ p < 3 then kupi (nPut i (65 + 3 * p.toNatClampNeg) (nGet i 10)) 19 p.toNatClampNeg 1 else i, l, kR f t sp)
  have hc : kNc 10 = true := by decide
  simp only [e_X2_keepUnder_0, e_X2_keepUnder_1, e_X2_keepUnder_4, e_X2_keepUnder_5, e_X2_keepUnder_6, e_X2_keepUnder_9, e_X2_keepUnder_10, e_X2_keepUnder_11, e_X2_keepUnder_12, e_X2_keepUnder_15, e_X2_keepUnder_16, e_X2_keepUnder_17, e_X2_keepUnder_18, e_X2_keepUnder_21, e_X2_keepUnder_22, e_X2_keepUnder_25, e_X2_keepUnder_26, e_X2_keepUnder_27, e_X2_keepUnder_28, e_X2_keepUnder_29, ob_16, rk_16_2, ar_18, ob_n hc, rk_16_3, ar_19, kcl_i, kcl_r, kcl_l, kcl_0, kcl_n, true_and, and_true, kbool_0, kbool_1]
  by_cases q1 : p < 0
  · simp [q1, kb]
  · by_cases q2 : p < 3
    · obtain ⟨a, ha, rfl⟩ := tn_ex (m := 3) (by decide) (Int32.not_lt.1 q1) q2
      have c2 : kin (Int32.ofNat a) 3 = True := by rw [tn_kin (by omega)]; exact eq_true (by omega)
      rw [if_pos (show ¬ Int32.ofNat a < 0 ∧ Int32.ofNat a < 3 from ⟨q1, q2⟩), kb_t (show ¬ Int32.ofNat a < 0 ∧ Int32.ofNat a < 3 from ⟨q1, q2⟩)]
      simp only [q1, q2, if_true, if_false, c2, tn_cl (show a < 2147483648 by omega), rk_18 ha, ob_n (kNc_18 ha), true_and, c_copy (kNc_18 ha) (show kNc 10 = true from by decide) (show 10 ≠ 65 + 3 * a by omega), e_X2_keepUnder_0, e_X2_keepUnder_1, e_X2_keepUnder_4, e_X2_keepUnder_5, e_X2_keepUnder_6, e_X2_keepUnder_9, e_X2_keepUnder_10, e_X2_keepUnder_11, e_X2_keepUnder_12, e_X2_keepUnder_15, e_X2_keepUnder_16, e_X2_keepUnder_17, e_X2_keepUnder_18, e_X2_keepUnder_21, e_X2_keepUnder_22, e_X2_keepUnder_25, e_X2_keepUnder_26, e_X2_keepUnder_27, e_X2_keepUnder_28, e_X2_keepUnder_29, ob_16, rk_16_2, ar_18, ob_n hc, rk_16_3, ar_19, kcl_i, kcl_r, kcl_l, kcl_0, kcl_n, true_and, and_true, kbool1]
    · simp [q1, q2, kb]
theorem c_takeAgain {p : Int32} : kCA sc (d + 2) 24 [.ref 16, .int p, .ref 10] y nx hd L st ((120, cu, su), i, l, kR f t sp) K = kWP sc (d + 2) y nx L (.int (kb ((¬ p < 0 ∧ ¬ 3 ≤ p) ∧ ¬ i 19 p.toNatClampNeg = 0)) :: st) ((120, cu, su), if (¬ p < 0 ∧ ¬ 3 ≤ p) ∧ ¬ i 19 p.toNatClampNeg = 0 then kupi (nPut i 10 (nGet i (65 + 3 * p.toNatClampNeg))) 16 1 0 else i, l, kR f t sp) K := by
  refine kCA_of (d := d + 1) (v := some (.int (kb ((¬ p < 0 ∧ ¬ 3 ≤ p) ∧ ¬ i 19 p.toNatClampNeg = 0)))) (S2 := ((120, cu, su), if (¬ p < 0 ∧ ¬ 3 ≤ p) ∧ ¬ i 19 p.toNatClampNeg = 0 then kupi (nPut i 10 (nGet i (65 + 3 * p.toNatClampNeg))) 16 1 0 else i, l, kR f t sp)) (fun K => ?_)
  rw [km_24]
  show kWP sc (d + 1) 24 0 [.ref 16, .int p, .ref 10] [] ((120, cu, su), i, l, kR f t sp) K = K (some (some (.int (kb ((¬ p < 0 ∧ ¬ 3 ≤ p) ∧ ¬ i 19 p.toNatClampNeg = 0))))) ((120, cu, su), if (¬ p < 0 ∧ ¬ 3 ≤ p) ∧ ¬ i 19 p.toNatClampNeg = 0 then kupi (nPut i 10 (nGet i (65 + 3 * p.toNatClampNeg))) 16 1 0 else i, l, kR f t sp)
  have hc : kNc 10 = true := by decide
  simp only [e_X2_takeAgain_0, e_X2_takeAgain_1, e_X2_takeAgain_4, e_X2_takeAgain_5, e_X2_takeAgain_6, e_X2_takeAgain_9, e_X2_takeAgain_10, e_X2_takeAgain_13, e_X2_takeAgain_14, e_X2_takeAgain_15, e_X2_takeAgain_18, e_X2_takeAgain_19, e_X2_takeAgain_20, e_X2_takeAgain_21, e_X2_takeAgain_22, e_X2_takeAgain_25, e_X2_takeAgain_26, e_X2_takeAgain_27, e_X2_takeAgain_30, e_X2_takeAgain_31, e_X2_takeAgain_32, e_X2_takeAgain_35, e_X2_takeAgain_36, ob_16, rk_16_3, ar_19, rk_16_2, ar_18, ob_n hc, kcl_i, kcl_r, kcl_l, kcl_0, kcl_n, true_and, and_true, kbool_0, kbool_1]
  by_cases q1 : p < 0
  · simp [q1, kb]
  · by_cases q2 : 3 ≤ p
    · simp [q1, q2, kb]
    · obtain ⟨a, ha, rfl⟩ := tn_ex (m := 3) (by decide) (Int32.not_lt.1 q1) (Int32.not_le.1 q2)
      have c2 : kin (Int32.ofNat a) 3 = True := by rw [tn_kin (by omega)]; exact eq_true (by omega)
      by_cases q3 : i 19 a = 0
      · have q4 : ¬ ((¬ Int32.ofNat a < 0 ∧ ¬ 3 ≤ Int32.ofNat a) ∧ ¬ i 19 (Int32.ofNat a).toNatClampNeg = 0) := by rw [tn_cl (show a < 2147483648 by omega)]; exact fun h => h.2 q3
        rw [if_neg q4, kb_f q4]
        simp only [q1, q2, if_true, if_false, c2, tn_cl (show a < 2147483648 by omega), q3, true_and]
      · have q4 : (¬ Int32.ofNat a < 0 ∧ ¬ 3 ≤ Int32.ofNat a) ∧ ¬ i 19 (Int32.ofNat a).toNatClampNeg = 0 := by rw [tn_cl (show a < 2147483648 by omega)]; exact ⟨⟨q1, q2⟩, q3⟩
        rw [if_pos q4, kb_t q4]
        simp only [q1, q2, if_false, c2, tn_cl (show a < 2147483648 by omega), q3, rk_18 ha, true_and, c_copy (show kNc 10 = true from by decide) (kNc_18 ha) (show 65 + 3 * a ≠ 10 by omega), e_X2_takeAgain_0, e_X2_takeAgain_1, e_X2_takeAgain_4, e_X2_takeAgain_5, e_X2_takeAgain_6, e_X2_takeAgain_9, e_X2_takeAgain_10, e_X2_takeAgain_13, e_X2_takeAgain_14, e_X2_takeAgain_15, e_X2_takeAgain_18, e_X2_takeAgain_19, e_X2_takeAgain_20, e_X2_takeAgain_21, e_X2_takeAgain_22, e_X2_takeAgain_25, e_X2_takeAgain_26, e_X2_takeAgain_27, e_X2_takeAgain_30, e_X2_takeAgain_31, e_X2_takeAgain_32, e_X2_takeAgain_35, e_X2_takeAgain_36, ob_16, rk_16_3, ar_19, rk_16_2, ar_18, ob_n hc, kcl_i, kcl_r, kcl_l, kcl_0, kcl_n, true_and, and_true, if_true, kbool_1]
theorem c_forgetAll  : kCA sc (d + 1) 25 [.ref 16] y nx hd L st ((120, cu, su), i, l, kR f t sp) K = kWP sc (d + 1) y nx L st ((120, cu, su), kupi (kupi (kupi (kupi i 16 1 0) 19 0 0) 19 1 0) 19 2 0, l, kR f t sp) K := by
  refine kCA_of (d := d) (v := none) (S2 := ((120, cu, su), kupi (kupi (kupi (kupi i 16 1 0) 19 0 0) 19 1 0) 19 2 0, l, kR f t sp)) (fun K => ?_)
  rw [km_25]
  show kWP sc (d) 25 0 [.ref 16, .retAddr 0] [] ((120, cu, su), i, l, kR f t sp) K = K (some (none)) ((120, cu, su), kupi (kupi (kupi (kupi i 16 1 0) 19 0 0) 19 1 0) 19 2 0, l, kR f t sp)
  have k0 : kin 0 3 = True := eq_true (by decide)
  have k1 : kin 1 3 = True := eq_true (by decide)
  have k2 : kin 2 3 = True := eq_true (by decide)
  simp only [e_X2_forgetAll_0, e_X2_forgetAll_1, e_X2_forgetAll_2, e_X2_forgetAll_5, e_X2_forgetAll_6, e_X2_forgetAll_8, e_X2_forgetAll_9, e_X2_forgetAll_12, e_X2_forgetAll_13, e_X2_forgetAll_16, e_X2_forgetAll_17, e_X2_forgetAll_18, e_X2_forgetAll_19, e_X2_forgetAll_22, e_X2_forgetAll_25, ob_16, rk_16_3, ar_19, kcl_i, kcl_r, kcl_l, kcl_0, kcl_n, true_and, and_true]
  refine e_X2_forgetAll_7.trans ?_
  simp only [e_X2_forgetAll_0, e_X2_forgetAll_1, e_X2_forgetAll_2, e_X2_forgetAll_5, e_X2_forgetAll_6, e_X2_forgetAll_8, e_X2_forgetAll_9, e_X2_forgetAll_12, e_X2_forgetAll_13, e_X2_forgetAll_16, e_X2_forgetAll_17, e_X2_forgetAll_18, e_X2_forgetAll_19, e_X2_forgetAll_22, e_X2_forgetAll_25, ob_16, rk_16_3, ar_19, kcl_i, kcl_r, kcl_l, kcl_0, kcl_n, true_and, and_true, show ((3 : Int32) ≤ 0) = False from eq_false (by decide), k0, if_false, kbool0, show Int32.toNatClampNeg 0 = 0 from rfl, show (0 : Int32) + 1 = 1 from rfl]
  refine e_X2_forgetAll_7.trans ?_
  simp only [e_X2_forgetAll_0, e_X2_forgetAll_1, e_X2_forgetAll_2, e_X2_forgetAll_5, e_X2_forgetAll_6, e_X2_forgetAll_8, e_X2_forgetAll_9, e_X2_forgetAll_12, e_X2_forgetAll_13, e_X2_forgetAll_16, e_X2_forgetAll_17, e_X2_forgetAll_18, e_X2_forgetAll_19, e_X2_forgetAll_22, e_X2_forgetAll_25, ob_16, rk_16_3, ar_19, kcl_i, kcl_r, kcl_l, kcl_0, kcl_n, true_and, and_true, show ((3 : Int32) ≤ 1) = False from eq_false (by decide), k1, if_false, kbool0, show Int32.toNatClampNeg 1 = 1 from rfl, show (1 : Int32) + 1 = 2 from rfl]
  refine e_X2_forgetAll_7.trans ?_
  simp only [e_X2_forgetAll_0, e_X2_forgetAll_1, e_X2_forgetAll_2, e_X2_forgetAll_5, e_X2_forgetAll_6, e_X2_forgetAll_8, e_X2_forgetAll_9, e_X2_forgetAll_12, e_X2_forgetAll_13, e_X2_forgetAll_16, e_X2_forgetAll_17, e_X2_forgetAll_18, e_X2_forgetAll_19, e_X2_forgetAll_22, e_X2_forgetAll_25, ob_16, rk_16_3, ar_19, kcl_i, kcl_r, kcl_l, kcl_0, kcl_n, true_and, and_true, show ((3 : Int32) ≤ 2) = False from eq_false (by decide), k2, if_false, kbool0, show Int32.toNatClampNeg 2 = 2 from rfl, show (2 : Int32) + 1 = 3 from rfl]
  refine e_X2_forgetAll_7.trans ?_
  simp only [e_X2_forgetAll_0, e_X2_forgetAll_1, e_X2_forgetAll_2, e_X2_forgetAll_5, e_X2_forgetAll_6, e_X2_forgetAll_8, e_X2_forgetAll_9, e_X2_forgetAll_12, e_X2_forgetAll_13, e_X2_forgetAll_16, e_X2_forgetAll_17, e_X2_forgetAll_18, e_X2_forgetAll_19, e_X2_forgetAll_22, e_X2_forgetAll_25, ob_16, rk_16_3, ar_19, kcl_i, kcl_r, kcl_l, kcl_0, kcl_n, true_and, and_true, show ((3 : Int32) ≤ 3) = True from eq_true (by decide), if_true]
end TC
