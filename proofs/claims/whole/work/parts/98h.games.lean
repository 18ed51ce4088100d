/-! games of the last stroke; candles at rest -/
section TC
variable {sc : Nat × (Nat → Int32)} {d y nx : Nat} {hd : List (Int × Nat)} {L st : List Value} {S : kS} {cu su : Nat} {i : Nat → Nat → Int32} {l : Nat → Nat → Int64} {f t c b m : Nat} {sp : Nat → Nat} {K : Option (Option Value) → kS → Prop}
variable {N M Z S1 Q : Nat → Int32} {i1 i2 i3 : Nat → Nat → Int32} {l2 : Nat → Nat → Int64} {n k x : Nat} {v r : Int32} {zs zs2 : List Int64} {le A B : Nat → Int32}
/-- the least of 1 .. a (n at most) by which what is left is 0 -/
def wK (W : Nat → Int32) (n a : Nat) : Nat := match kfi (fun x => W (n - (x + 1)) = 0) a 0 with | some y => y + 1 | none => 0
theorem wK_le {W : Nat → Int32} {a : Nat} : wK W n a ≤ a := by
  unfold wK
  cases e : kfi (fun x => W (n - (x + 1)) = 0) a 0 with
  | none => exact Nat.zero_le _
  | some y => have := kfi_some e; show y + 1 ≤ a; omega
theorem kfi_more {p : Nat → Prop} [DecidablePred p] : ∀ {k x : Nat}, ¬ p (x + k) → kfi p (k + 1) x = kfi p k x := by
  intro k
  induction k with
  | zero => intro x h; rw [kfi, kfi, if_neg (show ¬ p x from h)]; rfl
  | succ k ih =>
    intro x h
    rw [kfi, ih (by rw [show x + 1 + k = x + (k + 1) by omega]; exact h)]
    rfl
theorem wK_min {W : Nat → Int32} {a : Nat} (hn : 1 ≤ n) (h0 : ¬ W 0 = 0) : wK W n (min a n) = wK W n (min a (n - 1)) := by
  by_cases q : a < n
  · rw [Nat.min_eq_left (by omega), Nat.min_eq_left (by omega)]
  · rw [Nat.min_eq_right (by omega), Nat.min_eq_right (by omega)]
    obtain ⟨k, rfl⟩ : ∃ k, n = k + 1 := ⟨n - 1, by omega⟩
    unfold wK
    rw [kfi_more (p := fun x => W (k + 1 - (x + 1)) = 0) (k := k) (x := 0) (by rw [show k + 1 - (0 + k + 1) = 0 by omega]; exact h0)]
    rfl
theorem wK_c {W V : Nat → Int32} {a : Nat} (ha : a < n) (h : ∀ j, 1 ≤ j → j < n → (W j = 0 ↔ V j = 0)) : wK W n a = wK V n a := by
  unfold wK
  rw [kfi_congr (q := fun x => V (n - (x + 1)) = 0) (fun z h1 h2 => h _ (by omega) (by omega))]
theorem sh_82 : kSH 82 = .inr (2, 61) := by decide +kernel
theorem sh_83 : kSH 83 = .inr (2, 61) := by decide +kernel
theorem sub_nat {a b : Nat} (h : b ≤ a) : Int32.ofNat a - Int32.ofNat b = Int32.ofNat (a - b) := (Int32.ofNat_sub a b h).symm
theorem c_winning {b a n : Nat} (hb : b = 82 ∨ b = 83) (ha : a ≤ 9) (hn : n ≤ 60) : kCA sc (d + 1) 86 [.ref b, .int (Int32.ofNat n), .int (Int32.ofNat a)] y nx hd L st ((120, cu, su), i, l, kR f t sp) K = kWP sc (d + 1) y nx L (.int (Int32.ofNat (wK (i b) n (min a n))) :: st) ((120, cu, su), i, l, kR f t sp) K := by
  have hsh : kSH b = .inr (2, 61) := by
    rcases hb with rfl | rfl
    · exact sh_82
    · exact sh_83
  have hbl : (b < 120) = True := by rcases hb with rfl | rfl <;> exact eq_true (by decide)
  have har : ∀ j : Int32, kar (120, cu, su) b 2 j = kin j 61 := by
    intro j
    rcases hb with rfl | rfl
    · exact ar_82
    · exact ar_83
  refine kCA_of (d := d) (v := some (.int (Int32.ofNat (wK (i b) n (min a n))))) (fun K => ?_)
  rw [km_86]
  show kWP sc d 86 0 [.ref b, .int (Int32.ofNat n), .int (Int32.ofNat a), .retAddr 0] [] ((120, cu, su), i, l, kR f t sp) K = K (some (some (.int (Int32.ofNat (wK (i b) n (min a n)))))) ((120, cu, su), i, l, kR f t sp)
  simp only [e_X8_winning_0, e_X8_winning_1, e_X8_winning_3, e_X8_winning_4, e_X8_winning_7, e_X8_winning_8, e_X8_winning_9, e_X8_winning_12, e_X8_winning_13, e_X8_winning_15, e_X8_winning_18, e_X8_winning_19, e_X8_winning_20, e_X8_winning_21, e_X8_winning_22, e_X8_winning_23, e_X8_winning_26, e_X8_winning_27, e_X8_winning_28, e_X8_winning_31, e_X8_winning_34, e_X8_winning_35, kcl_i, kcl_r, kcl_l, kcl_0, kcl_n, true_and, and_true]
  have c60 : (Int32.ofNat 61 ≤ Int32.ofNat n) = False := jpF (by omega) (by decide)
  refine (k_find (P := fun x => kWP sc d 86 2 [.ref b, .int (Int32.ofNat n), .int (Int32.ofNat a), .int (Int32.ofNat (x + 1))] [] ((120, cu, su), i, l, kR f t sp) K) (Q := fun z => K (some (some (.int (Int32.ofNat (z + 1))))) ((120, cu, su), i, l, kR f t sp)) (p := fun x => i b (n - (x + 1)) = 0) (n := min a n) ?_).trans ?_
  · intro x hx
    have c1 : (Int32.ofNat a < Int32.ofNat (x + 1)) = False := by rw [tn_lt (by omega) (by omega)]; exact eq_false (by omega)
    have c2 : (Int32.ofNat n < Int32.ofNat (x + 1)) = False := by rw [tn_lt (by omega) (by omega)]; exact eq_false (by omega)
    have c3 : kin (Int32.ofNat (n - (x + 1))) 61 = True := by rw [tn_kin (by omega)]; exact eq_true (by omega)
    refine e_X8_winning_2.trans ?_
    simp only [e_X8_winning_0, e_X8_winning_1, e_X8_winning_3, e_X8_winning_4, e_X8_winning_7, e_X8_winning_8, e_X8_winning_9, e_X8_winning_12, e_X8_winning_13, e_X8_winning_15, e_X8_winning_18, e_X8_winning_19, e_X8_winning_20, e_X8_winning_21, e_X8_winning_22, e_X8_winning_23, e_X8_winning_26, e_X8_winning_27, e_X8_winning_28, e_X8_winning_31, e_X8_winning_34, e_X8_winning_35, kcl_i, kcl_r, kcl_l, kcl_0, kcl_n, true_and, and_true, c1, c2, if_false, e_X8_winning_14 hsh, hbl, c60, har, sub_nat (show x + 1 ≤ n by omega), c3, cl_n (show n - (x + 1) < 100000 by omega), tn_s]
  · unfold wK
    cases e : kfi (fun x => i b (n - (x + 1)) = 0) (min a n) 0 with
    | some z => rfl
    | none =>
      refine e_X8_winning_2.trans ?_
      by_cases q : a ≤ n
      · have c1 : (Int32.ofNat a < Int32.ofNat (min a n + 1)) = True := by rw [tn_lt (by omega) (by omega)]; exact eq_true (by omega)
        simp only [e_X8_winning_0, e_X8_winning_1, e_X8_winning_3, e_X8_winning_4, e_X8_winning_7, e_X8_winning_8, e_X8_winning_9, e_X8_winning_12, e_X8_winning_13, e_X8_winning_15, e_X8_winning_18, e_X8_winning_19, e_X8_winning_20, e_X8_winning_21, e_X8_winning_22, e_X8_winning_23, e_X8_winning_26, e_X8_winning_27, e_X8_winning_28, e_X8_winning_31, e_X8_winning_34, e_X8_winning_35, kcl_i, kcl_r, kcl_l, kcl_0, kcl_n, true_and, and_true, c1, if_true]
        rfl
      · have c1 : (Int32.ofNat a < Int32.ofNat (min a n + 1)) = False := by rw [tn_lt (by omega) (by omega)]; exact eq_false (by omega)
        have c2 : (Int32.ofNat n < Int32.ofNat (min a n + 1)) = True := by rw [tn_lt (by omega) (by omega)]; exact eq_true (by omega)
        simp only [e_X8_winning_0, e_X8_winning_1, e_X8_winning_3, e_X8_winning_4, e_X8_winning_7, e_X8_winning_8, e_X8_winning_9, e_X8_winning_12, e_X8_winning_13, e_X8_winning_15, e_X8_winning_18, e_X8_winning_19, e_X8_winning_20, e_X8_winning_21, e_X8_winning_22, e_X8_winning_23, e_X8_winning_26, e_X8_winning_27, e_X8_winning_28, e_X8_winning_31, e_X8_winning_34, e_X8_winning_35, kcl_i, kcl_r, kcl_l, kcl_0, kcl_n, true_and, and_true, c1, c2, if_true, if_false]
        rfl
def gP (i : Nat → Nat → Int32) (w : (Nat → Int32) × (Nat → Int32)) : Nat → Nat → Int32 := aPut (aPut i 82 61 w.1) 83 61 w.2
def gFa (a : Nat) (w : (Nat → Int32) × (Nat → Int32)) (n : Nat) : (Nat → Int32) × (Nat → Int32) := (kuf w.1 n (if 0 < wK w.2 n (min a n) then 1 else 0), w.2)
def gFb (b : Nat) (w : (Nat → Int32) × (Nat → Int32)) (n : Nat) : (Nat → Int32) × (Nat → Int32) := (w.1, kuf w.2 n (if 0 < wK w.1 n (min b n) then 1 else 0))
def gFill (a b x : Nat) (w : (Nat → Int32) × (Nat → Int32)) : (Nat → Int32) × (Nat → Int32) := gFb b (gFa a w (x + 1)) (x + 1)
theorem gP_82 {w : (Nat → Int32) × (Nat → Int32)} (h : x < 61) : gP i w 82 x = w.1 x := by unfold gP; rw [aP_o (by decide), aP_s h]
theorem gP_83 {w : (Nat → Int32) × (Nat → Int32)} (h : x < 61) : gP i w 83 x = w.2 x := by unfold gP; rw [aP_s h]
theorem gP_o {w : (Nat → Int32) × (Nat → Int32)} {c : Nat} (h1 : c ≠ 82) (h2 : c ≠ 83) : gP i w c = i c := by unfold gP; rw [aP_o h2, aP_o h1]
theorem gW_83 {w : (Nat → Int32) × (Nat → Int32)} {v : Int32} (h : x < 61) : kupi (gP i w) 83 x v = gP i (w.1, kuf w.2 x v) := aW_s h
theorem gW_82 {w : (Nat → Int32) × (Nat → Int32)} {v : Int32} (h : x < 61) : kupi (gP i w) 82 x v = gP i (kuf w.1 x v, w.2) := by
  unfold gP
  rw [← aW_s h]
  funext c j
  unfold kupi aPut
  by_cases e : c = 83
  · subst e; simp
  · simp [e]
theorem gP_g : gP i (i 82, i 83) = i := by
  unfold gP
  rw [aP_g]; exact aP_g
theorem wK_gP82 {w : (Nat → Int32) × (Nat → Int32)} {a : Nat} (hn : n ≤ 60) : wK (gP i w 82) n a = wK w.1 n a := by
  unfold wK
  rw [kfi_congr (q := fun x => w.1 (n - (x + 1)) = 0) (fun z h1 h2 => by rw [gP_82 (by omega)])]
theorem wK_gP83 {w : (Nat → Int32) × (Nat → Int32)} {a : Nat} (hn : n ≤ 60) : wK (gP i w 83) n a = wK w.2 n a := by
  unfold wK
  rw [kfi_congr (q := fun x => w.2 (n - (x + 1)) = 0) (fun z h1 h2 => by rw [gP_83 (by omega)])]
theorem le0_nat {k : Nat} (h : k < 100000) : (Int32.ofNat k ≤ 0) = ¬ 0 < k := by
  rw [show (0 : Int32) = Int32.ofNat 0 from rfl, tn_le (by omega) (by decide)]; apply propext; omega
def w0F (w : (Nat → Int32) × (Nat → Int32)) : (Nat → Int32) × (Nat → Int32) := (kuf w.1 0 1, kuf w.2 0 1)
def pFill (a b : Nat) (w : (Nat → Int32) × (Nat → Int32)) : (Nat → Int32) × (Nat → Int32) := kfo (gFill a b) 60 (w0F w)
theorem c_fill {a b : Nat} (ha : a ≤ 9) (hb : b ≤ 9) : kCA sc (d + 2) 84 [.ref 81, .int (Int32.ofNat a), .int (Int32.ofNat b)] y nx hd L st ((120, cu, su), i, l, kR f t sp) K = kWP sc (d + 2) y nx L st ((120, cu, su), gP i (pFill a b (i 82, i 83)), l, kR f t sp) K := by
  refine kCA_of (d := d + 1) (v := none) (S2 := ((120, cu, su), gP i (pFill a b (i 82, i 83)), l, kR f t sp)) (fun K => ?_)
  rw [km_84]
  show kWP sc (d + 1) 84 0 [.ref 81, .int (Int32.ofNat a), .int (Int32.ofNat b), .retAddr 0] [] ((120, cu, su), i, l, kR f t sp) K = K (some (none)) ((120, cu, su), gP i (pFill a b (i 82, i 83)), l, kR f t sp)
  have e0 : i = gP i (i 82, i 83) := gP_g.symm
  have k0 : kin 0 61 = True := eq_true (by decide)
  have z0 : Int32.toNatClampNeg 0 = 0 := rfl
  have S0 : kupi (kupi i 82 0 1) 83 0 1 = gP i (w0F (i 82, i 83)) := by
    have h1 := gW_82 (i := i) (w := (i 82, i 83)) (x := 0) (v := 1) (by decide)
    rw [gP_g] at h1
    rw [h1, gW_83 (by decide)]; rfl
  simp only [e_X8_fill_0, e_X8_fill_1, e_X8_fill_4, e_X8_fill_5, e_X8_fill_6, e_X8_fill_7, e_X8_fill_8, e_X8_fill_11, e_X8_fill_12, e_X8_fill_13, e_X8_fill_14, e_X8_fill_15, e_X8_fill_17, e_X8_fill_19, e_X8_fill_22, e_X8_fill_23, e_X8_fill_26, e_X8_fill_27, e_X8_fill_28, e_X8_fill_31, e_X8_fill_32, e_X8_fill_33, e_X8_fill_36, e_X8_fill_39, e_X8_fill_40, e_X8_fill_43, e_X8_fill_44, e_X8_fill_45, e_X8_fill_46, e_X8_fill_49, e_X8_fill_50, e_X8_fill_51, e_X8_fill_54, e_X8_fill_55, e_X8_fill_56, e_X8_fill_59, e_X8_fill_62, e_X8_fill_63, e_X8_fill_66, e_X8_fill_67, e_X8_fill_68, e_X8_fill_71, e_X8_fill_74, ob_81, rk_81_0, ar_82, rk_81_1, ar_83, kcl_i, kcl_r, kcl_l, kcl_0, kcl_n, true_and, and_true, k0, z0, kbool1, S0]
  refine (k_for (P := fun x (w : (Nat → Int32) × (Nat → Int32)) => kWP sc (d + 1) 84 16 [.ref 81, .int (Int32.ofNat a), .int (Int32.ofNat b), .int (Int32.ofNat (x + 1))] [] ((120, cu, su), gP i w, l, kR f t sp) K) (n := 60) (g := gFill a b) ?_ (w0F (i 82, i 83))).trans ?_
  · intro x w hx
    have c1 : ((60 : Int32) < Int32.ofNat (x + 1)) = False := by rw [show (60 : Int32) = Int32.ofNat 60 from rfl, tn_lt (by omega) (by omega)]; exact eq_false (by omega)
    have c3 : kin (Int32.ofNat (x + 1)) 61 = True := by rw [tn_kin (by omega)]; exact eq_true (by omega)
    have l1 : wK w.2 (x + 1) (min a (x + 1)) < 100000 := Nat.lt_of_le_of_lt wK_le (by omega)
    refine e_X8_fill_16.trans ?_
    simp only [e_X8_fill_0, e_X8_fill_1, e_X8_fill_4, e_X8_fill_5, e_X8_fill_6, e_X8_fill_7, e_X8_fill_8, e_X8_fill_11, e_X8_fill_12, e_X8_fill_13, e_X8_fill_14, e_X8_fill_15, e_X8_fill_17, e_X8_fill_19, e_X8_fill_22, e_X8_fill_23, e_X8_fill_26, e_X8_fill_27, e_X8_fill_28, e_X8_fill_31, e_X8_fill_32, e_X8_fill_33, e_X8_fill_36, e_X8_fill_39, e_X8_fill_40, e_X8_fill_43, e_X8_fill_44, e_X8_fill_45, e_X8_fill_46, e_X8_fill_49, e_X8_fill_50, e_X8_fill_51, e_X8_fill_54, e_X8_fill_55, e_X8_fill_56, e_X8_fill_59, e_X8_fill_62, e_X8_fill_63, e_X8_fill_66, e_X8_fill_67, e_X8_fill_68, e_X8_fill_71, e_X8_fill_74, ob_81, rk_81_0, ar_82, rk_81_1, ar_83, kcl_i, kcl_r, kcl_l, kcl_0, kcl_n, true_and, and_true, c1, c3, if_false, c_winning (Or.inr rfl) ha (show x + 1 ≤ 60 by omega), wK_gP83 (show x + 1 ≤ 60 by omega), le0_nat l1, cl_n (show x + 1 < 100000 by omega), kbool0, kbool1, gW_82 (show x + 1 < 61 by omega), tn_s]
    have key : ∀ v : Int32, v = (if 0 < wK w.2 (x + 1) (min a (x + 1)) then 1 else 0) → kWP sc (d + 1) 84 45 [.ref 81, .int (Int32.ofNat a), .int (Int32.ofNat b), .int (Int32.ofNat (x + 1))] [] ((120, cu, su), gP i (kuf w.1 (x + 1) v, w.2), l, kR f t sp) K = kWP sc (d + 1) 84 16 [.ref 81, .int (Int32.ofNat a), .int (Int32.ofNat b), .int (Int32.ofNat (x + 1 + 1))] [] ((120, cu, su), gP i (gFill a b x w), l, kR f t sp) K := by
      intro v hv
      have e1 : ((kuf w.1 (x + 1) v, w.2) : (Nat → Int32) × (Nat → Int32)) = gFa a w (x + 1) := by rw [hv]; rfl
      rw [e1]
      have l2 : wK (gFa a w (x + 1)).1 (x + 1) (min b (x + 1)) < 100000 := Nat.lt_of_le_of_lt wK_le (by omega)
      simp only [e_X8_fill_0, e_X8_fill_1, e_X8_fill_4, e_X8_fill_5, e_X8_fill_6, e_X8_fill_7, e_X8_fill_8, e_X8_fill_11, e_X8_fill_12, e_X8_fill_13, e_X8_fill_14, e_X8_fill_15, e_X8_fill_17, e_X8_fill_19, e_X8_fill_22, e_X8_fill_23, e_X8_fill_26, e_X8_fill_27, e_X8_fill_28, e_X8_fill_31, e_X8_fill_32, e_X8_fill_33, e_X8_fill_36, e_X8_fill_39, e_X8_fill_40, e_X8_fill_43, e_X8_fill_44, e_X8_fill_45, e_X8_fill_46, e_X8_fill_49, e_X8_fill_50, e_X8_fill_51, e_X8_fill_54, e_X8_fill_55, e_X8_fill_56, e_X8_fill_59, e_X8_fill_62, e_X8_fill_63, e_X8_fill_66, e_X8_fill_67, e_X8_fill_68, e_X8_fill_71, e_X8_fill_74, ob_81, rk_81_0, ar_82, rk_81_1, ar_83, kcl_i, kcl_r, kcl_l, kcl_0, kcl_n, true_and, and_true, c3, c_winning (Or.inl rfl) hb (show x + 1 ≤ 60 by omega), wK_gP82 (show x + 1 ≤ 60 by omega), le0_nat l2, cl_n (show x + 1 < 100000 by omega), kbool0, kbool1, gW_83 (show x + 1 < 61 by omega), tn_s]
      unfold gFill gFb
      by_cases q : 0 < wK (gFa a w (x + 1)).1 (x + 1) (min b (x + 1))
      · simp only [q, not_true_eq_false, if_true, if_false]
      · simp only [q, not_false_eq_true, if_true, if_false]
    by_cases q : 0 < wK w.2 (x + 1) (min a (x + 1))
    · simp only [q, not_true_eq_false, if_false]
      rw [← key 1 (by rw [if_pos q])]
      simp only [e_X8_fill_0, e_X8_fill_1, e_X8_fill_4, e_X8_fill_5, e_X8_fill_6, e_X8_fill_7, e_X8_fill_8, e_X8_fill_11, e_X8_fill_12, e_X8_fill_13, e_X8_fill_14, e_X8_fill_15, e_X8_fill_17, e_X8_fill_19, e_X8_fill_22, e_X8_fill_23, e_X8_fill_26, e_X8_fill_27, e_X8_fill_28, e_X8_fill_31, e_X8_fill_32, e_X8_fill_33, e_X8_fill_36, e_X8_fill_39, e_X8_fill_40, e_X8_fill_43, e_X8_fill_44, e_X8_fill_45, e_X8_fill_46, e_X8_fill_49, e_X8_fill_50, e_X8_fill_51, e_X8_fill_54, e_X8_fill_55, e_X8_fill_56, e_X8_fill_59, e_X8_fill_62, e_X8_fill_63, e_X8_fill_66, e_X8_fill_67, e_X8_fill_68, e_X8_fill_71, e_X8_fill_74, ob_81, rk_81_0, ar_82, rk_81_1, ar_83, kcl_i, kcl_r, kcl_l, kcl_0, kcl_n, true_and, and_true, c3, c_winning (Or.inl rfl) hb (show x + 1 ≤ 60 by omega), cl_n (show x + 1 < 100000 by omega), kbool0, kbool1, gW_83 (show x + 1 < 61 by omega), tn_s]
    · simp only [q, not_false_eq_true, if_true]
      rw [← key 0 (by rw [if_neg q])]
      simp only [e_X8_fill_0, e_X8_fill_1, e_X8_fill_4, e_X8_fill_5, e_X8_fill_6, e_X8_fill_7, e_X8_fill_8, e_X8_fill_11, e_X8_fill_12, e_X8_fill_13, e_X8_fill_14, e_X8_fill_15, e_X8_fill_17, e_X8_fill_19, e_X8_fill_22, e_X8_fill_23, e_X8_fill_26, e_X8_fill_27, e_X8_fill_28, e_X8_fill_31, e_X8_fill_32, e_X8_fill_33, e_X8_fill_36, e_X8_fill_39, e_X8_fill_40, e_X8_fill_43, e_X8_fill_44, e_X8_fill_45, e_X8_fill_46, e_X8_fill_49, e_X8_fill_50, e_X8_fill_51, e_X8_fill_54, e_X8_fill_55, e_X8_fill_56, e_X8_fill_59, e_X8_fill_62, e_X8_fill_63, e_X8_fill_66, e_X8_fill_67, e_X8_fill_68, e_X8_fill_71, e_X8_fill_74, ob_81, rk_81_0, ar_82, rk_81_1, ar_83, kcl_i, kcl_r, kcl_l, kcl_0, kcl_n, true_and, and_true, c3, c_winning (Or.inl rfl) hb (show x + 1 ≤ 60 by omega), cl_n (show x + 1 < 100000 by omega), kbool0, kbool1, gW_83 (show x + 1 < 61 by omega), tn_s]
  · refine e_X8_fill_16.trans ?_
    simp only [e_X8_fill_0, e_X8_fill_1, e_X8_fill_4, e_X8_fill_5, e_X8_fill_6, e_X8_fill_7, e_X8_fill_8, e_X8_fill_11, e_X8_fill_12, e_X8_fill_13, e_X8_fill_14, e_X8_fill_15, e_X8_fill_17, e_X8_fill_19, e_X8_fill_22, e_X8_fill_23, e_X8_fill_26, e_X8_fill_27, e_X8_fill_28, e_X8_fill_31, e_X8_fill_32, e_X8_fill_33, e_X8_fill_36, e_X8_fill_39, e_X8_fill_40, e_X8_fill_43, e_X8_fill_44, e_X8_fill_45, e_X8_fill_46, e_X8_fill_49, e_X8_fill_50, e_X8_fill_51, e_X8_fill_54, e_X8_fill_55, e_X8_fill_56, e_X8_fill_59, e_X8_fill_62, e_X8_fill_63, e_X8_fill_66, e_X8_fill_67, e_X8_fill_68, e_X8_fill_71, e_X8_fill_74, ob_81, rk_81_0, ar_82, rk_81_1, ar_83, kcl_i, kcl_r, kcl_l, kcl_0, kcl_n, true_and, and_true, show ((60 : Int32) < Int32.ofNat (60 + 1)) = True from eq_true (by decide), if_true]
    rfl
end TC
