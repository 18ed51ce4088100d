/-! what can be undone -/
section TC
variable {sc : Nat × (Nat → Int32)} {d y nx : Nat} {hd : List (Int × Nat)} {L st : List Value} {S : kS} {cu su : Nat} {i : Nat → Nat → Int32} {l : Nat → Nat → Int64} {f t c b m : Nat} {sp : Nat → Nat} {K : Option (Option Value) → kS → Prop}
variable {N M Z S1 Q A : Nat → Int32} {i1 i2 i3 : Nat → Nat → Int32} {l2 : Nat → Nat → Int64} {n n2 k x : Nat} {v r : Int32} {zs zs2 : List Int64} {le co br acts code co2 br2 : Nat → Int32} {s : Nat × (Nat → Int32)} {w : WN} {u : WM} {sp2 : Nat → Nat}
def pbA (k : Nat) (A M : Nat → Int32) : Nat → Int32 := fun j => if 25 * k ≤ j ∧ j < 25 * k + 25 then M (j - 25 * k) else A j
def shA (A : Nat → Int32) : Nat → Int32 := fun j => if j < 375 then A (j + 25) else A j
theorem pb_fold : ∀ z, z ≤ 25 → ∀ j, kfo (fun x A => kuf A (25 * k + x) (M x)) z A j = if 25 * k ≤ j ∧ j < 25 * k + z then M (j - 25 * k) else A j := by
  intro z
  induction z with
  | zero => intro _ j; rw [if_neg (by omega)]; rfl
  | succ z ih =>
    intro hz j
    rw [kfo_s]
    unfold kuf
    rw [show (kfo (fun x A j => if j = 25 * k + x then M x else A j) z A) = kfo (fun x A => kuf A (25 * k + x) (M x)) z A from rfl, ih (by omega)]
    by_cases e : j = 25 * k + z
    · rw [if_pos e, if_pos (by omega), e, show 25 * k + z - 25 * k = z by omega]
    · rw [if_neg e]
      by_cases e2 : 25 * k ≤ j ∧ j < 25 * k + z
      · rw [if_pos e2, if_pos (by omega)]
      · rw [if_neg e2, if_neg (by omega)]
theorem sh_fold : ∀ z j, kfo (fun x (A : Nat → Int32) => kuf A x (A (x + 25))) z A j = if j < z then A (j + 25) else A j := by
  intro z
  induction z with
  | zero => intro j; rfl
  | succ z ih =>
    intro j
    rw [kfo_s]
    show (if j = z then kfo (fun x (A : Nat → Int32) => kuf A x (A (x + 25))) z A (z + 25) else kfo (fun x (A : Nat → Int32) => kuf A x (A (x + 25))) z A j) = _
    rw [ih, ih]
    by_cases e : j = z
    · subst e; rw [if_pos rfl, if_neg (by omega), if_pos (by omega)]
    · rw [if_neg e]
      by_cases e2 : j < z
      · rw [if_pos e2, if_pos (by omega)]
      · rw [if_neg e2, if_neg (by omega)]
theorem mul25 {k x : Nat} : 25 * Int32.ofNat k + Int32.ofNat x = Int32.ofNat (25 * k + x) := by
  rw [Int32.ofNat_add, Int32.ofNat_mul]; rfl
theorem kin400 {a : Nat} (h : a < 400) : kin (Int32.ofNat a) 400 = True := by rw [tn_kin (by omega)]; exact eq_true h
theorem n25F {x : Nat} (hx : x < 25) : ((25 : Int32) ≤ Int32.ofNat x) = False := jpF (n := 25) hx (by decide)
theorem n25T : ((25 : Int32) ≤ Int32.ofNat 25) = True := eq_true (by decide)
theorem m_putsBy {k : Nat} (hk : i 91 23 = Int32.ofNat k) (h15 : k ≤ 15) : kCA sc (d + 1) 194 [.ref 91] y nx hd L st ((120, cu, su), i, l, kR f t sp) K = kWP sc (d + 1) y nx L st ((120, cu, su), aPut i 104 400 (pbA k (i 104) (i 96)), l, kR f t sp) K := by
  refine kCA_of (d := d) (v := none) (S2 := ((120, cu, su), aPut i 104 400 (pbA k (i 104) (i 96)), l, kR f t sp)) (fun K => ?_)
  rw [km_194]
  show kWP sc (d) 194 0 [.ref 91, .retAddr 0] [] ((120, cu, su), i, l, kR f t sp) K = K (some (none)) ((120, cu, su), aPut i 104 400 (pbA k (i 104) (i 96)), l, kR f t sp)
  simp only [e_X11_putsBy_0, e_X11_putsBy_1, e_X11_putsBy_3, e_X11_putsBy_5, e_X11_putsBy_8, e_X11_putsBy_9, e_X11_putsBy_12, e_X11_putsBy_14, e_X11_putsBy_15, e_X11_putsBy_18, e_X11_putsBy_19, e_X11_putsBy_20, e_X11_putsBy_21, e_X11_putsBy_22, e_X11_putsBy_25, e_X11_putsBy_26, e_X11_putsBy_27, e_X11_putsBy_28, e_X11_putsBy_31, e_X11_putsBy_34, ob_91, rk_91_24, ar_104, rk_91_8, ar_96, kcl_i, kcl_r, kcl_l, kcl_0, kcl_n, true_and, and_true]
  have R := k_for (P := fun x (A : Nat → Int32) => kWP sc d 194 2 [.ref 91, .int (Int32.ofNat x)] [] ((120, cu, su), aPut i 104 400 A, l, kR f t sp) K) (n := 25) (g := fun x A => kuf A (25 * k + x) (i 96 x)) ?_ (i 104)
  · rw [aP_g] at R
    refine R.trans ?_
    refine e_X11_putsBy_2.trans ?_
    simp only [e_X11_putsBy_0, e_X11_putsBy_1, e_X11_putsBy_3, e_X11_putsBy_5, e_X11_putsBy_8, e_X11_putsBy_9, e_X11_putsBy_12, e_X11_putsBy_14, e_X11_putsBy_15, e_X11_putsBy_18, e_X11_putsBy_19, e_X11_putsBy_20, e_X11_putsBy_21, e_X11_putsBy_22, e_X11_putsBy_25, e_X11_putsBy_26, e_X11_putsBy_27, e_X11_putsBy_28, e_X11_putsBy_31, e_X11_putsBy_34, ob_91, rk_91_24, ar_104, rk_91_8, ar_96, kcl_i, kcl_r, kcl_l, kcl_0, kcl_n, true_and, and_true, n25T, if_true]
    rw [aP_c (A2 := pbA k (i 104) (i 96)) (fun j _ => pb_fold 25 (Nat.le_refl _) j)]
  · intro x A hx
    refine e_X11_putsBy_2.trans ?_
    simp only [e_X11_putsBy_0, e_X11_putsBy_1, e_X11_putsBy_3, e_X11_putsBy_5, e_X11_putsBy_8, e_X11_putsBy_9, e_X11_putsBy_12, e_X11_putsBy_14, e_X11_putsBy_15, e_X11_putsBy_18, e_X11_putsBy_19, e_X11_putsBy_20, e_X11_putsBy_21, e_X11_putsBy_22, e_X11_putsBy_25, e_X11_putsBy_26, e_X11_putsBy_27, e_X11_putsBy_28, e_X11_putsBy_31, e_X11_putsBy_34, ob_91, rk_91_24, ar_104, rk_91_8, ar_96, kcl_i, kcl_r, kcl_l, kcl_0, kcl_n, true_and, and_true, n25F hx, if_false, aP_o (show 91 ≠ 104 by decide), aP_o (show 96 ≠ 104 by decide), hk, mul25, kin25 hx, kin400 (show 25 * k + x < 400 by omega), cl_n (show x < 100000 by omega), cl_n (show 25 * k + x < 100000 by omega), aW_s (show 25 * k + x < 400 by omega), tn_s]
def aD (i : Nat → Nat → Int32) (k : Nat) : Nat → Nat → Int32 := kupi (aPut i 104 400 (if k = 15 then shA (i 104) else i 104)) 91 23 (Int32.ofNat (pK k + 1))
theorem aP_u {c n : Nat} {v : Int32} (h : c ≠ 104) : aPut (kupi i c n v) 104 400 A = kupi (aPut i 104 400 A) c n v := by
  funext a j
  unfold aPut kupi
  dsimp only
  by_cases q : a = 104 ∧ j < 400
  · rw [if_pos q, if_neg (by omega), if_pos q]
  · rw [if_neg q, if_neg q]
theorem kup2 {c n : Nat} {v v2 : Int32} : kupi (kupi i c n v) c n v2 = kupi i c n v2 := by
  funext a j
  unfold kupi
  by_cases q : a = c ∧ j = n
  · rw [if_pos q, if_pos q]
  · rw [if_neg q, if_neg q, if_neg q]
theorem m_adds {k : Nat} {p : Int32} (hk : i 91 23 = Int32.ofNat k) (h15 : k ≤ 15) : kCA sc (d + 1) 195 [.ref 91, .int p] y nx hd L st ((120, cu, su), i, l, kR f t sp) K = kWP sc (d + 1) y nx L (.int p :: st) ((120, cu, su), aD i k, l, kR f t sp) K := by
  refine kCA_of (d := d) (v := some (.int p)) (S2 := ((120, cu, su), aD i k, l, kR f t sp)) (fun K => ?_)
  rw [km_195]
  show kWP sc (d) 195 0 [.ref 91, .int p, .retAddr 0] [] ((120, cu, su), i, l, kR f t sp) K = K (some (some (.int p))) ((120, cu, su), aD i k, l, kR f t sp)
  simp only [e_X11_adds_0, e_X11_adds_1, e_X11_adds_2, e_X11_adds_5, e_X11_adds_6, e_X11_adds_7, e_X11_adds_10, e_X11_adds_11, e_X11_adds_14, e_X11_adds_16, e_X11_adds_19, e_X11_adds_20, e_X11_adds_22, e_X11_adds_25, e_X11_adds_28, e_X11_adds_29, e_X11_adds_32, e_X11_adds_33, e_X11_adds_34, e_X11_adds_37, e_X11_adds_38, e_X11_adds_40, e_X11_adds_41, e_X11_adds_42, e_X11_adds_43, e_X11_adds_46, e_X11_adds_49, e_X11_adds_50, e_X11_adds_51, e_X11_adds_54, e_X11_adds_55, e_X11_adds_56, e_X11_adds_59, e_X11_adds_60, ob_91, rk_91_24, ar_104, kcl_i, kcl_r, kcl_l, kcl_0, kcl_n, true_and, and_true, hk, tn_s, kupi_s]
  unfold aD pK
  by_cases q : k = 15
  · subst q
    simp only [show (Int32.ofNat (15 + 1) ≤ 15) = False from eq_false (by decide), if_false, if_true]
    have R := k_for (P := fun x (A : Nat → Int32) => kWP sc d 195 21 [.ref 91, .int p, .int (Int32.ofNat x)] [] ((120, cu, su), aPut (kupi i 91 23 (Int32.ofNat (15 + 1))) 104 400 A, l, kR f t sp) K) (n := 375) (g := fun x A => kuf A x (A (x + 25))) ?_ (i 104)
    · have e0 : aPut (kupi i 91 23 (Int32.ofNat (15 + 1))) 104 400 (i 104) = kupi i 91 23 (Int32.ofNat (15 + 1)) := by
        have := @aP_g (kupi i 91 23 (Int32.ofNat (15 + 1))) 104 400
        rw [kupi_cf (by decide)] at this; exact this
      rw [e0] at R
      refine R.trans ?_
      refine e_X11_adds_21.trans ?_
      simp only [e_X11_adds_0, e_X11_adds_1, e_X11_adds_2, e_X11_adds_5, e_X11_adds_6, e_X11_adds_7, e_X11_adds_10, e_X11_adds_11, e_X11_adds_14, e_X11_adds_16, e_X11_adds_19, e_X11_adds_20, e_X11_adds_22, e_X11_adds_25, e_X11_adds_28, e_X11_adds_29, e_X11_adds_32, e_X11_adds_33, e_X11_adds_34, e_X11_adds_37, e_X11_adds_38, e_X11_adds_40, e_X11_adds_41, e_X11_adds_42, e_X11_adds_43, e_X11_adds_46, e_X11_adds_49, e_X11_adds_50, e_X11_adds_51, e_X11_adds_54, e_X11_adds_55, e_X11_adds_56, e_X11_adds_59, e_X11_adds_60, ob_91, rk_91_24, ar_104, kcl_i, kcl_r, kcl_l, kcl_0, kcl_n, true_and, and_true, show ((375 : Int32) ≤ Int32.ofNat 375) = True from eq_true (by decide), if_true, aP_u (show 91 ≠ 104 by decide), kupi_s, kup2, tn_sub (show 0 < 15 + 1 by decide)]
      rw [aP_c (A2 := shA (i 104)) (fun j _ => sh_fold 375 j)]
    · intro x A hx
      have c1 : ((375 : Int32) ≤ Int32.ofNat x) = False := jpF (n := 375) hx (by decide)
      have c2 : Int32.ofNat x + 25 = Int32.ofNat (x + 25) := (Int32.ofNat_add x 25).symm
      refine e_X11_adds_21.trans ?_
      simp only [e_X11_adds_0, e_X11_adds_1, e_X11_adds_2, e_X11_adds_5, e_X11_adds_6, e_X11_adds_7, e_X11_adds_10, e_X11_adds_11, e_X11_adds_14, e_X11_adds_16, e_X11_adds_19, e_X11_adds_20, e_X11_adds_22, e_X11_adds_25, e_X11_adds_28, e_X11_adds_29, e_X11_adds_32, e_X11_adds_33, e_X11_adds_34, e_X11_adds_37, e_X11_adds_38, e_X11_adds_40, e_X11_adds_41, e_X11_adds_42, e_X11_adds_43, e_X11_adds_46, e_X11_adds_49, e_X11_adds_50, e_X11_adds_51, e_X11_adds_54, e_X11_adds_55, e_X11_adds_56, e_X11_adds_59, e_X11_adds_60, ob_91, rk_91_24, ar_104, kcl_i, kcl_r, kcl_l, kcl_0, kcl_n, true_and, and_true, c1, c2, if_false, kin400 (show x < 400 by omega), kin400 (show x + 25 < 400 by omega), cl_n (show x < 100000 by omega), cl_n (show x + 25 < 100000 by omega), aP_s (show x + 25 < 400 by omega), aW_s (show x < 400 by omega), tn_s]
  · have c1 : (Int32.ofNat (k + 1) ≤ 15) = True := by rw [show (15 : Int32) = Int32.ofNat 15 from rfl, tn_le (by omega) (by decide)]; exact eq_true (by omega)
    simp only [q, c1, if_true, if_false, aP_g]
theorem m_counted {k : Nat} {p : Int32} (hk : i 91 23 = Int32.ofNat k) (h15 : k ≤ 15) : kCA sc (d + 2) 196 [.ref 91, .int p] y nx hd L st ((120, cu, su), i, l, kR f t sp) K = kWP sc (d + 2) y nx L (.int p :: st) ((120, cu, su), if p < 0 then i else aD i k, l, kR f t sp) K := by
  refine kCA_of (d := d + 1) (v := some (.int p)) (S2 := ((120, cu, su), if p < 0 then i else aD i k, l, kR f t sp)) (fun K => ?_)
  rw [km_196]
  show kWP sc (d + 1) 196 0 [.ref 91, .int p] [] ((120, cu, su), i, l, kR f t sp) K = K (some (some (.int p))) ((120, cu, su), if p < 0 then i else aD i k, l, kR f t sp)
  simp only [e_X11_counted_0, e_X11_counted_1, e_X11_counted_4, e_X11_counted_5, e_X11_counted_8, e_X11_counted_9, e_X11_counted_10, e_X11_counted_13, ob_91, kcl_i, kcl_r, kcl_l, kcl_0, kcl_n, true_and, and_true, m_adds hk h15]
  by_cases q : p < 0
  · have q2 : ¬ 0 ≤ p := Int32.not_le.2 q
    simp only [q, q2, if_true, if_false]
  · have q2 : 0 ≤ p := Int32.not_lt.1 q
    simp only [q, q2, if_true, if_false]
/-- Nights lie apart -/
theorem kNc_apart {a b : Nat} (ha : kNc a = true) (hb : kNc b = true) (h : a ≠ b) : a + 3 ≤ b ∨ b + 3 ≤ a := by
  have := kNc_all (P := fun a => ∀ b, kNc b = true → a ≠ b → a + 3 ≤ b ∨ b + 3 ≤ a) (fun a ha b hb hn => kNc_all (P := fun b => a ≠ b → a + 3 ≤ b ∨ b + 3 ≤ a) (fun b hb => (show ∀ a ∈ [10, 13, 20, 23, 26, 29, 32, 35, 38, 41, 44, 47, 50, 53, 56, 59, 62, 65, 68, 71], ∀ b ∈ [10, 13, 20, 23, 26, 29, 32, 35, 38, 41, 44, 47, 50, 53, 56, 59, 62, 65, 68, 71], a ≠ b → a + 3 ≤ b ∨ b + 3 ≤ a from by decide) a ha b hb) hb hn) ha
  exact this b hb h
theorem nG_nP {N2 : Nat → Int32} (h : N2 = nGet i2 b) : nGet (nPut i c N2) c = N2 := by
  subst h
  funext k
  unfold nGet
  by_cases q1 : k < 8
  · rw [if_pos q1, nP_s q1]
  · rw [if_neg q1]
    by_cases q2 : k < 16
    · rw [if_pos q2, nP_p (by omega), show 8 + (k - 8) = k by omega]
    · rw [if_neg q2, if_neg q1, if_neg q2, nP_5, nP_0, nP_1, nP_2, nP_3, nP_4, nP_6, nP_7]
      split <;> rfl
theorem nG_o {a : Nat} (ha : kNc a = true) (hc : kNc c = true) (h : a ≠ c) : nGet (nPut i c N) a = nGet i a := by
  have := kNc_apart ha hc h
  exact nGet_c (nP_o (by omega) (by omega) (by omega)) (nP_o (by omega) (by omega) (by omega)) (nP_o (by omega) (by omega) (by omega))
theorem IS_rot (hS : IS sp) : IS (spRot sp) := by
  obtain ⟨h1, h2⟩ := hS
  constructor
  · intro j hj
    rw [spRot_eq hj]
    split
    · exact h1 _ (by omega)
    · exact h1 _ (by omega)
  · intro j k hj hk e
    rw [spRot_eq hj, spRot_eq hk] at e
    by_cases q1 : j < 14
    · by_cases q2 : k < 14
      · rw [if_pos q1, if_pos q2] at e
        have := h2 (j + 1) (k + 1) (by omega) (by omega) e; omega
      · rw [if_pos q1, if_neg q2] at e
        have := h2 (j + 1) 0 (by omega) (by omega) e; omega
    · by_cases q2 : k < 14
      · rw [if_neg q1, if_pos q2] at e
        have := h2 0 (k + 1) (by omega) (by omega) e; omega
      · omega
theorem IS_pR (hS : IS sp) : IS (pR k sp) := by
  unfold pR; split
  · exact IS_rot hS
  · exact hS
theorem NR_c {M2 : Nat → Int32} (h : NR m N M) (e : ∀ z, z < 25 → M2 z = M z) : NR m N M2 := by
  obtain ⟨⟨h1, h2, h3, h4, h5, h6⟩, x, y, hx, hy, hxy, hy60⟩ := h
  refine ⟨⟨?_, ?_, ?_, ?_, ?_, ?_⟩, x, y, ?_, ?_, hxy, hy60⟩
  · intro k hk; rw [e k (by omega)]; exact h1 k hk
  · rw [h2]; unfold pPm; rw [e 22 (by decide), e 23 (by decide)]
  · rw [h3]; unfold pPt; rw [e 22 (by decide), e 23 (by decide), e 24 (by decide)]
  · rw [e 18 (by decide)]; exact h4
  · rw [e 22 (by decide)]; exact h5
  · intro a ha hb; rw [e a (by omega), e (8 + a) (by omega), e 16 (by decide)]; exact h6 a ha hb
  · rw [e 19 (by decide)]; exact hx
  · rw [e 20 (by decide)]; exact hy
/-- one more that can be undone -/
theorem IU_add (hS : IS sp) (hU : IU m (Int32.ofNat k) (Int32.ofNat k) (fun j => nGet i (sp j)) A) (h15 : k ≤ 15) (hN : NR m (nGet i3 b) M) (e1 : ∀ j, j < 15 → j ≠ pK k → nGet i2 (pR k sp j) = nGet i (pR k sp j)) (e2 : nGet i2 (pR k sp (pK k)) = nGet i3 b) : IU m (Int32.ofNat (pK k + 1)) (Int32.ofNat (pK k + 1)) (fun j => nGet i2 (pR k sp j)) (if k = 15 then shA (pbA k A M) else pbA k A M) := by
  obtain ⟨n, hn, en, _, hj⟩ := hU
  have en' : k = n := by rw [tn_eq (by omega) (by omega)] at en; exact en
  subst en'
  refine ⟨pK k + 1, by unfold pK; split <;> omega, rfl, rfl, fun j hj2 => ?_⟩
  show NR m (nGet i2 (pR k sp j)) _
  by_cases q : j = pK k
  · subst q
    rw [e2]
    have : (fun z => (if k = 15 then shA (pbA k A M) else pbA k A M) (25 * pK k + z)) = fun z => (if k = 15 then shA (pbA k A M) else pbA k A M) (25 * pK k + z) := rfl
    refine NR_c hN ?_
    intro z hz
    by_cases k15 : k = 15
    · subst k15
      rw [if_pos rfl]
      show shA (pbA 15 A M) (25 * 14 + z) = _
      unfold shA pbA
      rw [if_pos (by omega), if_pos (by omega), show 25 * 14 + z + 25 - 25 * 15 = z by omega]
    · rw [if_neg k15]
      unfold pK
      rw [if_neg k15]
      unfold pbA
      rw [if_pos (by omega), show 25 * k + z - 25 * k = z by omega]
  · have hj15 : j < 15 := by unfold pK at hj2; split at hj2 <;> omega
    rw [e1 j hj15 q]
    by_cases k15 : k = 15
    · subst k15
      have hjlt : j < 14 := by
        have h1 : j < 14 + 1 := hj2
        have h2 : j ≠ 14 := q
        omega
      have w := hj (j + 1) (by omega)
      have w' : NR m (nGet i (sp (j + 1))) (fun z => A (25 * (j + 1) + z)) := w
      rw [show pR 15 sp j = sp (j + 1) from by show spRot sp j = _; rw [spRot_eq hj15, if_pos hjlt]]
      refine NR_c w' ?_
      intro z hz
      show (if 15 = 15 then shA (pbA 15 A M) else pbA 15 A M) (25 * j + z) = A (25 * (j + 1) + z)
      rw [if_pos rfl]
      unfold shA pbA
      rw [if_pos (by omega), if_neg (by omega), show 25 * j + z + 25 = 25 * (j + 1) + z by omega]
    · have hjk : j < k := by
        unfold pK at hj2 q
        rw [if_neg k15] at hj2 q
        omega
      have w := hj j hjk
      have w' : NR m (nGet i (sp j)) (fun z => A (25 * j + z)) := w
      rw [show pR k sp j = sp j from by unfold pR; rw [if_neg k15]]
      refine NR_c w' ?_
      intro z hz
      rw [if_neg k15]
      unfold pbA
      rw [if_neg (by omega)]
end TC
