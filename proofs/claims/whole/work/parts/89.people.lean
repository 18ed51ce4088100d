/-! councillors, what was heard -/
section TC
variable {sc : Nat × (Nat → Int32)} {d y nx : Nat} {hd : List (Int × Nat)} {L st : List Value} {S : kS} {cu su : Nat} {i : Nat → Nat → Int32} {l : Nat → Nat → Int64} {f t c b m : Nat} {sp : Nat → Nat} {K : Option (Option Value) → kS → Prop}
variable {A : Nat → Int32}
def aPut (i : Nat → Nat → Int32) (a n : Nat) (A : Nat → Int32) : Nat → Nat → Int32 := fun b j => if b = a ∧ j < n then A j else i b j
theorem aP_s {a n x : Nat} (h : x < n) : aPut i a n A a x = A x := by simp [aPut, h]
theorem aP_o {a n x : Nat} (h : x ≠ a) : aPut i a n A x = i x := by funext j; simp [aPut, h]
theorem aP_g {a n : Nat} : aPut i a n (i a) = i := by
  funext b j; unfold aPut; by_cases h : b = a ∧ j < n
  · rw [if_pos h, h.1]
  · rw [if_neg h]
theorem aP_c {a n : Nat} {A2 : Nat → Int32} (h : ∀ j, j < n → A j = A2 j) : aPut i a n A = aPut i a n A2 := by
  funext b j; unfold aPut; by_cases q : b = a ∧ j < n
  · rw [if_pos q, if_pos q, h j q.2]
  · rw [if_neg q, if_neg q]
theorem aW_s {a n x : Nat} {v : Int32} (h : x < n) : kupi (aPut i a n A) a x v = aPut i a n (kuf A x v) := by
  funext z j
  unfold kupi aPut kuf
  by_cases h1 : z = a
  · subst h1
    by_cases hj : j = x
    · subst hj; simp [h]
    · simp [hj]
  · simp [h1]
theorem kuf_kuf {k : Nat} {v w : Int32} : kuf (kuf A k v) k w = kuf A k w := by
  funext j; unfold kuf; by_cases h : j = k
  · rw [if_pos h, if_pos h]
  · rw [if_neg h, if_neg h, if_neg h]
theorem kfo_kuf {h : Nat → Int32} {n : Nat} : ∀ j, kfo (fun x A => kuf A x (h x)) n A j = if j < n then h j else A j := by
  induction n with
  | zero => intro j; simp [kfo]
  | succ n ih =>
    intro j
    show (if j = n then h n else kfo (fun x A => kuf A x (h x)) n A j) = _
    rw [ih]
    by_cases e : j = n
    · subst e; simp
    · rw [if_neg e]
      by_cases e2 : j < n
      · rw [if_pos e2, if_pos (by omega)]
      · rw [if_neg e2, if_neg (by omega)]
def pW (le : Nat → Int32) (br wa : Int32) : Int32 := kfo (fun x c => if br < le x then c else c ||| (wa &&& (1 <<< (Int32.ofNat x &&& 31)))) 8 0
def pWs (i : Nat → Nat → Int32) (m : Nat) : Nat → Int32 := kfo (fun x A => kuf A x (pW (i 9) (i 6 x) (i 7 x))) m (i 8)
theorem pWs_eq {j : Nat} : pWs i m j = if j < m then pW (i 9) (i 6 j) (i 7 j) else i 8 j := kfo_kuf j
theorem c_weigh (hm : i 5 0 = Int32.ofNat m) (h8 : m ≤ 8) : kCA sc (d + 1) 37 [.ref 5] y nx hd L st ((120, cu, su), i, l, kR f t sp) K = kWP sc (d + 1) y nx L st ((120, cu, su), aPut i 8 8 (pWs i m), l, kR f t sp) K := by
  refine kCA_of (d := d) (v := none) (S2 := ((120, cu, su), aPut i 8 8 (pWs i m), l, kR f t sp)) (fun K => ?_)
  rw [km_37]
  show kWP sc (d) 37 0 [.ref 5, .retAddr 0, .retAddr 0] [] ((120, cu, su), i, l, kR f t sp) K = K (some (none)) ((120, cu, su), aPut i 8 8 (pWs i m), l, kR f t sp)
  have e0 : i = aPut i 8 8 (i 8) := aP_g.symm
  simp only [e_X3_weigh_0, e_X3_weigh_1, e_X3_weigh_3, e_X3_weigh_4, e_X3_weigh_7, e_X3_weigh_10, e_X3_weigh_11, e_X3_weigh_14, e_X3_weigh_15, e_X3_weigh_16, e_X3_weigh_17, e_X3_weigh_18, e_X3_weigh_20, e_X3_weigh_22, e_X3_weigh_25, e_X3_weigh_26, e_X3_weigh_29, e_X3_weigh_30, e_X3_weigh_31, e_X3_weigh_32, e_X3_weigh_35, e_X3_weigh_36, e_X3_weigh_37, e_X3_weigh_40, e_X3_weigh_41, e_X3_weigh_44, e_X3_weigh_45, e_X3_weigh_46, e_X3_weigh_47, e_X3_weigh_48, e_X3_weigh_51, e_X3_weigh_52, e_X3_weigh_53, e_X3_weigh_54, e_X3_weigh_55, e_X3_weigh_56, e_X3_weigh_57, e_X3_weigh_58, e_X3_weigh_59, e_X3_weigh_62, e_X3_weigh_65, e_X3_weigh_68, e_X3_weigh_71, ob_5, rk_5_3, ar_8, rk_5_4, ar_9, rk_5_1, ar_6, rk_5_2, ar_7, kcl_i, kcl_r, kcl_l, kcl_0, kcl_n, true_and, and_true]
  have R := k_for (P := fun x (w : (Nat → Int32) × Value) => kWP sc d 37 2 [.ref 5, .int (Int32.ofNat x), w.2] [] ((120, cu, su), aPut i 8 8 w.1, l, kR f t sp) K) (n := m) (g := fun x w => (kuf w.1 x (pW (i 9) (i 6 x) (i 7 x)), .int 8)) ?_ (i 8, .retAddr 0)
  · have G : (kfo (fun x (w : (Nat → Int32) × Value) => (kuf w.1 x (pW (i 9) (i 6 x) (i 7 x)), Value.int 8)) m (i 8, .retAddr 0)).1 = pWs i m := kfo_rel (R := fun _ (a : (Nat → Int32) × Value) b => a.1 = b) (fun x a b _ h => by subst h; rfl) rfl
    rw [aP_g] at R
    refine R.trans ?_
    rw [G]
    refine e_X3_weigh_2.trans ?_
    simp only [e_X3_weigh_0, e_X3_weigh_1, e_X3_weigh_3, e_X3_weigh_4, e_X3_weigh_7, e_X3_weigh_10, e_X3_weigh_11, e_X3_weigh_14, e_X3_weigh_15, e_X3_weigh_16, e_X3_weigh_17, e_X3_weigh_18, e_X3_weigh_20, e_X3_weigh_22, e_X3_weigh_25, e_X3_weigh_26, e_X3_weigh_29, e_X3_weigh_30, e_X3_weigh_31, e_X3_weigh_32, e_X3_weigh_35, e_X3_weigh_36, e_X3_weigh_37, e_X3_weigh_40, e_X3_weigh_41, e_X3_weigh_44, e_X3_weigh_45, e_X3_weigh_46, e_X3_weigh_47, e_X3_weigh_48, e_X3_weigh_51, e_X3_weigh_52, e_X3_weigh_53, e_X3_weigh_54, e_X3_weigh_55, e_X3_weigh_56, e_X3_weigh_57, e_X3_weigh_58, e_X3_weigh_59, e_X3_weigh_62, e_X3_weigh_65, e_X3_weigh_68, e_X3_weigh_71, ob_5, rk_5_3, ar_8, rk_5_4, ar_9, rk_5_1, ar_6, rk_5_2, ar_7, kcl_i, kcl_r, kcl_l, kcl_0, kcl_n, true_and, and_true, aP_o (show 5 ≠ 8 by decide), hm, Int32.le_refl, if_true]
  · intro x ⟨A, v⟩ hx
    have c1 : (Int32.ofNat m ≤ Int32.ofNat x) = False := by rw [tn_le (by omega) (by omega)]; exact eq_false (by omega)
    have c2 : kin (Int32.ofNat x) 8 = True := by rw [tn_kin (by omega)]; exact eq_true (by omega)
    refine e_X3_weigh_2.trans ?_
    simp only [e_X3_weigh_0, e_X3_weigh_1, e_X3_weigh_3, e_X3_weigh_4, e_X3_weigh_7, e_X3_weigh_10, e_X3_weigh_11, e_X3_weigh_14, e_X3_weigh_15, e_X3_weigh_16, e_X3_weigh_17, e_X3_weigh_18, e_X3_weigh_20, e_X3_weigh_22, e_X3_weigh_25, e_X3_weigh_26, e_X3_weigh_29, e_X3_weigh_30, e_X3_weigh_31, e_X3_weigh_32, e_X3_weigh_35, e_X3_weigh_36, e_X3_weigh_37, e_X3_weigh_40, e_X3_weigh_41, e_X3_weigh_44, e_X3_weigh_45, e_X3_weigh_46, e_X3_weigh_47, e_X3_weigh_48, e_X3_weigh_51, e_X3_weigh_52, e_X3_weigh_53, e_X3_weigh_54, e_X3_weigh_55, e_X3_weigh_56, e_X3_weigh_57, e_X3_weigh_58, e_X3_weigh_59, e_X3_weigh_62, e_X3_weigh_65, e_X3_weigh_68, e_X3_weigh_71, ob_5, rk_5_3, ar_8, rk_5_4, ar_9, rk_5_1, ar_6, rk_5_2, ar_7, kcl_i, kcl_r, kcl_l, kcl_0, kcl_n, true_and, and_true, aP_o (show 5 ≠ 8 by decide), hm, c1, c2, if_false, tn_cl (show x < 2147483648 by omega), aW_s (show x < 8 by omega)]
    refine (k_for (P := fun z c => kWP sc d 37 19 [.ref 5, .int (Int32.ofNat x), .int (Int32.ofNat z)] [] ((120, cu, su), aPut i 8 8 (kuf A x c), l, kR f t sp) K) (n := 8) (g := fun z c => if i 6 x < i 9 z then c else c ||| (i 7 x &&& (1 <<< (Int32.ofNat z &&& 31)))) ?_ 0).trans ?_
    · intro z c hz
      have d1 : ((8 : Int32) ≤ Int32.ofNat z) = False := by rw [show (8 : Int32) = Int32.ofNat 8 from rfl, tn_le (by omega) (by omega)]; exact eq_false (by omega)
      have d2 : kin (Int32.ofNat z) 8 = True := by rw [tn_kin (by omega)]; exact eq_true (by omega)
      refine e_X3_weigh_19.trans ?_
      simp only [e_X3_weigh_0, e_X3_weigh_1, e_X3_weigh_3, e_X3_weigh_4, e_X3_weigh_7, e_X3_weigh_10, e_X3_weigh_11, e_X3_weigh_14, e_X3_weigh_15, e_X3_weigh_16, e_X3_weigh_17, e_X3_weigh_18, e_X3_weigh_20, e_X3_weigh_22, e_X3_weigh_25, e_X3_weigh_26, e_X3_weigh_29, e_X3_weigh_30, e_X3_weigh_31, e_X3_weigh_32, e_X3_weigh_35, e_X3_weigh_36, e_X3_weigh_37, e_X3_weigh_40, e_X3_weigh_41, e_X3_weigh_44, e_X3_weigh_45, e_X3_weigh_46, e_X3_weigh_47, e_X3_weigh_48, e_X3_weigh_51, e_X3_weigh_52, e_X3_weigh_53, e_X3_weigh_54, e_X3_weigh_55, e_X3_weigh_56, e_X3_weigh_57, e_X3_weigh_58, e_X3_weigh_59, e_X3_weigh_62, e_X3_weigh_65, e_X3_weigh_68, e_X3_weigh_71, ob_5, rk_5_3, ar_8, rk_5_4, ar_9, rk_5_1, ar_6, rk_5_2, ar_7, kcl_i, kcl_r, kcl_l, kcl_0, kcl_n, true_and, and_true, aP_o (show 9 ≠ 8 by decide), aP_o (show 6 ≠ 8 by decide), aP_o (show 7 ≠ 8 by decide), d1, d2, c2, if_false, tn_cl (show x < 2147483648 by omega), tn_cl (show z < 2147483648 by omega), aP_s (show x < 8 by omega), kuf_s, aW_s (show x < 8 by omega), kuf_kuf, tn_s]
      by_cases q : i 6 x < i 9 z
      · simp only [q, if_true]
      · simp only [q, if_false]
    · refine e_X3_weigh_19.trans ?_
      simp only [e_X3_weigh_0, e_X3_weigh_1, e_X3_weigh_3, e_X3_weigh_4, e_X3_weigh_7, e_X3_weigh_10, e_X3_weigh_11, e_X3_weigh_14, e_X3_weigh_15, e_X3_weigh_16, e_X3_weigh_17, e_X3_weigh_18, e_X3_weigh_20, e_X3_weigh_22, e_X3_weigh_25, e_X3_weigh_26, e_X3_weigh_29, e_X3_weigh_30, e_X3_weigh_31, e_X3_weigh_32, e_X3_weigh_35, e_X3_weigh_36, e_X3_weigh_37, e_X3_weigh_40, e_X3_weigh_41, e_X3_weigh_44, e_X3_weigh_45, e_X3_weigh_46, e_X3_weigh_47, e_X3_weigh_48, e_X3_weigh_51, e_X3_weigh_52, e_X3_weigh_53, e_X3_weigh_54, e_X3_weigh_55, e_X3_weigh_56, e_X3_weigh_57, e_X3_weigh_58, e_X3_weigh_59, e_X3_weigh_62, e_X3_weigh_65, e_X3_weigh_68, e_X3_weigh_71, ob_5, rk_5_3, ar_8, rk_5_4, ar_9, rk_5_1, ar_6, rk_5_2, ar_7, kcl_i, kcl_r, kcl_l, kcl_0, kcl_n, true_and, and_true, show ((8 : Int32) ≤ Int32.ofNat 8) = True from eq_true (by decide), if_true, tn_s]
      rfl
theorem c_settle {n : Nat} (h8 : n ≤ 8) : kCA sc (d + 2) 36 [.ref 5, .int (Int32.ofNat n)] y nx hd L st ((120, cu, su), i, l, kR f t sp) K = kWP sc (d + 2) y nx L (.int (Int32.ofNat n - i 5 0) :: st) ((120, cu, su), aPut (kupi i 5 0 (Int32.ofNat n)) 8 8 (pWs (kupi i 5 0 (Int32.ofNat n)) n), l, kR f t sp) K := by
  refine kCA_of (d := d + 1) (v := some (.int (Int32.ofNat n - i 5 0))) (S2 := ((120, cu, su), aPut (kupi i 5 0 (Int32.ofNat n)) 8 8 (pWs (kupi i 5 0 (Int32.ofNat n)) n), l, kR f t sp)) (fun K => ?_)
  rw [km_36]
  show kWP sc (d + 1) 36 0 [.ref 5, .int (Int32.ofNat n), .retAddr 0] [] ((120, cu, su), i, l, kR f t sp) K = K (some (some (.int (Int32.ofNat n - i 5 0)))) ((120, cu, su), aPut (kupi i 5 0 (Int32.ofNat n)) 8 8 (pWs (kupi i 5 0 (Int32.ofNat n)) n), l, kR f t sp)
  simp only [e_X3_settle_0, e_X3_settle_1, e_X3_settle_2, e_X3_settle_5, e_X3_settle_6, e_X3_settle_7, e_X3_settle_8, e_X3_settle_9, e_X3_settle_12, e_X3_settle_13, e_X3_settle_16, e_X3_settle_17, ob_5, kcl_i, kcl_r, kcl_l, kcl_0, kcl_n, true_and, and_true, c_weigh (i := kupi i 5 0 (Int32.ofNat n)) kupi_s h8]
def pEnt (k v : Int32) : Int32 := if k = 0 then v.toInt8.toInt32 else if k = 1 then v.toInt16.toInt32 else v
theorem c_sheetEntry {k v : Int32} : kCA sc (d + 1) 38 [.int k, .int v] y nx hd L st ((120, cu, su), i, l, kR f t sp) K = kWP sc (d + 1) y nx L (.int (pEnt k v) :: st) ((120, cu, su), i, l, kR f t sp) K := by
  refine kCA_of (d := d) (v := some (.int (pEnt k v))) (S2 := ((120, cu, su), i, l, kR f t sp)) (fun K => ?_)
  rw [km_38]
  show kWP sc (d) 38 0 [.int k, .int v] [] ((120, cu, su), i, l, kR f t sp) K = K (some (some (.int (pEnt k v)))) ((120, cu, su), i, l, kR f t sp)
  simp only [e_X3_sheetEntry_0, e_X3_sheetEntry_1, e_X3_sheetEntry_4, e_X3_sheetEntry_5, e_X3_sheetEntry_6, e_X3_sheetEntry_7, e_X3_sheetEntry_8, e_X3_sheetEntry_9, e_X3_sheetEntry_12, e_X3_sheetEntry_13, e_X3_sheetEntry_14, e_X3_sheetEntry_17, e_X3_sheetEntry_18, kcl_i, kcl_r, kcl_l, kcl_0, kcl_n, true_and, and_true]
  unfold pEnt
  by_cases q1 : k = 0
  · simp only [q1, if_true]
  · by_cases q2 : k = 1
    · subst q2; rfl
    · simp only [q1, q2, if_false]
def pCl (e : Int32) : Int32 := if 1 < (if e < 9 then e else 9) then (if e < 9 then e else 9) else 1
def pSh (k n f s : Int32) (x : Nat) : Int32 := if n ≤ Int32.ofNat x then 1 else pEnt k (f + Int32.ofNat x * s)
def pShB (k n f s : Int32) (B : Nat → Int32) (m : Nat) : Nat → Int32 := kfo (fun x B => kuf B x (pCl (pSh k n f s x))) m B
def pShS (k n f s : Int32) (m : Nat) : Int32 := kfo (fun x c => c + pCl (pSh k n f s x)) m 0
theorem c_takeSheet {k n v w : Int32} (hm : i 5 0 = Int32.ofNat m) (h8 : m ≤ 8) : kCA sc (d + 2) 32 [.ref 5, .int k, .int n, .int v, .int w] y nx hd L st ((120, cu, su), i, l, kR f t sp) K = kWP sc (d + 2) y nx L (.int (pShS k n v w m) :: st) ((120, cu, su), aPut (aPut i 6 8 (pShB k n v w (i 6) m)) 8 8 (pWs (aPut i 6 8 (pShB k n v w (i 6) m)) m), l, kR f t sp) K := by
  refine kCA_of (d := d + 1) (v := some (.int (pShS k n v w m))) (S2 := ((120, cu, su), aPut (aPut i 6 8 (pShB k n v w (i 6) m)) 8 8 (pWs (aPut i 6 8 (pShB k n v w (i 6) m)) m), l, kR f t sp)) (fun K => ?_)
  rw [km_32]
  show kWP sc (d + 1) 32 0 [.ref 5, .int k, .int n, .int v, .int w, .retAddr 0, .retAddr 0, .retAddr 0] [] ((120, cu, su), i, l, kR f t sp) K = K (some (some (.int (pShS k n v w m)))) ((120, cu, su), aPut (aPut i 6 8 (pShB k n v w (i 6) m)) 8 8 (pWs (aPut i 6 8 (pShB k n v w (i 6) m)) m), l, kR f t sp)
  simp only [e_X3_takeSheet_0, e_X3_takeSheet_1, e_X3_takeSheet_3, e_X3_takeSheet_4, e_X3_takeSheet_8, e_X3_takeSheet_9, e_X3_takeSheet_12, e_X3_takeSheet_15, e_X3_takeSheet_17, e_X3_takeSheet_18, e_X3_takeSheet_21, e_X3_takeSheet_22, e_X3_takeSheet_23, e_X3_takeSheet_25, e_X3_takeSheet_27, e_X3_takeSheet_28, e_X3_takeSheet_29, e_X3_takeSheet_32, e_X3_takeSheet_35, e_X3_takeSheet_36, e_X3_takeSheet_38, e_X3_takeSheet_39, e_X3_takeSheet_42, e_X3_takeSheet_44, e_X3_takeSheet_45, e_X3_takeSheet_47, e_X3_takeSheet_49, e_X3_takeSheet_52, e_X3_takeSheet_55, e_X3_takeSheet_56, e_X3_takeSheet_58, e_X3_takeSheet_59, e_X3_takeSheet_62, e_X3_takeSheet_64, e_X3_takeSheet_65, e_X3_takeSheet_66, e_X3_takeSheet_68, e_X3_takeSheet_71, e_X3_takeSheet_74, e_X3_takeSheet_75, e_X3_takeSheet_78, e_X3_takeSheet_80, ob_5, rk_5_1, ar_6, kcl_i, kcl_r, kcl_l, kcl_0, kcl_n, true_and, and_true]
  have R := k_for (P := fun x (q : (Nat → Int32) × Int32 × Value) => kWP sc (d + 1) 32 6 [.ref 5, .int k, .int n, .int v, .int w, .int q.2.1, .int (Int32.ofNat x), q.2.2] [] ((120, cu, su), aPut i 6 8 q.1, l, kR f t sp) K) (n := m) (g := fun x q => (kuf q.1 x (pCl (pSh k n v w x)), q.2.1 + pCl (pSh k n v w x), .int (pSh k n v w x))) ?_ (i 6, 0, .retAddr 0)
  · have G := kfo_rel (n := m) (a := ((i 6, 0, .retAddr 0) : (Nat → Int32) × Int32 × Value)) (b := ((i 6, 0) : (Nat → Int32) × Int32)) (g := fun x q => (kuf q.1 x (pCl (pSh k n v w x)), q.2.1 + pCl (pSh k n v w x), .int (pSh k n v w x))) (g2 := fun x q => (kuf q.1 x (pCl (pSh k n v w x)), q.2 + pCl (pSh k n v w x))) (R := fun _ (a : (Nat → Int32) × Int32 × Value) b => a.1 = b.1 ∧ a.2.1 = b.2) (fun x a b _ h => by obtain ⟨h1, h2⟩ := h; exact ⟨by simp only [h1], by simp only [h2]⟩) ⟨rfl, rfl⟩
    have G1 : (kfo (fun x (q : (Nat → Int32) × Int32) => (kuf q.1 x (pCl (pSh k n v w x)), q.2 + pCl (pSh k n v w x))) m (i 6, 0)).1 = pShB k n v w (i 6) m := kfo_rel (R := fun _ (a : (Nat → Int32) × Int32) b => a.1 = b) (fun x a b _ h => by subst h; rfl) rfl
    have G2 : (kfo (fun x (q : (Nat → Int32) × Int32) => (kuf q.1 x (pCl (pSh k n v w x)), q.2 + pCl (pSh k n v w x))) m (i 6, 0)).2 = pShS k n v w m := kfo_rel (R := fun _ (a : (Nat → Int32) × Int32) b => a.2 = b) (fun x a b _ h => by subst h; rfl) rfl
    rw [aP_g] at R
    refine R.trans ?_
    rw [G.1, G.2, G1, G2]
    have hm2 : aPut i 6 8 (pShB k n v w (i 6) m) 5 0 = Int32.ofNat m := by rw [aP_o (by decide)]; exact hm
    refine e_X3_takeSheet_6.trans ?_
    simp only [e_X3_takeSheet_0, e_X3_takeSheet_1, e_X3_takeSheet_3, e_X3_takeSheet_4, e_X3_takeSheet_8, e_X3_takeSheet_9, e_X3_takeSheet_12, e_X3_takeSheet_15, e_X3_takeSheet_17, e_X3_takeSheet_18, e_X3_takeSheet_21, e_X3_takeSheet_22, e_X3_takeSheet_23, e_X3_takeSheet_25, e_X3_takeSheet_27, e_X3_takeSheet_28, e_X3_takeSheet_29, e_X3_takeSheet_32, e_X3_takeSheet_35, e_X3_takeSheet_36, e_X3_takeSheet_38, e_X3_takeSheet_39, e_X3_takeSheet_42, e_X3_takeSheet_44, e_X3_takeSheet_45, e_X3_takeSheet_47, e_X3_takeSheet_49, e_X3_takeSheet_52, e_X3_takeSheet_55, e_X3_takeSheet_56, e_X3_takeSheet_58, e_X3_takeSheet_59, e_X3_takeSheet_62, e_X3_takeSheet_64, e_X3_takeSheet_65, e_X3_takeSheet_66, e_X3_takeSheet_68, e_X3_takeSheet_71, e_X3_takeSheet_74, e_X3_takeSheet_75, e_X3_takeSheet_78, e_X3_takeSheet_80, ob_5, rk_5_1, ar_6, kcl_i, kcl_r, kcl_l, kcl_0, kcl_n, true_and, and_true, aP_o (show 5 ≠ 6 by decide), hm, Int32.le_refl, if_true, c_weigh hm2 h8]
  · intro x ⟨B, c, g⟩ hx
    have c1 : (Int32.ofNat m ≤ Int32.ofNat x) = False := by rw [tn_le (by omega) (by omega)]; exact eq_false (by omega)
    have c2 : kin (Int32.ofNat x) 8 = True := by rw [tn_kin (by omega)]; exact eq_true (by omega)
    refine e_X3_takeSheet_6.trans ?_
    simp only [e_X3_takeSheet_0, e_X3_takeSheet_1, e_X3_takeSheet_3, e_X3_takeSheet_4, e_X3_takeSheet_8, e_X3_takeSheet_9, e_X3_takeSheet_12, e_X3_takeSheet_15, e_X3_takeSheet_17, e_X3_takeSheet_18, e_X3_takeSheet_21, e_X3_takeSheet_22, e_X3_takeSheet_23, e_X3_takeSheet_25, e_X3_takeSheet_27, e_X3_takeSheet_28, e_X3_takeSheet_29, e_X3_takeSheet_32, e_X3_takeSheet_35, e_X3_takeSheet_36, e_X3_takeSheet_38, e_X3_takeSheet_39, e_X3_takeSheet_42, e_X3_takeSheet_44, e_X3_takeSheet_45, e_X3_takeSheet_47, e_X3_takeSheet_49, e_X3_takeSheet_52, e_X3_takeSheet_55, e_X3_takeSheet_56, e_X3_takeSheet_58, e_X3_takeSheet_59, e_X3_takeSheet_62, e_X3_takeSheet_64, e_X3_takeSheet_65, e_X3_takeSheet_66, e_X3_takeSheet_68, e_X3_takeSheet_71, e_X3_takeSheet_74, e_X3_takeSheet_75, e_X3_takeSheet_78, e_X3_takeSheet_80, ob_5, rk_5_1, ar_6, kcl_i, kcl_r, kcl_l, kcl_0, kcl_n, true_and, and_true, aP_o (show 5 ≠ 6 by decide), hm, c1, c2, if_false, tn_cl (show x < 2147483648 by omega), c_sheetEntry, aW_s (show x < 8 by omega), aP_s (show x < 8 by omega), kuf_s, tn_s]
    unfold pCl pSh
    by_cases q : n ≤ Int32.ofNat x
    · simp only [q, if_true]
    · simp only [q, if_false]
def pTog (co : Nat → Int32) (v : Int32) (m : Nat) : Int32 := kfo (fun x b => if pBit v x = 0 then b else b ||| co x) m 0
theorem c_couldTogether {v : Int32} (hm : i 5 0 = Int32.ofNat m) (h8 : m ≤ 8) : kCA sc (d + 1) 33 [.ref 5, .int v] y nx hd L st ((120, cu, su), i, l, kR f t sp) K = kWP sc (d + 1) y nx L (.int (pTog (i 8) v m) :: st) ((120, cu, su), i, l, kR f t sp) K := by
  refine kCA_of (d := d) (v := some (.int (pTog (i 8) v m))) (S2 := ((120, cu, su), i, l, kR f t sp)) (fun K => ?_)
  rw [km_33]
  show kWP sc (d) 33 0 [.ref 5, .int v, .retAddr 0, .retAddr 0] [] ((120, cu, su), i, l, kR f t sp) K = K (some (some (.int (pTog (i 8) v m)))) ((120, cu, su), i, l, kR f t sp)
  simp only [e_X3_couldTogether_0, e_X3_couldTogether_1, e_X3_couldTogether_2, e_X3_couldTogether_3, e_X3_couldTogether_5, e_X3_couldTogether_6, e_X3_couldTogether_9, e_X3_couldTogether_12, e_X3_couldTogether_13, e_X3_couldTogether_14, e_X3_couldTogether_15, e_X3_couldTogether_16, e_X3_couldTogether_17, e_X3_couldTogether_20, e_X3_couldTogether_21, e_X3_couldTogether_22, e_X3_couldTogether_25, e_X3_couldTogether_26, e_X3_couldTogether_27, e_X3_couldTogether_28, e_X3_couldTogether_29, e_X3_couldTogether_32, e_X3_couldTogether_35, e_X3_couldTogether_36, ob_5, rk_5_3, ar_8, kcl_i, kcl_r, kcl_l, kcl_0, kcl_n, true_and, and_true]
  refine (k_for (P := fun x b => kWP sc d 33 4 [.ref 5, .int v, .int b, .int (Int32.ofNat x)] [] ((120, cu, su), i, l, kR f t sp) K) (n := m) (g := fun x b => if pBit v x = 0 then b else b ||| i 8 x) ?_ 0).trans ?_
  · intro x b hx
    have c1 : (Int32.ofNat m ≤ Int32.ofNat x) = False := by rw [tn_le (by omega) (by omega)]; exact eq_false (by omega)
    have c2 : kin (Int32.ofNat x) 8 = True := by rw [tn_kin (by omega)]; exact eq_true (by omega)
    refine e_X3_couldTogether_4.trans ?_
    simp only [e_X3_couldTogether_0, e_X3_couldTogether_1, e_X3_couldTogether_2, e_X3_couldTogether_3, e_X3_couldTogether_5, e_X3_couldTogether_6, e_X3_couldTogether_9, e_X3_couldTogether_12, e_X3_couldTogether_13, e_X3_couldTogether_14, e_X3_couldTogether_15, e_X3_couldTogether_16, e_X3_couldTogether_17, e_X3_couldTogether_20, e_X3_couldTogether_21, e_X3_couldTogether_22, e_X3_couldTogether_25, e_X3_couldTogether_26, e_X3_couldTogether_27, e_X3_couldTogether_28, e_X3_couldTogether_29, e_X3_couldTogether_32, e_X3_couldTogether_35, e_X3_couldTogether_36, ob_5, rk_5_3, ar_8, kcl_i, kcl_r, kcl_l, kcl_0, kcl_n, true_and, and_true, hm, c1, c2, if_false, tn_cl (show x < 2147483648 by omega), tn_s]
    show (if pBit v x = 0 then _ else _) = _
    by_cases q : pBit v x = 0
    · simp only [q, if_true]
    · simp only [q, if_false]
  · refine e_X3_couldTogether_4.trans ?_
    simp only [e_X3_couldTogether_0, e_X3_couldTogether_1, e_X3_couldTogether_2, e_X3_couldTogether_3, e_X3_couldTogether_5, e_X3_couldTogether_6, e_X3_couldTogether_9, e_X3_couldTogether_12, e_X3_couldTogether_13, e_X3_couldTogether_14, e_X3_couldTogether_15, e_X3_couldTogether_16, e_X3_couldTogether_17, e_X3_couldTogether_20, e_X3_couldTogether_21, e_X3_couldTogether_22, e_X3_couldTogether_25, e_X3_couldTogether_26, e_X3_couldTogether_27, e_X3_couldTogether_28, e_X3_couldTogether_29, e_X3_couldTogether_32, e_X3_couldTogether_35, e_X3_couldTogether_36, ob_5, rk_5_3, ar_8, kcl_i, kcl_r, kcl_l, kcl_0, kcl_n, true_and, and_true, hm, Int32.le_refl, if_true]
    rfl
def pWant (wa : Nat → Int32) (v : Int32) (m : Nat) : Int32 := kfo (fun x b => b ||| (((wa x >>> (v &&& 31)) &&& 1) <<< (Int32.ofNat x &&& 31))) m 0
theorem c_wanting {v : Int32} (hm : i 5 0 = Int32.ofNat m) (h8 : m ≤ 8) : kCA sc (d + 1) 34 [.ref 5, .int v] y nx hd L st ((120, cu, su), i, l, kR f t sp) K = kWP sc (d + 1) y nx L (.int (pWant (i 7) v m) :: st) ((120, cu, su), i, l, kR f t sp) K := by
  refine kCA_of (d := d) (v := some (.int (pWant (i 7) v m))) (S2 := ((120, cu, su), i, l, kR f t sp)) (fun K => ?_)
  rw [km_34]
  show kWP sc (d) 34 0 [.ref 5, .int v, .retAddr 0, .retAddr 0] [] ((120, cu, su), i, l, kR f t sp) K = K (some (some (.int (pWant (i 7) v m)))) ((120, cu, su), i, l, kR f t sp)
  simp only [e_X3_wanting_0, e_X3_wanting_1, e_X3_wanting_2, e_X3_wanting_3, e_X3_wanting_5, e_X3_wanting_6, e_X3_wanting_9, e_X3_wanting_12, e_X3_wanting_13, e_X3_wanting_14, e_X3_wanting_17, e_X3_wanting_18, e_X3_wanting_19, e_X3_wanting_20, e_X3_wanting_21, e_X3_wanting_22, e_X3_wanting_23, e_X3_wanting_24, e_X3_wanting_25, e_X3_wanting_26, e_X3_wanting_27, e_X3_wanting_30, e_X3_wanting_33, e_X3_wanting_34, ob_5, rk_5_2, ar_7, kcl_i, kcl_r, kcl_l, kcl_0, kcl_n, true_and, and_true]
  refine (k_for (P := fun x b => kWP sc d 34 4 [.ref 5, .int v, .int b, .int (Int32.ofNat x)] [] ((120, cu, su), i, l, kR f t sp) K) (n := m) (g := fun x b => b ||| (((i 7 x >>> (v &&& 31)) &&& 1) <<< (Int32.ofNat x &&& 31))) ?_ 0).trans ?_
  · intro x b hx
    have c1 : (Int32.ofNat m ≤ Int32.ofNat x) = False := by rw [tn_le (by omega) (by omega)]; exact eq_false (by omega)
    have c2 : kin (Int32.ofNat x) 8 = True := by rw [tn_kin (by omega)]; exact eq_true (by omega)
    refine e_X3_wanting_4.trans ?_
    simp only [e_X3_wanting_0, e_X3_wanting_1, e_X3_wanting_2, e_X3_wanting_3, e_X3_wanting_5, e_X3_wanting_6, e_X3_wanting_9, e_X3_wanting_12, e_X3_wanting_13, e_X3_wanting_14, e_X3_wanting_17, e_X3_wanting_18, e_X3_wanting_19, e_X3_wanting_20, e_X3_wanting_21, e_X3_wanting_22, e_X3_wanting_23, e_X3_wanting_24, e_X3_wanting_25, e_X3_wanting_26, e_X3_wanting_27, e_X3_wanting_30, e_X3_wanting_33, e_X3_wanting_34, ob_5, rk_5_2, ar_7, kcl_i, kcl_r, kcl_l, kcl_0, kcl_n, true_and, and_true, hm, c1, c2, if_false, tn_cl (show x < 2147483648 by omega), tn_s]
  · refine e_X3_wanting_4.trans ?_
    simp only [e_X3_wanting_0, e_X3_wanting_1, e_X3_wanting_2, e_X3_wanting_3, e_X3_wanting_5, e_X3_wanting_6, e_X3_wanting_9, e_X3_wanting_12, e_X3_wanting_13, e_X3_wanting_14, e_X3_wanting_17, e_X3_wanting_18, e_X3_wanting_19, e_X3_wanting_20, e_X3_wanting_21, e_X3_wanting_22, e_X3_wanting_23, e_X3_wanting_24, e_X3_wanting_25, e_X3_wanting_26, e_X3_wanting_27, e_X3_wanting_30, e_X3_wanting_33, e_X3_wanting_34, ob_5, rk_5_2, ar_7, kcl_i, kcl_r, kcl_l, kcl_0, kcl_n, true_and, and_true, hm, Int32.le_refl, if_true]
    rfl
def pCanBe (w v : Int32) : Int32 := if w = 0 then kb (¬ v < 0 ∧ ¬ 8 ≤ v) else if w = 1 then kb (¬ v < 1 ∧ ¬ 9 < v) else if w = 2 then kb (¬ v < 0 ∧ ¬ 999 < v) else if w = 3 then kb (v = 0 ∨ v = 1) else if w = 4 then kb (¬ v < 0 ∧ ¬ 999 < v) else 0
theorem c_canBe {w v : Int32} : kCA sc (d + 2) 65 [.int w, .int v] y nx hd L st ((120, cu, su), i, l, kR f t sp) K = kWP sc (d + 2) y nx L (.int (pCanBe w v) :: st) ((120, cu, su), i, l, kR f t sp) K := by
  refine kCA_of (d := d + 1) (v := some (.int (pCanBe w v))) (S2 := ((120, cu, su), i, l, kR f t sp)) (fun K => ?_)
  rw [km_65]
  show kWP sc (d + 1) 65 0 [.int w, .int v] [] ((120, cu, su), i, l, kR f t sp) K = K (some (some (.int (pCanBe w v)))) ((120, cu, su), i, l, kR f t sp)
  simp only [e_X6_canBe_0, e_X6_canBe_1, e_X6_canBe_36, e_X6_canBe_37, e_X6_canBe_40, e_X6_canBe_41, e_X6_canBe_42, e_X6_canBe_45, e_X6_canBe_46, e_X6_canBe_47, e_X6_canBe_50, e_X6_canBe_51, e_X6_canBe_54, e_X6_canBe_57, e_X6_canBe_58, e_X6_canBe_61, e_X6_canBe_62, e_X6_canBe_63, e_X6_canBe_64, e_X6_canBe_67, e_X6_canBe_68, e_X6_canBe_69, e_X6_canBe_72, e_X6_canBe_73, e_X6_canBe_76, e_X6_canBe_77, e_X6_canBe_78, e_X6_canBe_79, e_X6_canBe_82, e_X6_canBe_83, e_X6_canBe_86, e_X6_canBe_89, e_X6_canBe_90, e_X6_canBe_93, e_X6_canBe_94, e_X6_canBe_95, e_X6_canBe_96, kcl_i, kcl_r, kcl_l, kcl_0, kcl_n, true_and, and_true, c_isThing, c_isLength, kb_ok, kbool_0, kbool_1]
  unfold pCanBe
  by_cases k0 : w = 0
  · simp [k0]
  by_cases k1 : w = 1
  · simp [k1]
  by_cases k2 : w = 2
  · simp only [k2]
    by_cases q1 : v < 0 <;> by_cases q2 : 999 < v <;> simp [kb, q1, q2]
  by_cases k3 : w = 3
  · simp only [k3]
    by_cases q1 : v = 0 <;> by_cases q2 : v = 1 <;> simp [kb, q1, q2]
  by_cases k4 : w = 4
  · simp only [k4]
    by_cases q1 : v < 0 <;> by_cases q2 : 999 < v <;> simp [kb, q1, q2]
  simp [k0, k1, k2, k3, k4]
theorem c_ruadd {n : Nat} {w v : Int32} (hn : i 74 2 = Int32.ofNat n) (h12 : n ≤ 12) : kCA sc (d + 3) 60 [.ref 74, .int w, .int v] y nx hd L st ((120, cu, su), i, l, kR f t sp) K = kWP sc (d + 3) y nx L (.int (if n < 12 ∧ ¬ pCanBe w v = 0 then Int32.ofNat (n + 1) else -1) :: st) ((120, cu, su), if n < 12 ∧ ¬ pCanBe w v = 0 then kupi (kupi (kupi i 75 n w) 76 n v) 74 2 (Int32.ofNat (n + 1)) else i, l, kR f t sp) K := by
  refine kCA_of (d := d + 2) (v := some (.int (if n < 12 ∧ ¬ pCanBe w v = 0 then Int32.ofNat (n + 1) else -1))) (S2 := ((120, cu, su), if n < 12 ∧ ¬ pCanBe w v = 0 then kupi (kupi (kupi i 75 n w) 76 n v) 74 2 (Int32.ofNat (n + 1)) else i, l, kR f t sp)) (fun K => ?_)
  rw [km_60]
  show kWP sc (d + 2) 60 0 [.ref 74, .int w, .int v] [] ((120, cu, su), i, l, kR f t sp) K = K (some (some (.int (if n < 12 ∧ ¬ pCanBe w v = 0 then Int32.ofNat (n + 1) else -1)))) ((120, cu, su), if n < 12 ∧ ¬ pCanBe w v = 0 then kupi (kupi (kupi i 75 n w) 76 n v) 74 2 (Int32.ofNat (n + 1)) else i, l, kR f t sp)
  simp only [e_X6_add_0, e_X6_add_1, e_X6_add_4, e_X6_add_6, e_X6_add_9, e_X6_add_10, e_X6_add_11, e_X6_add_14, e_X6_add_17, e_X6_add_18, e_X6_add_19, e_X6_add_20, e_X6_add_23, e_X6_add_24, e_X6_add_27, e_X6_add_28, e_X6_add_29, e_X6_add_30, e_X6_add_33, e_X6_add_34, e_X6_add_37, e_X6_add_38, e_X6_add_39, e_X6_add_40, e_X6_add_41, e_X6_add_44, e_X6_add_45, e_X6_add_46, e_X6_add_49, e_X6_add_50, e_X6_add_53, ob_74, rk_74_0, ar_75, rk_74_1, ar_76, kcl_i, kcl_r, kcl_l, kcl_0, kcl_n, true_and, and_true, c_canBe, hn, show (12 : Int32) = Int32.ofNat 12 from rfl, tn_le (show 12 < 2147483648 by decide) (show n < 2147483648 by omega)]
  by_cases q1 : 12 ≤ n
  · have q2 : ¬ n < 12 := by omega
    simp only [q1, q2, if_true, false_and, if_false]
  · have q2 : n < 12 := by omega
    by_cases q3 : pCanBe w v = 0
    · simp only [q1, q2, q3, if_true, if_false, not_true_eq_false, and_false]
    · have c2 : kin (Int32.ofNat n) 12 = True := by rw [tn_kin (by omega)]; exact eq_true (by omega)
      have e1 : kupi i 75 n w 74 2 = Int32.ofNat n := by rw [kupi_c (by decide)]; exact hn
      have e2 : kupi (kupi i 75 n w) 76 n v 74 2 = Int32.ofNat n := by rw [kupi_c (by decide)]; exact e1
      simp only [q1, q2, q3, if_true, if_false, not_false_eq_true, and_self, c2, tn_cl (show n < 2147483648 by omega), e1, e2, tn_s, kupi_s, true_and]
theorem c_ruclear  : kCA sc (d + 1) 61 [.ref 74] y nx hd L st ((120, cu, su), i, l, kR f t sp) K = kWP sc (d + 1) y nx L (.int (i 74 2) :: st) ((120, cu, su), kupi i 74 2 0, l, kR f t sp) K := by
  refine kCA_of (d := d) (v := some (.int (i 74 2))) (S2 := ((120, cu, su), kupi i 74 2 0, l, kR f t sp)) (fun K => ?_)
  rw [km_61]
  show kWP sc (d) 61 0 [.ref 74, .retAddr 0] [] ((120, cu, su), i, l, kR f t sp) K = K (some (some (.int (i 74 2)))) ((120, cu, su), kupi i 74 2 0, l, kR f t sp)
  simp only [e_X6_clear_0, e_X6_clear_1, e_X6_clear_4, e_X6_clear_5, e_X6_clear_6, e_X6_clear_7, e_X6_clear_10, e_X6_clear_11, ob_74, kcl_i, kcl_r, kcl_l, kcl_0, kcl_n, true_and, and_true]
def pFit (wa br sp pd had : Int32) (a : Nat) (w v : Int32) : Int32 := if w = 0 then kb (¬ (wa >>> (v &&& 31)) &&& 1 = 0) else if w = 1 then kb (¬ br < v) else if w = 2 then kb (¬ v < sp) else if w = 3 then kb ((had >>> (Int32.ofNat a &&& 31)) &&& 1 = v) else kb (pd = v)
theorem c_fitsOne {a x : Nat} (hc : kNc c = true) (ha : a < 8) (hx : x < 12) : kCA sc (d + 2) 64 [.ref 74, .ref 5, .ref c, .int (Int32.ofNat a), .int (Int32.ofNat x)] y nx hd L st ((120, cu, su), i, l, kR f t sp) K = kWP sc (d + 2) y nx L (.int (pFit (i 7 a) (i 6 a) (i (c + 1) a) (i (c + 2) a) (i c 5) a (i 75 x) (i 76 x)) :: st) ((120, cu, su), i, l, kR f t sp) K := by
  refine kCA_of (d := d + 1) (v := some (.int (pFit (i 7 a) (i 6 a) (i (c + 1) a) (i (c + 2) a) (i c 5) a (i 75 x) (i 76 x)))) (S2 := ((120, cu, su), i, l, kR f t sp)) (fun K => ?_)
  rw [km_64]
  show kWP sc (d + 1) 64 0 [.ref 74, .ref 5, .ref c, .int (Int32.ofNat a), .int (Int32.ofNat x), .retAddr 0] [] ((120, cu, su), i, l, kR f t sp) K = K (some (some (.int (pFit (i 7 a) (i 6 a) (i (c + 1) a) (i (c + 2) a) (i c 5) a (i 75 x) (i 76 x))))) ((120, cu, su), i, l, kR f t sp)
  have c2 : kin (Int32.ofNat a) 8 = True := by rw [tn_kin (by omega)]; exact eq_true ha
  have c3 : kin (Int32.ofNat x) 12 = True := by rw [tn_kin (by omega)]; exact eq_true hx
  simp only [e_X6_fitsOne_0, e_X6_fitsOne_1, e_X6_fitsOne_4, e_X6_fitsOne_6, e_X6_fitsOne_7, e_X6_fitsOne_9, e_X6_fitsOne_10, e_X6_fitsOne_13, e_X6_fitsOne_15, e_X6_fitsOne_16, e_X6_fitsOne_48, e_X6_fitsOne_49, e_X6_fitsOne_52, e_X6_fitsOne_53, e_X6_fitsOne_54, e_X6_fitsOne_56, e_X6_fitsOne_57, e_X6_fitsOne_58, e_X6_fitsOne_59, e_X6_fitsOne_62, e_X6_fitsOne_63, e_X6_fitsOne_66, e_X6_fitsOne_67, e_X6_fitsOne_68, e_X6_fitsOne_69, e_X6_fitsOne_72, e_X6_fitsOne_73, e_X6_fitsOne_74, e_X6_fitsOne_76, e_X6_fitsOne_79, e_X6_fitsOne_80, e_X6_fitsOne_83, e_X6_fitsOne_84, e_X6_fitsOne_85, e_X6_fitsOne_86, e_X6_fitsOne_89, e_X6_fitsOne_90, e_X6_fitsOne_91, e_X6_fitsOne_93, e_X6_fitsOne_96, e_X6_fitsOne_97, e_X6_fitsOne_100, e_X6_fitsOne_101, e_X6_fitsOne_102, e_X6_fitsOne_103, e_X6_fitsOne_104, e_X6_fitsOne_107, e_X6_fitsOne_109, e_X6_fitsOne_112, e_X6_fitsOne_113, e_X6_fitsOne_116, e_X6_fitsOne_117, e_X6_fitsOne_118, e_X6_fitsOne_119, e_X6_fitsOne_122, e_X6_fitsOne_123, e_X6_fitsOne_124, e_X6_fitsOne_126, e_X6_fitsOne_129, e_X6_fitsOne_130, e_X6_fitsOne_133, e_X6_fitsOne_134, ob_74, rk_74_1, ar_76, rk_74_0, ar_75, ob_5, rk_5_2, ar_7, rk_5_1, ar_6, ob_n hc, rk_n8 hc, ar_n1 hc, rk_n9 hc, ar_n2 hc, kcl_i, kcl_r, kcl_l, kcl_0, kcl_n, true_and, and_true, c2, c3, tn_cl (show a < 2147483648 by omega), tn_cl (show x < 2147483648 by omega), c_hadHat hc, kbool_0, kbool_1]
  unfold pFit
  by_cases k0 : i 75 x = 0
  · simp only [k0]
    by_cases q1 : (i 7 a >>> (i 76 x &&& 31)) &&& 1 = 0 <;> simp [kb, q1]
  by_cases k1 : i 75 x = 1
  · simp only [k1]
    by_cases q1 : i 6 a < i 76 x <;> simp [kb, q1]
  by_cases k2 : i 75 x = 2
  · simp only [k2]
    by_cases q1 : i 76 x < i (c + 1) a <;> simp [kb, q1]
  by_cases k3 : i 75 x = 3
  · simp only [k3]
    by_cases q1 : (i c 5 >>> (Int32.ofNat a &&& 31)) &&& 1 = i 76 x <;> simp [kb, q1]
  simp only [k0, k1, k2, k3, if_false]
  by_cases q1 : i (c + 2) a = i 76 x <;> simp [kb, q1]
def pFits (F : Nat → Int32) (n : Nat) : Int32 := match kfi (fun x => F x = 0) n 0 with | some _ => 0 | none => 1
theorem c_fitsAll {a n : Nat} (hc : kNc c = true) (ha : a < 8) (hn : i 74 2 = Int32.ofNat n) (h12 : n ≤ 12) : kCA sc (d + 3) 63 [.ref 74, .ref 5, .ref c, .int (Int32.ofNat a)] y nx hd L st ((120, cu, su), i, l, kR f t sp) K = kWP sc (d + 3) y nx L (.int (pFits (fun x => pFit (i 7 a) (i 6 a) (i (c + 1) a) (i (c + 2) a) (i c 5) a (i 75 x) (i 76 x)) n) :: st) ((120, cu, su), i, l, kR f t sp) K := by
  refine kCA_of (d := d + 2) (v := some (.int (pFits (fun x => pFit (i 7 a) (i 6 a) (i (c + 1) a) (i (c + 2) a) (i c 5) a (i 75 x) (i 76 x)) n))) (S2 := ((120, cu, su), i, l, kR f t sp)) (fun K => ?_)
  rw [km_63]
  show kWP sc (d + 2) 63 0 [.ref 74, .ref 5, .ref c, .int (Int32.ofNat a), .retAddr 0] [] ((120, cu, su), i, l, kR f t sp) K = K (some (some (.int (pFits (fun x => pFit (i 7 a) (i 6 a) (i (c + 1) a) (i (c + 2) a) (i c 5) a (i 75 x) (i 76 x)) n)))) ((120, cu, su), i, l, kR f t sp)
  simp only [e_X6_fitsAll_0, e_X6_fitsAll_1, e_X6_fitsAll_5, e_X6_fitsAll_6, e_X6_fitsAll_9, e_X6_fitsAll_12, e_X6_fitsAll_13, e_X6_fitsAll_14, e_X6_fitsAll_15, e_X6_fitsAll_16, e_X6_fitsAll_18, e_X6_fitsAll_21, e_X6_fitsAll_24, e_X6_fitsAll_25, e_X6_fitsAll_26, e_X6_fitsAll_29, e_X6_fitsAll_32, e_X6_fitsAll_33, ob_74, kcl_i, kcl_r, kcl_l, kcl_0, kcl_n, true_and, and_true]
  refine (k_find (P := fun x => kWP sc (d + 2) 63 3 [.ref 74, .ref 5, .ref c, .int (Int32.ofNat a), .int (Int32.ofNat x)] [] ((120, cu, su), i, l, kR f t sp) K) (Q := fun _ => K (some (some (.int 0))) ((120, cu, su), i, l, kR f t sp)) (p := fun x => pFit (i 7 a) (i 6 a) (i (c + 1) a) (i (c + 2) a) (i c 5) a (i 75 x) (i 76 x) = 0) (n := n) ?_).trans ?_
  · intro x hx
    have c1 : (Int32.ofNat n ≤ Int32.ofNat x) = False := by rw [tn_le (by omega) (by omega)]; exact eq_false (by omega)
    refine e_X6_fitsAll_3.trans ?_
    simp only [e_X6_fitsAll_0, e_X6_fitsAll_1, e_X6_fitsAll_5, e_X6_fitsAll_6, e_X6_fitsAll_9, e_X6_fitsAll_12, e_X6_fitsAll_13, e_X6_fitsAll_14, e_X6_fitsAll_15, e_X6_fitsAll_16, e_X6_fitsAll_18, e_X6_fitsAll_21, e_X6_fitsAll_24, e_X6_fitsAll_25, e_X6_fitsAll_26, e_X6_fitsAll_29, e_X6_fitsAll_32, e_X6_fitsAll_33, ob_74, kcl_i, kcl_r, kcl_l, kcl_0, kcl_n, true_and, and_true, hn, c1, if_false, c_fitsOne hc ha (show x < 12 by omega), kbool_0, tn_s]
  · unfold pFits
    cases kfi (fun x => pFit (i 7 a) (i 6 a) (i (c + 1) a) (i (c + 2) a) (i c 5) a (i 75 x) (i 76 x) = 0) n 0 with
    | some y => rfl
    | none =>
      refine e_X6_fitsAll_3.trans ?_
      simp only [e_X6_fitsAll_0, e_X6_fitsAll_1, e_X6_fitsAll_5, e_X6_fitsAll_6, e_X6_fitsAll_9, e_X6_fitsAll_12, e_X6_fitsAll_13, e_X6_fitsAll_14, e_X6_fitsAll_15, e_X6_fitsAll_16, e_X6_fitsAll_18, e_X6_fitsAll_21, e_X6_fitsAll_24, e_X6_fitsAll_25, e_X6_fitsAll_26, e_X6_fitsAll_29, e_X6_fitsAll_32, e_X6_fitsAll_33, ob_74, kcl_i, kcl_r, kcl_l, kcl_0, kcl_n, true_and, and_true, hn, Int32.le_refl, if_true, kbool_1]
def pFitting (F : Nat → Int32) (m : Nat) : Int32 := kfo (fun x b => if F x = 0 then b else b ||| (1 <<< (Int32.ofNat x &&& 31))) m 0
theorem c_fitting {n : Nat} (hc : kNc c = true) (hm : i 5 0 = Int32.ofNat m) (h8 : m ≤ 8) (hn : i 74 2 = Int32.ofNat n) (h12 : n ≤ 12) : kCA sc (d + 4) 62 [.ref 74, .ref 5, .ref c] y nx hd L st ((120, cu, su), i, l, kR f t sp) K = kWP sc (d + 4) y nx L (.int (pFitting (fun a => pFits (fun x => pFit (i 7 a) (i 6 a) (i (c + 1) a) (i (c + 2) a) (i c 5) a (i 75 x) (i 76 x)) n) m) :: st) ((120, cu, su), i, l, kR f t sp) K := by
  refine kCA_of (d := d + 3) (v := some (.int (pFitting (fun a => pFits (fun x => pFit (i 7 a) (i 6 a) (i (c + 1) a) (i (c + 2) a) (i c 5) a (i 75 x) (i 76 x)) n) m))) (S2 := ((120, cu, su), i, l, kR f t sp)) (fun K => ?_)
  rw [km_62]
  show kWP sc (d + 3) 62 0 [.ref 74, .ref 5, .ref c, .retAddr 0, .retAddr 0] [] ((120, cu, su), i, l, kR f t sp) K = K (some (some (.int (pFitting (fun a => pFits (fun x => pFit (i 7 a) (i 6 a) (i (c + 1) a) (i (c + 2) a) (i c 5) a (i 75 x) (i 76 x)) n) m)))) ((120, cu, su), i, l, kR f t sp)
  simp only [e_X6_fitting_0, e_X6_fitting_1, e_X6_fitting_2, e_X6_fitting_3, e_X6_fitting_7, e_X6_fitting_8, e_X6_fitting_11, e_X6_fitting_14, e_X6_fitting_15, e_X6_fitting_16, e_X6_fitting_17, e_X6_fitting_19, e_X6_fitting_22, e_X6_fitting_25, e_X6_fitting_26, e_X6_fitting_27, e_X6_fitting_29, e_X6_fitting_30, e_X6_fitting_31, e_X6_fitting_32, e_X6_fitting_35, e_X6_fitting_38, e_X6_fitting_39, ob_5, ob_74, kcl_i, kcl_r, kcl_l, kcl_0, kcl_n, true_and, and_true]
  refine (k_for (P := fun x b => kWP sc (d + 3) 62 5 [.ref 74, .ref 5, .ref c, .int b, .int (Int32.ofNat x)] [] ((120, cu, su), i, l, kR f t sp) K) (n := m) (g := fun a b => if pFits (fun x => pFit (i 7 a) (i 6 a) (i (c + 1) a) (i (c + 2) a) (i c 5) a (i 75 x) (i 76 x)) n = 0 then b else b ||| (1 <<< (Int32.ofNat a &&& 31))) ?_ 0).trans ?_
  · intro x b hx
    have c1 : (Int32.ofNat m ≤ Int32.ofNat x) = False := by rw [tn_le (by omega) (by omega)]; exact eq_false (by omega)
    refine e_X6_fitting_5.trans ?_
    simp only [e_X6_fitting_0, e_X6_fitting_1, e_X6_fitting_2, e_X6_fitting_3, e_X6_fitting_7, e_X6_fitting_8, e_X6_fitting_11, e_X6_fitting_14, e_X6_fitting_15, e_X6_fitting_16, e_X6_fitting_17, e_X6_fitting_19, e_X6_fitting_22, e_X6_fitting_25, e_X6_fitting_26, e_X6_fitting_27, e_X6_fitting_29, e_X6_fitting_30, e_X6_fitting_31, e_X6_fitting_32, e_X6_fitting_35, e_X6_fitting_38, e_X6_fitting_39, ob_5, ob_74, kcl_i, kcl_r, kcl_l, kcl_0, kcl_n, true_and, and_true, hm, c1, if_false, c_fitsAll hc (show x < 8 by omega) hn h12, tn_s]
    by_cases q : pFits (fun z => pFit (i 7 x) (i 6 x) (i (c + 1) x) (i (c + 2) x) (i c 5) x (i 75 z) (i 76 z)) n = 0
    · simp only [q, if_true]
    · simp only [q, if_false]
  · refine e_X6_fitting_5.trans ?_
    simp only [e_X6_fitting_0, e_X6_fitting_1, e_X6_fitting_2, e_X6_fitting_3, e_X6_fitting_7, e_X6_fitting_8, e_X6_fitting_11, e_X6_fitting_14, e_X6_fitting_15, e_X6_fitting_16, e_X6_fitting_17, e_X6_fitting_19, e_X6_fitting_22, e_X6_fitting_25, e_X6_fitting_26, e_X6_fitting_27, e_X6_fitting_29, e_X6_fitting_30, e_X6_fitting_31, e_X6_fitting_32, e_X6_fitting_35, e_X6_fitting_38, e_X6_fitting_39, ob_5, ob_74, kcl_i, kcl_r, kcl_l, kcl_0, kcl_n, true_and, and_true, hm, Int32.le_refl, if_true]
    rfl
end TC
