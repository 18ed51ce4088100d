/-! a Night goes on -/
section TC
variable {sc : Nat × (Nat → Int32)} {d y nx : Nat} {hd : List (Int × Nat)} {L st : List Value} {S : kS} {cu su : Nat} {i : Nat → Nat → Int32} {l : Nat → Nat → Int64} {f t c b m : Nat} {sp : Nat → Nat} {K : Option (Option Value) → kS → Prop}
variable {N : Nat → Int32}
def pMin (le : Nat → Int32) (v : Int32) : Int32 := kfo (fun x s => s + pBit v x * le x) 8 0
theorem c_minutes {v : Int32} : kCA sc (d + 1) 35 [.ref 5, .int v] y nx hd L st ((120, cu, su), i, l, kR f t sp) K = kWP sc (d + 1) y nx L (.int (pMin (i 9) v) :: st) ((120, cu, su), i, l, kR f t sp) K := by
  refine kCA_of (d := d) (v := some (.int (pMin (i 9) v))) (S2 := ((120, cu, su), i, l, kR f t sp)) (fun K => ?_)
  rw [km_35]
  show kWP sc (d) 35 0 [.ref 5, .int v, .retAddr 0, .retAddr 0] [] ((120, cu, su), i, l, kR f t sp) K = K (some (some (.int (pMin (i 9) v)))) ((120, cu, su), i, l, kR f t sp)
  simp only [e_X3_minutes_0, e_X3_minutes_1, e_X3_minutes_2, e_X3_minutes_3, e_X3_minutes_5, e_X3_minutes_7, e_X3_minutes_10, e_X3_minutes_11, e_X3_minutes_12, e_X3_minutes_13, e_X3_minutes_14, e_X3_minutes_15, e_X3_minutes_16, e_X3_minutes_17, e_X3_minutes_20, e_X3_minutes_21, e_X3_minutes_22, e_X3_minutes_23, e_X3_minutes_24, e_X3_minutes_25, e_X3_minutes_28, e_X3_minutes_31, e_X3_minutes_32, ob_5, rk_5_4, ar_9, kcl_i, kcl_r, kcl_l, kcl_0, kcl_n, true_and, and_true]
  refine (k_for (P := fun x s => kWP sc d 35 4 [.ref 5, .int v, .int s, .int (Int32.ofNat x)] [] ((120, cu, su), i, l, kR f t sp) K) (n := 8) (g := fun x s => s + pBit v x * i 9 x) ?_ 0).trans ?_
  · intro x s hx
    have c1 : ((8 : Int32) ≤ Int32.ofNat x) = False := by rw [show (8 : Int32) = Int32.ofNat 8 from rfl, tn_le (by omega) (by omega)]; exact eq_false (by omega)
    have c2 : kin (Int32.ofNat x) 8 = True := by rw [tn_kin (by omega)]; exact eq_true hx
    refine e_X3_minutes_4.trans ?_
    simp only [e_X3_minutes_0, e_X3_minutes_1, e_X3_minutes_2, e_X3_minutes_3, e_X3_minutes_5, e_X3_minutes_7, e_X3_minutes_10, e_X3_minutes_11, e_X3_minutes_12, e_X3_minutes_13, e_X3_minutes_14, e_X3_minutes_15, e_X3_minutes_16, e_X3_minutes_17, e_X3_minutes_20, e_X3_minutes_21, e_X3_minutes_22, e_X3_minutes_23, e_X3_minutes_24, e_X3_minutes_25, e_X3_minutes_28, e_X3_minutes_31, e_X3_minutes_32, ob_5, rk_5_4, ar_9, kcl_i, kcl_r, kcl_l, kcl_0, kcl_n, true_and, and_true, c1, c2, if_false, tn_s, tn_cl (show x < 2147483648 by omega)]
    rfl
  · refine e_X3_minutes_4.trans ?_
    simp only [e_X3_minutes_0, e_X3_minutes_1, e_X3_minutes_2, e_X3_minutes_3, e_X3_minutes_5, e_X3_minutes_7, e_X3_minutes_10, e_X3_minutes_11, e_X3_minutes_12, e_X3_minutes_13, e_X3_minutes_14, e_X3_minutes_15, e_X3_minutes_16, e_X3_minutes_17, e_X3_minutes_20, e_X3_minutes_21, e_X3_minutes_22, e_X3_minutes_23, e_X3_minutes_24, e_X3_minutes_25, e_X3_minutes_28, e_X3_minutes_31, e_X3_minutes_32, ob_5, rk_5_4, ar_9, kcl_i, kcl_r, kcl_l, kcl_0, kcl_n, true_and, and_true, show ((8 : Int32) ≤ Int32.ofNat 8) = True from eq_true (by decide), if_true]
    rfl
def pMinOf (le : Nat → Int32) (k q : Int32) : Int32 := if k = 0 then pMin le (1 <<< (q &&& 31)) else if k = 3 then (pMin le (3 <<< (q &&& 31)) + 1) / 2 else if k = 4 then (pMin le (1 <<< (q &&& 31)) + 1) / 2 else 1
theorem two_ne : (¬ (2 : Int32) = 0) = True := eq_true (by decide)
theorem c_minutesOf {k q : Int32} : kCA sc (d + 2) 15 [.ref 5, .int k, .int q] y nx hd L st ((120, cu, su), i, l, kR f t sp) K = kWP sc (d + 2) y nx L (.int (pMinOf (i 9) k q) :: st) ((120, cu, su), i, l, kR f t sp) K := by
  refine kCA_of (d := d + 1) (v := some (.int (pMinOf (i 9) k q))) (S2 := ((120, cu, su), i, l, kR f t sp)) (fun K => ?_)
  rw [km_15]
  show kWP sc (d + 1) 15 0 [.ref 5, .int k, .int q] [] ((120, cu, su), i, l, kR f t sp) K = K (some (some (.int (pMinOf (i 9) k q)))) ((120, cu, su), i, l, kR f t sp)
  simp only [e_X1_minutesOf_0, e_X1_minutesOf_1, e_X1_minutesOf_36, e_X1_minutesOf_37, e_X1_minutesOf_38, e_X1_minutesOf_39, e_X1_minutesOf_40, e_X1_minutesOf_43, e_X1_minutesOf_44, e_X1_minutesOf_45, e_X1_minutesOf_46, e_X1_minutesOf_47, e_X1_minutesOf_48, e_X1_minutesOf_51, e_X1_minutesOf_52, e_X1_minutesOf_53, e_X1_minutesOf_54, e_X1_minutesOf_55, e_X1_minutesOf_56, e_X1_minutesOf_57, e_X1_minutesOf_58, e_X1_minutesOf_59, e_X1_minutesOf_60, e_X1_minutesOf_63, e_X1_minutesOf_64, e_X1_minutesOf_65, e_X1_minutesOf_66, e_X1_minutesOf_67, e_X1_minutesOf_68, e_X1_minutesOf_69, ob_5, kcl_i, kcl_r, kcl_l, kcl_0, kcl_n, true_and, and_true, c_minutes, two_ne]
  unfold pMinOf
  by_cases k0 : k = 0
  · simp [k0]
  by_cases k1 : k = 1
  · simp [k1]
  by_cases k2 : k = 2
  · simp [k2]
  by_cases k3 : k = 3
  · simp [k3]
  by_cases k4 : k = 4
  · simp [k4]
  simp [k0, k1, k2, k3, k4]
theorem c_wearerAfter {p k q : Int32} (hc : kNc c = true) : kCA sc (d + 1) 16 [.ref c, .int p, .int k, .int q] y nx hd L st ((120, cu, su), i, l, kR f t sp) K = kWP sc (d + 1) y nx L (.int (if k = 2 then q else if k = 4 then i c 6 else p) :: st) ((120, cu, su), i, l, kR f t sp) K := by
  refine kCA_of (d := d) (v := some (.int (if k = 2 then q else if k = 4 then i c 6 else p))) (S2 := ((120, cu, su), i, l, kR f t sp)) (fun K => ?_)
  rw [km_16]
  show kWP sc (d) 16 0 [.ref c, .int p, .int k, .int q] [] ((120, cu, su), i, l, kR f t sp) K = K (some (some (.int (if k = 2 then q else if k = 4 then i c 6 else p)))) ((120, cu, su), i, l, kR f t sp)
  simp only [e_X1_wearerAfter_0, e_X1_wearerAfter_1, e_X1_wearerAfter_2, e_X1_wearerAfter_5, e_X1_wearerAfter_6, e_X1_wearerAfter_7, e_X1_wearerAfter_8, e_X1_wearerAfter_9, e_X1_wearerAfter_12, e_X1_wearerAfter_13, e_X1_wearerAfter_16, e_X1_wearerAfter_19, e_X1_wearerAfter_20, ob_n hc, kcl_i, kcl_r, kcl_l, kcl_0, kcl_n, true_and, and_true]
  by_cases q1 : k = 2 <;> by_cases q2 : k = 4 <;> simp [q1, q2]
def qMark (N : Nat → Int32) (k q : Int32) : Nat → Int32 := if k = 0 then kuf N 17 (N 17 ||| (1 <<< (q &&& 31))) else if k = 3 then kuf N 17 (N 17 ||| (3 <<< (q &&& 31))) else if k = 4 then kuf (kuf N 17 (N 17 ||| (1 <<< (q &&& 31)))) 17 ((N 17 ||| (1 <<< (q &&& 31))) &&& ((1 <<< (N 24 &&& 31)) ^^^ (-1))) else N
theorem kuf_17_24 {v : Int32} : kuf N 17 v 24 = N 24 := kuf_n (by decide)
theorem c_markSaid {k q : Int32} (hc : kNc c = true) : kCA sc (d + 1) 17 [.ref c, .int k, .int q] y nx hd L st ((120, cu, su), nPut i c N, l, kR f t sp) K = kWP sc (d + 1) y nx L st ((120, cu, su), nPut i c (qMark N k q), l, kR f t sp) K := by
  refine kCA_of (d := d) (v := none) (S2 := ((120, cu, su), nPut i c (qMark N k q), l, kR f t sp)) (fun K => ?_)
  rw [km_17]
  show kWP sc (d) 17 0 [.ref c, .int k, .int q] [] ((120, cu, su), nPut i c N, l, kR f t sp) K = K (some (none)) ((120, cu, su), nPut i c (qMark N k q), l, kR f t sp)
  simp only [e_X1_markSaid_0, e_X1_markSaid_1, e_X1_markSaid_4, e_X1_markSaid_5, e_X1_markSaid_6, e_X1_markSaid_9, e_X1_markSaid_10, e_X1_markSaid_11, e_X1_markSaid_12, e_X1_markSaid_13, e_X1_markSaid_16, e_X1_markSaid_19, e_X1_markSaid_20, e_X1_markSaid_21, e_X1_markSaid_24, e_X1_markSaid_25, e_X1_markSaid_26, e_X1_markSaid_29, e_X1_markSaid_30, e_X1_markSaid_31, e_X1_markSaid_32, e_X1_markSaid_33, e_X1_markSaid_36, e_X1_markSaid_39, e_X1_markSaid_40, e_X1_markSaid_41, e_X1_markSaid_44, e_X1_markSaid_45, e_X1_markSaid_46, e_X1_markSaid_49, e_X1_markSaid_50, e_X1_markSaid_51, e_X1_markSaid_52, e_X1_markSaid_53, e_X1_markSaid_56, e_X1_markSaid_57, e_X1_markSaid_58, e_X1_markSaid_61, e_X1_markSaid_62, e_X1_markSaid_63, e_X1_markSaid_66, e_X1_markSaid_67, e_X1_markSaid_68, e_X1_markSaid_69, e_X1_markSaid_70, e_X1_markSaid_73, ob_n hc, kcl_i, kcl_r, kcl_l, kcl_0, kcl_n, true_and, and_true, nP_0, nP_7, nW_0, kuf_s, kuf_17_24]
  unfold qMark
  by_cases q1 : k = 0 <;> by_cases q2 : k = 3 <;> by_cases q3 : k = 4 <;> simp [q1, q2, q3]
def qPaid (N : Nat → Int32) : Nat → Int32 := if N 18 < 0 then N else if 8 ≤ N 18 then N else kuf N (8 + (N 18).toNatClampNeg) (if 999 < N (8 + (N 18).toNatClampNeg) + 1 then 999 else N (8 + (N 18).toNatClampNeg) + 1)
def qStrike (N : Nat → Int32) : Nat → Int32 := kuf (kuf (kuf (kuf (kuf (kuf (qPaid N) 18 (-1)) 17 0) 19 0) 21 (qPaid N 21 + 1)) 22 (-1)) 24 (-1)
theorem kuf_e18 {v w z : Int32} : kuf (kuf (kuf N 18 v) 17 w) 19 z 21 = N 21 := by rw [kuf_n (by decide), kuf_n (by decide), kuf_n (by decide)]
theorem c_strike (hc : kNc c = true) : kCA sc (d + 1) 19 [.ref c] y nx hd L st ((120, cu, su), nPut i c N, l, kR f t sp) K = kWP sc (d + 1) y nx L st ((120, cu, su), nPut i c (qStrike N), l, kR f t sp) K := by
  refine kCA_of (d := d) (v := none) (S2 := ((120, cu, su), nPut i c (qStrike N), l, kR f t sp)) (fun K => ?_)
  rw [km_19]
  show kWP sc (d) 19 0 [.ref c] [] ((120, cu, su), nPut i c N, l, kR f t sp) K = K (some (none)) ((120, cu, su), nPut i c (qStrike N), l, kR f t sp)
  simp only [e_X1_strike_0, e_X1_strike_1, e_X1_strike_4, e_X1_strike_7, e_X1_strike_8, e_X1_strike_11, e_X1_strike_13, e_X1_strike_16, e_X1_strike_17, e_X1_strike_20, e_X1_strike_21, e_X1_strike_24, e_X1_strike_25, e_X1_strike_28, e_X1_strike_29, e_X1_strike_32, e_X1_strike_33, e_X1_strike_34, e_X1_strike_35, e_X1_strike_38, e_X1_strike_41, e_X1_strike_42, e_X1_strike_43, e_X1_strike_44, e_X1_strike_47, e_X1_strike_48, e_X1_strike_49, e_X1_strike_52, e_X1_strike_53, e_X1_strike_54, e_X1_strike_57, e_X1_strike_58, e_X1_strike_59, e_X1_strike_62, e_X1_strike_63, e_X1_strike_64, e_X1_strike_67, e_X1_strike_68, e_X1_strike_69, e_X1_strike_72, e_X1_strike_73, e_X1_strike_74, e_X1_strike_77, ob_n hc, rk_n9 hc, ar_n2 hc, kcl_i, kcl_r, kcl_l, kcl_0, kcl_n, true_and, and_true, nP_1, nP_4, nW_0, nW_1, nW_2, nW_4, nW_6, nW_7, kuf_e18]
  unfold qStrike qPaid
  by_cases q1 : N 18 < 0
  · simp only [q1, if_true]
  · by_cases q2 : (8 : Int32) ≤ N 18
    · simp only [q1, q2, if_true, if_false]
    · obtain ⟨a, ha, hp⟩ := tn_ex (m := 8) (by decide) (Int32.not_lt.1 q1) (Int32.not_le.1 q2)
      have q3 : kin (N 18) 8 = True := by rw [hp, tn_kin (by omega)]; exact eq_true ha
      have q4 : (N 18).toNatClampNeg = a := by rw [hp]; exact tn_cl (by omega)
      simp only [q1, q2, q3, q4, if_false, true_and, nP_p ha, nW_p ha, nP_1, nP_4, nW_0, nW_1, nW_2, nW_4, nW_6, nW_7, kuf_e18]
def qPass (N : Nat → Int32) (x : Int32) : Nat → Int32 := if N 19 + x < N 20 then kuf N 19 (N 19 + x) else qStrike (kuf N 19 (N 19 + x))
theorem kuf_19_20 {v : Int32} : kuf N 19 v 20 = N 20 := kuf_n (by decide)
theorem c_pass {x : Int32} (hc : kNc c = true) : kCA sc (d + 2) 18 [.ref c, .int x] y nx hd L st ((120, cu, su), nPut i c N, l, kR f t sp) K = kWP sc (d + 2) y nx L st ((120, cu, su), nPut i c (qPass N x), l, kR f t sp) K := by
  refine kCA_of (d := d + 1) (v := none) (S2 := ((120, cu, su), nPut i c (qPass N x), l, kR f t sp)) (fun K => ?_)
  rw [km_18]
  show kWP sc (d + 1) 18 0 [.ref c, .int x] [] ((120, cu, su), nPut i c N, l, kR f t sp) K = K (some (none)) ((120, cu, su), nPut i c (qPass N x), l, kR f t sp)
  simp only [e_X1_pass_0, e_X1_pass_1, e_X1_pass_2, e_X1_pass_5, e_X1_pass_6, e_X1_pass_7, e_X1_pass_10, e_X1_pass_11, e_X1_pass_14, e_X1_pass_15, e_X1_pass_18, e_X1_pass_21, e_X1_pass_22, e_X1_pass_25, ob_n hc, kcl_i, kcl_r, kcl_l, kcl_0, kcl_n, true_and, and_true, nP_2, nP_3, nW_2, kuf_s, kuf_19_20, c_strike hc]
  unfold qPass
  by_cases q1 : N 19 + x < N 20
  · simp only [q1, if_true]
  · simp only [q1, if_false]
def qMore (x : Int32) : Int32 := if 999 < x + 1 then 999 else x + 1
def qHat (N : Nat → Int32) (a : Nat) (k q : Int32) : Int32 := if k = 2 then q else if k = 4 then N 22 else Int32.ofNat a
def qG3 (N : Nat → Int32) (a : Nat) (k q : Int32) : Nat → Int32 := kuf (kuf (kuf N a (qMore (N a))) 18 (qHat N a k q)) 16 (N 16 ||| (1 <<< (qHat N a k q &&& 31)))
def qGo (le : Nat → Int32) (N : Nat → Int32) (a : Nat) (k q : Int32) : Nat → Int32 := qPass (kuf (kuf (qMark (qG3 N a k q) k q) 22 (if k = 0 then Int32.ofNat a else -1)) 24 (if k = 0 then q else -1)) (pMinOf le k q)
theorem c_goOn {a : Nat} {k q : Int32} (hc : kNc c = true) (ha : a < 8) : kCA sc (d + 3) 9 [.ref c, .ref 5, .int (Int32.ofNat a), .int k, .int q] y nx hd L st ((120, cu, su), nPut i c N, l, kR f t sp) K = kWP sc (d + 3) y nx L st ((120, cu, su), nPut i c (qGo (i 9) N a k q), l, kR f t sp) K := by
  refine kCA_of (d := d + 2) (v := none) (S2 := ((120, cu, su), nPut i c (qGo (i 9) N a k q), l, kR f t sp)) (fun K => ?_)
  rw [km_9]
  show kWP sc (d + 2) 9 0 [.ref c, .ref 5, .int (Int32.ofNat a), .int k, .int q, .retAddr 0] [] ((120, cu, su), nPut i c N, l, kR f t sp) K = K (some (none)) ((120, cu, su), nPut i c (qGo (i 9) N a k q), l, kR f t sp)
  have q3 : kin (Int32.ofNat a) 8 = True := by rw [tn_kin (by omega)]; exact eq_true ha
  have q4 : (Int32.ofNat a).toNatClampNeg = a := tn_cl (by omega)
  have e1 : ∀ v : Int32, kuf N a v 22 = N 22 := fun v => kuf_n (by omega)
  have e2 : ∀ v w : Int32, kuf (kuf N a v) 18 w 16 = N 16 := fun v w => by rw [kuf_n (by decide), kuf_n (by omega)]
  have e3 : ∀ v w : Int32, kuf (kuf N a v) 18 w 18 = w := fun v w => kuf_s
  simp only [e_X1_goOn_0, e_X1_goOn_1, e_X1_goOn_2, e_X1_goOn_4, e_X1_goOn_7, e_X1_goOn_9, e_X1_goOn_10, e_X1_goOn_13, e_X1_goOn_14, e_X1_goOn_15, e_X1_goOn_18, e_X1_goOn_19, e_X1_goOn_20, e_X1_goOn_21, e_X1_goOn_22, e_X1_goOn_25, e_X1_goOn_28, e_X1_goOn_29, e_X1_goOn_30, e_X1_goOn_31, e_X1_goOn_32, e_X1_goOn_33, e_X1_goOn_35, e_X1_goOn_38, e_X1_goOn_41, e_X1_goOn_42, e_X1_goOn_43, e_X1_goOn_46, e_X1_goOn_47, e_X1_goOn_48, e_X1_goOn_51, e_X1_goOn_52, e_X1_goOn_53, e_X1_goOn_56, e_X1_goOn_57, e_X1_goOn_58, e_X1_goOn_60, e_X1_goOn_63, e_X1_goOn_64, e_X1_goOn_65, e_X1_goOn_68, e_X1_goOn_69, e_X1_goOn_72, e_X1_goOn_73, e_X1_goOn_76, e_X1_goOn_77, e_X1_goOn_78, e_X1_goOn_81, e_X1_goOn_83, e_X1_goOn_86, e_X1_goOn_87, e_X1_goOn_90, e_X1_goOn_91, e_X1_goOn_93, e_X1_goOn_96, ob_n hc, rk_n8 hc, ar_n1 hc, kcl_i, kcl_r, kcl_l, kcl_0, kcl_n, true_and, and_true, c_minutesOf, nP_lo hc (show 9 < 10 by decide), q3, q4, nP_s ha, nW_s ha, c_wearerAfter hc, nP_6, e1, nP_5, nP_1, nW_1, nW_5, e2, e3, c_markSaid hc, nW_6, nW_7, c_pass hc]
  unfold qGo qG3 qHat qMore
  by_cases k0 : k = 0
  · subst k0; rfl
  · simp only [k0, if_false]
def qTake (le co : Nat → Int32) (M : Int32) (N : Nat → Int32) (p : Int32) : Nat → Int32 := match kfi (fun x => ¬ pBit (pSay co (N 17) (N 18) M p) x = 0) 8 0 with | some y => qGo le N p.toNatClampNeg 0 (Int32.ofNat y) | none => qPass N 1
theorem c_takeTurn {p : Int32} (hc : kNc c = true) (hm : i 5 0 = Int32.ofNat m) (h8 : m ≤ 8) : kCA sc (d + 4) 11 [.ref c, .ref 5, .int p] y nx hd L st ((120, cu, su), nPut i c N, l, kR f t sp) K = kWP sc (d + 4) y nx L st ((120, cu, su), nPut i c (qTake (i 9) (i 8) (i 5 0) N p), l, kR f t sp) K := by
  refine kCA_of (d := d + 3) (v := none) (S2 := ((120, cu, su), nPut i c (qTake (i 9) (i 8) (i 5 0) N p), l, kR f t sp)) (fun K => ?_)
  rw [km_11]
  show kWP sc (d + 3) 11 0 [.ref c, .ref 5, .int p, .retAddr 0] [] ((120, cu, su), nPut i c N, l, kR f t sp) K = K (some (none)) ((120, cu, su), nPut i c (qTake (i 9) (i 8) (i 5 0) N p), l, kR f t sp)
  have hm2 : nPut i c N 5 0 = Int32.ofNat m := by rw [nP_lo hc (by decide)]; exact hm
  simp only [e_X1_takeTurn_0, e_X1_takeTurn_1, e_X1_takeTurn_2, e_X1_takeTurn_3, e_X1_takeTurn_6, e_X1_takeTurn_9, e_X1_takeTurn_10, e_X1_takeTurn_11, e_X1_takeTurn_12, e_X1_takeTurn_15, e_X1_takeTurn_16, e_X1_takeTurn_17, e_X1_takeTurn_20, e_X1_takeTurn_23, e_X1_takeTurn_24, e_X1_takeTurn_25, e_X1_takeTurn_26, e_X1_takeTurn_27, e_X1_takeTurn_28, e_X1_takeTurn_31, ob_n hc, kcl_i, kcl_r, kcl_l, kcl_0, kcl_n, true_and, and_true, c_sayable (i := nPut i c N) hc hm2 h8, nP_0, nP_1, nP_lo hc (show 8 < 10 by decide), nP_lo hc (show 5 < 10 by decide), c_firstOf, c_pass hc]
  unfold qTake pFirst
  cases hk : kfi (fun x => ¬ pBit (pSay (i 8) (N 17) (N 18) (i 5 0) p) x = 0) 8 0 with
  | none => simp
  | some y0 =>
    have hy := kfi_some hk
    have n1 : (Int32.ofNat y0 = -1) = False := by
      have : ∀ y, y < 8 → ¬ Int32.ofNat y = -1 := by decide
      exact eq_false (this y0 (by omega))
    have hz : ¬ (p = N 18 ∨ p < 0 ∨ ¬ p < i 5 0) := by
      intro h
      have : pSay (i 8) (N 17) (N 18) (i 5 0) p = 0 := by unfold pSay; rw [if_pos h]
      rw [this] at hy
      have : ∀ y, y < 8 → pBit 0 y = 0 := by decide
      exact hy.2.2 (this y0 (by omega))
    have h0 : ¬ p < 0 := fun q => hz (Or.inr (Or.inl q))
    have h1 : p < i 5 0 := Classical.byContradiction fun q => hz (Or.inr (Or.inr q))
    rw [hm] at h1
    obtain ⟨a, ha, rfl⟩ := tn_ex (by omega) (Int32.not_lt.1 h0) h1
    simp only [n1, if_false, c_goOn hc (show a < 8 by omega), tn_cl (show a < 2147483648 by omega), e_X1_takeTurn_0, e_X1_takeTurn_1, e_X1_takeTurn_2, e_X1_takeTurn_3, e_X1_takeTurn_6, e_X1_takeTurn_9, e_X1_takeTurn_10, e_X1_takeTurn_11, e_X1_takeTurn_12, e_X1_takeTurn_15, e_X1_takeTurn_16, e_X1_takeTurn_17, e_X1_takeTurn_20, e_X1_takeTurn_23, e_X1_takeTurn_24, e_X1_takeTurn_25, e_X1_takeTurn_26, e_X1_takeTurn_27, e_X1_takeTurn_28, e_X1_takeTurn_31, ob_n hc, kcl_i, kcl_r, kcl_l, kcl_0, kcl_n, true_and, and_true]
def pRefuse (co : Nat → Int32) (said hat pm M p k q : Int32) : Int32 := if ¬ pHas M p ∨ k < 0 ∨ 4 < k then -1 else if p = hat then -2 else if pCanTalk co said hat pm M p k q = 0 then -3 else 0
theorem c_refusal {p k q : Int32} (hc : kNc c = true) (hm : i 5 0 = Int32.ofNat m) (h8 : m ≤ 8) : kCA sc (d + 4) 8 [.ref c, .ref 5, .int p, .int k, .int q] y nx hd L st ((120, cu, su), i, l, kR f t sp) K = kWP sc (d + 4) y nx L (.int (pRefuse (i 8) (i c 0) (i c 1) (i c 6) (i 5 0) p k q) :: st) ((120, cu, su), i, l, kR f t sp) K := by
  refine kCA_of (d := d + 3) (v := some (.int (pRefuse (i 8) (i c 0) (i c 1) (i c 6) (i 5 0) p k q))) (S2 := ((120, cu, su), i, l, kR f t sp)) (fun K => ?_)
  rw [km_8]
  show kWP sc (d + 3) 8 0 [.ref c, .ref 5, .int p, .int k, .int q] [] ((120, cu, su), i, l, kR f t sp) K = K (some (some (.int (pRefuse (i 8) (i c 0) (i c 1) (i c 6) (i 5 0) p k q)))) ((120, cu, su), i, l, kR f t sp)
  simp only [e_X1_refusal_0, e_X1_refusal_1, e_X1_refusal_2, e_X1_refusal_5, e_X1_refusal_8, e_X1_refusal_9, e_X1_refusal_12, e_X1_refusal_13, e_X1_refusal_14, e_X1_refusal_17, e_X1_refusal_18, e_X1_refusal_19, e_X1_refusal_20, e_X1_refusal_21, e_X1_refusal_24, e_X1_refusal_27, e_X1_refusal_29, e_X1_refusal_30, e_X1_refusal_31, e_X1_refusal_32, e_X1_refusal_33, e_X1_refusal_34, e_X1_refusal_36, e_X1_refusal_39, e_X1_refusal_42, e_X1_refusal_43, e_X1_refusal_46, e_X1_refusal_48, ob_5, ob_n hc, kcl_i, kcl_r, kcl_l, kcl_0, kcl_n, true_and, and_true, c_has, c_canTalk hc hm h8, kb_0]
  unfold pRefuse
  by_cases q1 : pHas (i 5 0) p
  · by_cases q2 : k < 0
    · simp [q1, q2]
    · by_cases q3 : k ≤ 4
      · have q4 : ¬ 4 < k := Int32.not_lt.2 q3
        by_cases q5 : p = i c 1
        · simp only [eq_true q1, eq_false q2, eq_true q3, eq_false q4, eq_true q5, not_true_eq_false, if_true, if_false, or_self, Bool.true_eq]
        · by_cases q6 : pCanTalk (i 8) (i c 0) (i c 1) (i c 6) (i 5 0) p k q = 0
          · simp only [eq_true q1, eq_false q2, eq_true q3, eq_false q4, eq_false q5, eq_true q6, not_true_eq_false, if_true, if_false, or_self]
          · simp only [eq_true q1, eq_false q2, eq_true q3, eq_false q4, eq_false q5, eq_false q6, not_true_eq_false, if_true, if_false, or_self]
      · have q4 : 4 < k := Int32.not_le.1 q3
        simp [q1, q2, q3, q4]
  · simp [q1]
theorem c_copy (hc : kNc c = true) (hb : kNc b = true) (hn : b ≠ c) : kCA sc (d + 1) 4 [.ref c, .ref b] y nx hd L st ((120, cu, su), i, l, kR f t sp) K = kWP sc (d + 1) y nx L st ((120, cu, su), nPut i c (nGet i b), l, kR f t sp) K := by
  refine kCA_of (d := d) (v := none) (S2 := ((120, cu, su), nPut i c (nGet i b), l, kR f t sp)) (fun K => ?_)
  rw [km_4]
  show kWP sc (d) 4 0 [.ref c, .ref b] [] ((120, cu, su), i, l, kR f t sp) K = K (some (none)) ((120, cu, su), nPut i c (nGet i b), l, kR f t sp)
  have hb1 := kl_n1 hb; have hb2 := kl_n2 hb; have hc1 := kl_n1 hc; have hc2 := kl_n2 hc
  have g : b + 1 ≠ c ∧ b + 2 ≠ c ∧ c + 1 ≠ b ∧ c + 2 ≠ b ∧ b + 1 ≠ c + 2 ∧ b + 2 ≠ c + 1 := by
    have := kNc_all (P := fun c => kNc (c - 1) = false ∧ kNc (c - 2) = false ∧ kNc (c + 1) = false ∧ kNc (c + 2) = false) (by decide) hb
    have w := kNc_all (P := fun c => kNc (c - 1) = false ∧ kNc (c - 2) = false ∧ kNc (c + 1) = false ∧ kNc (c + 2) = false) (by decide) hc
    refine ⟨?_, ?_, ?_, ?_, ?_, ?_⟩ <;> intro e
    · rw [e, hc] at this; exact absurd this.2.2.1 (by decide)
    · rw [e, hc] at this; exact absurd this.2.2.2 (by decide)
    · rw [e, hb] at w; exact absurd w.2.2.1 (by decide)
    · rw [e, hb] at w; exact absurd w.2.2.2 (by decide)
    · have e2 : b = c + 1 := by omega
      rw [← e2, hb] at w; exact absurd w.2.2.1 (by decide)
    · have e2 : c = b + 1 := by omega
      rw [← e2, hc] at this; exact absurd this.2.2.1 (by decide)
  obtain ⟨g1, g2, g3, g4, g5, g6⟩ := g
  simp only [e_X1_copy_0, e_X1_copy_1, e_X1_copy_2, e_X1_copy_5, e_X1_copy_8, e_X1_copy_9, e_X1_copy_10, e_X1_copy_13, e_X1_copy_16, e_X1_copy_17, e_X1_copy_18, e_X1_copy_21, e_X1_copy_24, e_X1_copy_25, e_X1_copy_26, e_X1_copy_29, e_X1_copy_32, e_X1_copy_33, e_X1_copy_34, e_X1_copy_37, e_X1_copy_40, e_X1_copy_41, e_X1_copy_42, e_X1_copy_45, e_X1_copy_48, e_X1_copy_49, e_X1_copy_50, e_X1_copy_53, e_X1_copy_56, e_X1_copy_57, e_X1_copy_58, e_X1_copy_61, e_X1_copy_64, e_X1_copy_65, e_X1_copy_68, e_X1_copy_69, e_X1_copy_70, e_X1_copy_73, e_X1_copy_74, e_X1_copy_79, e_X1_copy_80, e_X1_copy_83, e_X1_copy_84, e_X1_copy_85, e_X1_copy_88, e_X1_copy_89, e_X1_copy_94, ob_n hc, rk_n8 hc, ar_n1 hc, rk_n9 hc, ar_n2 hc, kcl_i, kcl_r, kcl_l, kcl_0, kcl_n, true_and, and_true, ob_n hb, rk_n8 hb, rk_n9 hb, kupi_c hn]
  rw [e_X1_copy_76 ⟨hb1.1, hc1.1, by omega, by decide, by decide, by decide, by rw [hb1.2]; decide, by rw [hc1.2]; decide, by rw [hb1.2, hc1.2]; decide, by decide⟩]
  simp only [e_X1_copy_0, e_X1_copy_1, e_X1_copy_2, e_X1_copy_5, e_X1_copy_8, e_X1_copy_9, e_X1_copy_10, e_X1_copy_13, e_X1_copy_16, e_X1_copy_17, e_X1_copy_18, e_X1_copy_21, e_X1_copy_24, e_X1_copy_25, e_X1_copy_26, e_X1_copy_29, e_X1_copy_32, e_X1_copy_33, e_X1_copy_34, e_X1_copy_37, e_X1_copy_40, e_X1_copy_41, e_X1_copy_42, e_X1_copy_45, e_X1_copy_48, e_X1_copy_49, e_X1_copy_50, e_X1_copy_53, e_X1_copy_56, e_X1_copy_57, e_X1_copy_58, e_X1_copy_61, e_X1_copy_64, e_X1_copy_65, e_X1_copy_68, e_X1_copy_69, e_X1_copy_70, e_X1_copy_73, e_X1_copy_74, e_X1_copy_79, e_X1_copy_80, e_X1_copy_83, e_X1_copy_84, e_X1_copy_85, e_X1_copy_88, e_X1_copy_89, e_X1_copy_94, ob_n hc, rk_n8 hc, ar_n1 hc, rk_n9 hc, ar_n2 hc, kcl_i, kcl_r, kcl_l, kcl_0, kcl_n, true_and, and_true, ob_n hb, rk_n8 hb, rk_n9 hb]
  rw [e_X1_copy_91 ⟨hb2.1, hc2.1, by omega, by decide, by decide, by decide, by rw [hb2.2]; decide, by rw [hc2.2]; decide, by rw [hb2.2, hc2.2]; decide, by decide⟩]
  simp only [e_X1_copy_0, e_X1_copy_1, e_X1_copy_2, e_X1_copy_5, e_X1_copy_8, e_X1_copy_9, e_X1_copy_10, e_X1_copy_13, e_X1_copy_16, e_X1_copy_17, e_X1_copy_18, e_X1_copy_21, e_X1_copy_24, e_X1_copy_25, e_X1_copy_26, e_X1_copy_29, e_X1_copy_32, e_X1_copy_33, e_X1_copy_34, e_X1_copy_37, e_X1_copy_40, e_X1_copy_41, e_X1_copy_42, e_X1_copy_45, e_X1_copy_48, e_X1_copy_49, e_X1_copy_50, e_X1_copy_53, e_X1_copy_56, e_X1_copy_57, e_X1_copy_58, e_X1_copy_61, e_X1_copy_64, e_X1_copy_65, e_X1_copy_68, e_X1_copy_69, e_X1_copy_70, e_X1_copy_73, e_X1_copy_74, e_X1_copy_79, e_X1_copy_80, e_X1_copy_83, e_X1_copy_84, e_X1_copy_85, e_X1_copy_88, e_X1_copy_89, e_X1_copy_94, ob_n hc, rk_n8 hc, ar_n1 hc, rk_n9 hc, ar_n2 hc, kcl_i, kcl_r, kcl_l, kcl_0, kcl_n, true_and, and_true]
  have E : kcop (kcop (kupi (kupi (kupi (kupi (kupi (kupi (kupi (kupi i c 0 (i b 0)) c 1 (i b 1)) c 2 (i b 2)) c 3 (i b 3)) c 4 (i b 4)) c 5 (i b 5)) c 6 (i b 6)) c 7 (i b 7)) (b + 1) (Int32.toNatClampNeg 0) (c + 1) (Int32.toNatClampNeg 0) (Int32.toNatClampNeg 8)) (b + 2) (Int32.toNatClampNeg 0) (c + 2) (Int32.toNatClampNeg 0) (Int32.toNatClampNeg 8) = nPut i c (nGet i b) := by
    funext x j
    show kcop (kcop _ (b + 1) 0 (c + 1) 0 8) (b + 2) 0 (c + 2) 0 8 x j = _
    unfold kcop nPut kupi
    by_cases hx : x = c
    · subst hx
      by_cases hj : j < 8
      · have : j = 0 ∨ j = 1 ∨ j = 2 ∨ j = 3 ∨ j = 4 ∨ j = 5 ∨ j = 6 ∨ j = 7 := by omega
        rcases this with rfl | rfl | rfl | rfl | rfl | rfl | rfl | rfl <;> simp [nIx, nGet]
      · have : ¬ j = 0 ∧ ¬ j = 1 ∧ ¬ j = 2 ∧ ¬ j = 3 ∧ ¬ j = 4 ∧ ¬ j = 5 ∧ ¬ j = 6 ∧ ¬ j = 7 := by omega
        simp [hj, this]
    · by_cases hx1 : x = c + 1
      · subst hx1
        by_cases hj : j < 8
        · simp [hj, nGet, g1]
        · simp [hj]
      · by_cases hx2 : x = c + 2
        · subst hx2
          by_cases hj : j < 8
          · have e1 : ¬ 8 + j < 8 := by omega
            have e2 : 8 + j < 16 := by omega
            have e3 : 8 + j - 8 = j := by omega
            simp [hj, nGet, e1, e2, e3, g2, g6]
          · simp [hj]
        · simp [hx, hx1, hx2]
  rw [E]
end TC
