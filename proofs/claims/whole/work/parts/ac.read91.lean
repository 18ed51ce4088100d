/-! reading a rule before the reference is made: the same over 91 cells -/
section TC
variable {cu su : Nat} {j : Int32} {c : Nat}
theorem ob_85Z : kob (91, cu, su) 85 5 = True := eq_true ⟨(show 85 < 91 by decide), by decide +kernel⟩
theorem ob_88Z : kob (91, cu, su) 88 5 = True := eq_true ⟨(show 88 < 91 by decide), by decide +kernel⟩
theorem ar_86Z : kar (91, cu, su) 86 0 j = kin j 40 := propext ⟨fun h => h.2, fun h => ⟨(show 86 < 91 by decide), h⟩⟩
theorem ar_89Z : kar (91, cu, su) 89 0 j = kin j 40 := propext ⟨fun h => h.2, fun h => ⟨(show 89 < 91 by decide), h⟩⟩
theorem ar_87Z : kar (91, cu, su) 87 0 j = kin j 40 := propext ⟨fun h => h.2, fun h => ⟨(show 87 < 91 by decide), h⟩⟩
theorem ar_90Z : kar (91, cu, su) 90 0 j = kin j 40 := propext ⟨fun h => h.2, fun h => ⟨(show 90 < 91 by decide), h⟩⟩
theorem ob_1Z : kob (91, cu, su) 1 9 = True := eq_true ⟨(show 1 < 91 by decide), by decide +kernel⟩
theorem ar_2Z : kar (91, cu, su) 2 1 j = kin j 80 := propext ⟨fun h => h.2, fun h => ⟨(show 2 < 91 by decide), h⟩⟩
theorem ob_rZ {c : Nat} (hc : kRc c = true) : kob (91, cu, su) c 5 = True := by
  rcases kRc_of hc with rfl | rfl
  · exact ob_85Z
  · exact ob_88Z
theorem ar_r1Z {c : Nat} (hc : kRc c = true) : kar (91, cu, su) (c + 1) 0 j = kin j 40 := by
  rcases kRc_of hc with rfl | rfl
  · exact ar_86Z
  · exact ar_89Z
theorem ar_r2Z {c : Nat} (hc : kRc c = true) : kar (91, cu, su) (c + 2) 0 j = kin j 40 := by
  rcases kRc_of hc with rfl | rfl
  · exact ar_87Z
  · exact ar_90Z
end TC
section TC
variable {sc : Nat × (Nat → Int32)} {d y nx : Nat} {hd : List (Int × Nat)} {L st : List Value} {S : kS} {cu su : Nat} {i : Nat → Nat → Int32} {l : Nat → Nat → Int64} {f t c b m : Nat} {sp : Nat → Nat} {K : Option (Option Value) → kS → Prop}
theorem c_isDigitZ {p : Int32} : kCA sc (d + 1) 151 [.int p] y nx hd L st ((91, cu, su), i, l, kR f t sp) K = kWP sc (d + 1) y nx L (.int (kb (¬ p < 48 ∧ ¬ 57 < p)) :: st) ((91, cu, su), i, l, kR f t sp) K := by
  refine kCA_of (d := d) (v := some (.int (kb (¬ p < 48 ∧ ¬ 57 < p)))) (S2 := ((91, cu, su), i, l, kR f t sp)) (fun K => ?_)
  rw [km_151]
  show kWP sc (d) 151 0 [.int p] [] ((91, cu, su), i, l, kR f t sp) K = K (some (some (.int (kb (¬ p < 48 ∧ ¬ 57 < p))))) ((91, cu, su), i, l, kR f t sp)
  simp only [e_X10_isDigit_0, e_X10_isDigit_1, e_X10_isDigit_3, e_X10_isDigit_6, e_X10_isDigit_7, e_X10_isDigit_9, e_X10_isDigit_12, e_X10_isDigit_13, e_X10_isDigit_16, e_X10_isDigit_17, kcl_i, kcl_r, kcl_l, kcl_0, kcl_n, true_and, and_true, kbool_0, kbool_1]
  by_cases q1 : p < 48 <;> by_cases q2 : 57 < p <;> simp [kb, q1, q2]
theorem c_atZ {p : Int32} (hs : ¬ 80 < i 1 1) : kCA sc (d + 1) 92 [.ref 1, .int p] y nx hd L st ((91, cu, su), i, l, kR f t sp) K = kWP sc (d + 1) y nx L (.int (if ¬ p < 0 ∧ ¬ i 1 1 ≤ p then i 2 p.toNatClampNeg else -1) :: st) ((91, cu, su), i, l, kR f t sp) K := by
  refine kCA_of (d := d) (v := some (.int (if ¬ p < 0 ∧ ¬ i 1 1 ≤ p then i 2 p.toNatClampNeg else -1))) (S2 := ((91, cu, su), i, l, kR f t sp)) (fun K => ?_)
  rw [km_92]
  show kWP sc (d) 92 0 [.ref 1, .int p] [] ((91, cu, su), i, l, kR f t sp) K = K (some (some (.int (if ¬ p < 0 ∧ ¬ i 1 1 ≤ p then i 2 p.toNatClampNeg else -1)))) ((91, cu, su), i, l, kR f t sp)
  simp only [e_X9_at_0, e_X9_at_1, e_X9_at_4, e_X9_at_5, e_X9_at_6, e_X9_at_9, e_X9_at_12, e_X9_at_13, e_X9_at_16, e_X9_at_17, e_X9_at_18, e_X9_at_21, e_X9_at_22, ob_1Z, rk_1_0, ar_2Z, kcl_i, kcl_r, kcl_l, kcl_0, kcl_n, true_and, and_true]
  by_cases q1 : p < 0
  · simp [q1]
  · by_cases q2 : i 1 1 ≤ p
    · simp [q1, q2]
    · have q3 : kin p 80 = True := kin_of (m := 80) (Nat.le_refl _) (by decide) q1 (Int32.lt_of_lt_of_le (Int32.not_le.1 q2) (Int32.not_lt.1 hs))
      simp only [q1, q2, q3, if_false, true_and, not_false_eq_true, and_self, if_true]
end TC
section TC
variable {sc : Nat × (Nat → Int32)} {d y nx : Nat} {hd : List (Int × Nat)} {L st : List Value} {S : kS} {cu su : Nat} {i : Nat → Nat → Int32} {l : Nat → Nat → Int64} {f t c b m : Nat} {sp : Nat → Nat} {K : Option (Option Value) → kS → Prop}
variable {N : Nat → Int32} {X : Nat × (Nat → Int32)}
theorem c_putZ {v : Int32} (hX : X.1 ≤ 80) : kCA sc (d + 1) 93 [.ref 1, .int v] y nx hd L st ((91, cu, su), xPut i X, l, kR f t sp) K = kWP sc (d + 1) y nx L st ((91, cu, su), xPut i (qPut X v), l, kR f t sp) K := by
  refine kCA_of (d := d) (v := none) (S2 := ((91, cu, su), xPut i (qPut X v), l, kR f t sp)) (fun K => ?_)
  rw [km_93]
  show kWP sc (d) 93 0 [.ref 1, .int v] [] ((91, cu, su), xPut i X, l, kR f t sp) K = K (some (none)) ((91, cu, su), xPut i (qPut X v), l, kR f t sp)
  simp only [e_X9_put_0, e_X9_put_1, e_X9_put_4, e_X9_put_6, e_X9_put_9, e_X9_put_10, e_X9_put_13, e_X9_put_14, e_X9_put_17, e_X9_put_18, e_X9_put_19, e_X9_put_20, e_X9_put_21, e_X9_put_24, e_X9_put_25, e_X9_put_26, e_X9_put_29, ob_1Z, rk_1_0, ar_2Z, kcl_i, kcl_r, kcl_l, kcl_0, kcl_n, true_and, and_true, xP_n, show (80 : Int32) = Int32.ofNat 80 from rfl, tn_le (show 80 < 2147483648 by decide) (show X.1 < 2147483648 by omega)]
  unfold qPut
  by_cases q1 : 80 ≤ X.1
  · simp only [q1, if_true]
  · have q2 : kin (Int32.ofNat X.1) 80 = True := by rw [tn_kin (by omega)]; exact eq_true (by omega)
    simp only [q1, q2, if_false, tn_cl (show X.1 < 2147483648 by omega), xW_s (show X.1 < 80 by omega), xP_n, tn_s, xW_n, true_and]
theorem c_emptyZ  : kCA sc (d + 1) 91 [.ref 1] y nx hd L st ((91, cu, su), i, l, kR f t sp) K = kWP sc (d + 1) y nx L st ((91, cu, su), kupi i 1 1 0, l, kR f t sp) K := by
  refine kCA_of (d := d) (v := none) (S2 := ((91, cu, su), kupi i 1 1 0, l, kR f t sp)) (fun K => ?_)
  rw [km_91]
  show kWP sc (d) 91 0 [.ref 1] [] ((91, cu, su), i, l, kR f t sp) K = K (some (none)) ((91, cu, su), kupi i 1 1 0, l, kR f t sp)
  simp only [e_X9_empty_0, e_X9_empty_1, e_X9_empty_2, e_X9_empty_5, ob_1Z, kcl_i, kcl_r, kcl_l, kcl_0, kcl_n, true_and, and_true]
end TC
section TC
variable {sc : Nat × (Nat → Int32)} {d y nx : Nat} {hd : List (Int × Nat)} {L st : List Value} {S : kS} {cu su : Nat} {i : Nat → Nat → Int32} {l : Nat → Nat → Int64} {f t c b m : Nat} {sp : Nat → Nat} {K : Option (Option Value) → kS → Prop}
variable {N M Z S1 Q A : Nat → Int32} {i1 i2 i3 : Nat → Nat → Int32} {l2 : Nat → Nat → Int64} {n n2 k x a o g : Nat} {v r p q : Int32} {zs zs2 : List Int64}
theorem c_atNZ {T : Nat → Int32} (hn : i 1 1 = Int32.ofNat n) (h80 : n ≤ 80) (hT : ∀ x, x < n → i 2 x = T x) {x : Nat} (hx : x < 100000) : kCA sc (d + 1) 92 [.ref 1, .int (Int32.ofNat x)] y nx hd L st ((91, cu, su), i, l, kR f t sp) K = kWP sc (d + 1) y nx L (.int (tA T n x) :: st) ((91, cu, su), i, l, kR f t sp) K := by
  have hs : ¬ 80 < i 1 1 := by rw [hn, show (80 : Int32) = Int32.ofNat 80 from rfl, tn_lt (by decide) (by omega)]; omega
  rw [c_atZ hs]
  have e : (if ¬ Int32.ofNat x < 0 ∧ ¬ i 1 1 ≤ Int32.ofNat x then i 2 (Int32.ofNat x).toNatClampNeg else -1) = tA T n x := by
    unfold tA
    rw [tn_cl (by omega), hn]
    by_cases q : x < n
    · rw [if_pos q, if_pos ⟨tn_nn (by omega), by rw [tn_le (by omega) (by omega)]; omega⟩]; exact hT x q
    · rw [if_neg q, if_neg (fun z => z.2 (by rw [tn_le (by omega) (by omega)]; omega))]
  rw [e]
end TC
section TC
variable {sc : Nat × (Nat → Int32)} {d y nx : Nat} {hd : List (Int × Nat)} {L st : List Value} {S : kS} {cu su : Nat} {i : Nat → Nat → Int32} {l : Nat → Nat → Int64} {f t c b m : Nat} {sp : Nat → Nat} {K : Option (Option Value) → kS → Prop}
variable {N M Z S1 Q A S A2 S2 : Nat → Int32} {n n2 k x a o g c h p to : Nat} {v r q u : Int32} {T : Nat → Int32}
theorem q_putZ {v u : Int32} {n p g h : Nat} {A S : Nat → Int32} (hf : kRc b = true) (hn : n < 40) : kCA sc (d + 1) 55 [.ref b, .int v] y nx hd L st ((91, cu, su), qP i b n A p S g h u, l, kR f t sp) K = kWP sc (d + 1) y nx L st ((91, cu, su), qP i b (n + 1) (kuf A n v) p S g h u, l, kR f t sp) K := by
  refine kCA_of (d := d) (v := none) (S2 := ((91, cu, su), qP i b (n + 1) (kuf A n v) p S g h u, l, kR f t sp)) (fun K => ?_)
  rw [km_55]
  show kWP sc (d) 55 0 [.ref b, .int v] [] ((91, cu, su), qP i b n A p S g h u, l, kR f t sp) K = K (some (none)) ((91, cu, su), qP i b (n + 1) (kuf A n v) p S g h u, l, kR f t sp)
  simp only [e_X5_put_0, e_X5_put_1, e_X5_put_4, e_X5_put_6, e_X5_put_9, e_X5_put_10, e_X5_put_13, e_X5_put_14, e_X5_put_17, e_X5_put_18, e_X5_put_19, e_X5_put_20, e_X5_put_21, e_X5_put_24, e_X5_put_25, e_X5_put_26, e_X5_put_29, ob_rZ hf, rk_r1 hf, ar_r1Z hf, kcl_i, kcl_r, kcl_l, kcl_0, kcl_n, true_and, and_true, qP_2, n40F hn, if_false, kin40 hn, cl_n (show n < 100000 by omega), qW_a hn, tn_s, qW_2, true_and]
theorem q_pushZ {v u : Int32} {n p g h : Nat} {A S : Nat → Int32} (hf : kRc b = true) (hp : p < 40) : kCA sc (d + 1) 53 [.ref b, .int v] y nx hd L st ((91, cu, su), qP i b n A p S g h u, l, kR f t sp) K = kWP sc (d + 1) y nx L st ((91, cu, su), qP i b n A (p + 1) (kuf S p v) g h u, l, kR f t sp) K := by
  refine kCA_of (d := d) (v := none) (S2 := ((91, cu, su), qP i b n A (p + 1) (kuf S p v) g h u, l, kR f t sp)) (fun K => ?_)
  rw [km_53]
  show kWP sc (d) 53 0 [.ref b, .int v] [] ((91, cu, su), qP i b n A p S g h u, l, kR f t sp) K = K (some (none)) ((91, cu, su), qP i b n A (p + 1) (kuf S p v) g h u, l, kR f t sp)
  simp only [e_X5_push_0, e_X5_push_1, e_X5_push_4, e_X5_push_6, e_X5_push_9, e_X5_push_10, e_X5_push_13, e_X5_push_14, e_X5_push_17, e_X5_push_18, e_X5_push_19, e_X5_push_20, e_X5_push_21, e_X5_push_24, e_X5_push_25, e_X5_push_26, e_X5_push_29, ob_rZ hf, rk_r3 hf, ar_r2Z hf, kcl_i, kcl_r, kcl_l, kcl_0, kcl_n, true_and, and_true, qP_4, n40F hp, if_false, kin40 hp, cl_n (show p < 100000 by omega), qW_s hp, tn_s, qW_4, true_and]
theorem q_popZ {u : Int32} {n p g h : Nat} {A S : Nat → Int32} (hf : kRc b = true) (hp : p < 40) : kCA sc (d + 1) 54 [.ref b] y nx hd L st ((91, cu, su), qP i b n A (p + 1) S g h u, l, kR f t sp) K = kWP sc (d + 1) y nx L (.int (S p) :: st) ((91, cu, su), qP i b n A p S g h u, l, kR f t sp) K := by
  refine kCA_of (d := d) (v := some (.int (S p))) (S2 := ((91, cu, su), qP i b n A p S g h u, l, kR f t sp)) (fun K => ?_)
  rw [km_54]
  show kWP sc (d) 54 0 [.ref b] [] ((91, cu, su), qP i b n A (p + 1) S g h u, l, kR f t sp) K = K (some (some (.int (S p)))) ((91, cu, su), qP i b n A p S g h u, l, kR f t sp)
  have e : (Int32.ofNat (p + 1) = 0) = False := by rw [tn_z (by omega)]; exact eq_false (by omega)
  simp only [e_X5_pop_0, e_X5_pop_1, e_X5_pop_4, e_X5_pop_7, e_X5_pop_8, e_X5_pop_9, e_X5_pop_10, e_X5_pop_11, e_X5_pop_14, e_X5_pop_15, e_X5_pop_16, e_X5_pop_19, e_X5_pop_20, e_X5_pop_23, e_X5_pop_24, e_X5_pop_27, e_X5_pop_28, ob_rZ hf, rk_r3 hf, ar_r2Z hf, kcl_i, kcl_r, kcl_l, kcl_0, kcl_n, true_and, and_true, qP_4, e, if_false, sub1, qW_4, kin40 hp, cl_n (show p < 100000 by omega), qP_s hp, true_and]
theorem q_waitingZ {u : Int32} {n p g h : Nat} {A S : Nat → Int32} (hf : kRc b = true) (hp : p ≤ 40) : kCA sc (d + 1) 52 [.ref b] y nx hd L st ((91, cu, su), qP i b n A p S g h u, l, kR f t sp) K = kWP sc (d + 1) y nx L (.int (wai p S) :: st) ((91, cu, su), qP i b n A p S g h u, l, kR f t sp) K := by
  refine kCA_of (d := d) (v := some (.int (wai p S))) (S2 := ((91, cu, su), qP i b n A p S g h u, l, kR f t sp)) (fun K => ?_)
  rw [km_52]
  show kWP sc (d) 52 0 [.ref b] [] ((91, cu, su), qP i b n A p S g h u, l, kR f t sp) K = K (some (some (.int (wai p S)))) ((91, cu, su), qP i b n A p S g h u, l, kR f t sp)
  unfold wai
  by_cases c : p = 0
  · subst c
    simp only [e_X5_waiting_0, e_X5_waiting_1, e_X5_waiting_4, e_X5_waiting_7, e_X5_waiting_8, e_X5_waiting_11, e_X5_waiting_12, e_X5_waiting_15, e_X5_waiting_16, e_X5_waiting_17, e_X5_waiting_18, e_X5_waiting_21, e_X5_waiting_22, ob_rZ hf, rk_r3 hf, ar_r2Z hf, kcl_i, kcl_r, kcl_l, kcl_0, kcl_n, true_and, and_true, qP_4, le0_nat (show 0 < 100000 by decide), Nat.lt_irrefl, not_false_eq_true, if_true]
  · have e : (0 < p) = True := eq_true (by omega)
    simp only [e_X5_waiting_0, e_X5_waiting_1, e_X5_waiting_4, e_X5_waiting_7, e_X5_waiting_8, e_X5_waiting_11, e_X5_waiting_12, e_X5_waiting_15, e_X5_waiting_16, e_X5_waiting_17, e_X5_waiting_18, e_X5_waiting_21, e_X5_waiting_22, ob_rZ hf, rk_r3 hf, ar_r2Z hf, kcl_i, kcl_r, kcl_l, kcl_0, kcl_n, true_and, and_true, qP_4, le0_nat (show p < 100000 by omega), e, not_true_eq_false, if_false, tn_sub (show 0 < p by omega), kin40 (show p - 1 < 40 by omega), cl_n (show p - 1 < 100000 by omega), qP_s (show p - 1 < 40 by omega), c, true_and]
theorem q_bondZ {v : Int32} : kCA sc (d + 1) 51 [.int v] y nx hd L st ((91, cu, su), i, l, kR f t sp) K = kWP sc (d + 1) y nx L (.int (Int32.ofNat (bnd v)) :: st) ((91, cu, su), i, l, kR f t sp) K := by
  refine kCA_of (d := d) (v := some (.int (Int32.ofNat (bnd v)))) (S2 := ((91, cu, su), i, l, kR f t sp)) (fun K => ?_)
  rw [km_51]
  show kWP sc (d) 51 0 [.int v] [] ((91, cu, su), i, l, kR f t sp) K = K (some (some (.int (Int32.ofNat (bnd v))))) ((91, cu, su), i, l, kR f t sp)
  simp only [e_X5_bondOf_0, e_X5_bondOf_1, e_X5_bondOf_76, e_X5_bondOf_77, e_X5_bondOf_78, e_X5_bondOf_79, e_X5_bondOf_80, e_X5_bondOf_81, e_X5_bondOf_82, e_X5_bondOf_83, e_X5_bondOf_84, e_X5_bondOf_85, kcl_i, kcl_r, kcl_l, kcl_0, kcl_n, true_and, and_true]
  unfold bnd
  by_cases q1 : v = 2042
  · subst q1; rfl
  by_cases q2 : v = 2043
  · subst q2; rfl
  by_cases q3 : v = 2045
  · subst q3; rfl
  by_cases q4 : v = 2047
  · subst q4; rfl
  by_cases q5 : v = 2060
  · subst q5; rfl
  by_cases q6 : v = 2061
  · subst q6; rfl
  by_cases q7 : v = 2062
  · subst q7; rfl
  by_cases q8 : v = 3000
  · subst q8; rfl
  simp only [q1, q2, q3, q4, q5, q6, q7, q8, if_false, or_self]
  rfl
theorem l_releaseZ (hf : kRc b = true) (hk : 1 ≤ k ∧ k ≤ 4) : ∀ {p n x : Nat} {A : Nat → Int32}, p + n ≤ 40 → x + p ≤ 40 → kWP sc (d + 1) 50 2 [.ref b, .int (Int32.ofNat k), .int (Int32.ofNat x)] [] ((91, cu, su), qP i b n A p S g h u, l, kR f t sp) K = K (some none) ((91, cu, su), qP i b (relF k S p n A).2.1 (relF k S p n A).2.2 (relF k S p n A).1 S g h u, l, kR f t sp) := by
  intro p
  induction p with
  | zero =>
    intro n x A h1 h2
    refine e_X5_release_2.trans ?_
    by_cases c : x < 40
    · have e : wai 0 S = -1 := rfl
      simp only [e_X5_release_0, e_X5_release_1, e_X5_release_3, e_X5_release_5, e_X5_release_8, e_X5_release_9, e_X5_release_12, e_X5_release_15, e_X5_release_16, e_X5_release_19, e_X5_release_20, e_X5_release_21, e_X5_release_24, e_X5_release_27, e_X5_release_30, e_X5_release_33, ob_rZ hf, kcl_i, kcl_r, kcl_l, kcl_0, kcl_n, true_and, and_true, n40F c, if_false, q_waitingZ hf (show 0 ≤ 40 by decide), e, q_bondZ, bnd_1, tn_lt (show 0 < 2147483648 by decide) (show k < 2147483648 by omega), show (0 < k) = True from eq_true (by omega), if_true]
      rfl
    · have e : x = 40 := by omega
      subst e
      simp only [e_X5_release_0, e_X5_release_1, e_X5_release_3, e_X5_release_5, e_X5_release_8, e_X5_release_9, e_X5_release_12, e_X5_release_15, e_X5_release_16, e_X5_release_19, e_X5_release_20, e_X5_release_21, e_X5_release_24, e_X5_release_27, e_X5_release_30, e_X5_release_33, ob_rZ hf, kcl_i, kcl_r, kcl_l, kcl_0, kcl_n, true_and, and_true, show ((40 : Int32) ≤ Int32.ofNat 40) = True from eq_true (by decide), if_true]
      rfl
  | succ p ih =>
    intro n x A h1 h2
    have e : wai (p + 1) S = S p := rfl
    refine e_X5_release_2.trans ?_
    rw [relF]
    have hb := @bnd_le (S p)
    by_cases c : k ≤ bnd (S p)
    · have c2 : (bnd (S p) < k) = False := eq_false (by omega)
      simp only [e_X5_release_0, e_X5_release_1, e_X5_release_3, e_X5_release_5, e_X5_release_8, e_X5_release_9, e_X5_release_12, e_X5_release_15, e_X5_release_16, e_X5_release_19, e_X5_release_20, e_X5_release_21, e_X5_release_24, e_X5_release_27, e_X5_release_30, e_X5_release_33, ob_rZ hf, kcl_i, kcl_r, kcl_l, kcl_0, kcl_n, true_and, and_true, n40F (show x < 40 by omega), if_false, q_waitingZ hf (show p + 1 ≤ 40 by omega), e, q_bondZ, tn_lt (show bnd (S p) < 2147483648 by omega) (show k < 2147483648 by omega), c2, q_popZ hf (show p < 40 by omega), q_putZ hf (show n < 40 by omega), tn_s, c, if_true]
      exact ih (by omega) (by omega)
    · have c2 : (bnd (S p) < k) = True := eq_true (by omega)
      simp only [e_X5_release_0, e_X5_release_1, e_X5_release_3, e_X5_release_5, e_X5_release_8, e_X5_release_9, e_X5_release_12, e_X5_release_15, e_X5_release_16, e_X5_release_19, e_X5_release_20, e_X5_release_21, e_X5_release_24, e_X5_release_27, e_X5_release_30, e_X5_release_33, ob_rZ hf, kcl_i, kcl_r, kcl_l, kcl_0, kcl_n, true_and, and_true, n40F (show x < 40 by omega), if_false, q_waitingZ hf (show p + 1 ≤ 40 by omega), e, q_bondZ, tn_lt (show bnd (S p) < 2147483648 by omega) (show k < 2147483648 by omega), c2, if_true, c]
theorem q_releaseZ {u : Int32} {n p g h k : Nat} {A S : Nat → Int32} (hf : kRc b = true) (hk : 1 ≤ k ∧ k ≤ 4) (hp : p + n ≤ 40) : kCA sc (d + 2) 50 [.ref b, .int (Int32.ofNat k)] y nx hd L st ((91, cu, su), qP i b n A p S g h u, l, kR f t sp) K = kWP sc (d + 2) y nx L st ((91, cu, su), qP i b (relF k S p n A).2.1 (relF k S p n A).2.2 (relF k S p n A).1 S g h u, l, kR f t sp) K := by
  refine kCA_of (d := d + 1) (v := none) (S2 := ((91, cu, su), qP i b (relF k S p n A).2.1 (relF k S p n A).2.2 (relF k S p n A).1 S g h u, l, kR f t sp)) (fun K => ?_)
  rw [km_50]
  show kWP sc (d + 1) 50 0 [.ref b, .int (Int32.ofNat k), .retAddr 0] [] ((91, cu, su), qP i b n A p S g h u, l, kR f t sp) K = K (some (none)) ((91, cu, su), qP i b (relF k S p n A).2.1 (relF k S p n A).2.2 (relF k S p n A).1 S g h u, l, kR f t sp)
  simp only [e_X5_release_0, e_X5_release_1, e_X5_release_3, e_X5_release_5, e_X5_release_8, e_X5_release_9, e_X5_release_12, e_X5_release_15, e_X5_release_16, e_X5_release_19, e_X5_release_20, e_X5_release_21, e_X5_release_24, e_X5_release_27, e_X5_release_30, e_X5_release_33, ob_rZ hf, kcl_i, kcl_r, kcl_l, kcl_0, kcl_n, true_and, and_true]
  exact l_releaseZ (x := 0) hf hk hp (by omega)
theorem q_isLetterZ {v : Int32} : kCA sc (d + 1) 56 [.int v] y nx hd L st ((91, cu, su), i, l, kR f t sp) K = kWP sc (d + 1) y nx L (.int (kb (isLe v = true)) :: st) ((91, cu, su), i, l, kR f t sp) K := by
  refine kCA_of (d := d) (v := some (.int (kb (isLe v = true)))) (S2 := ((91, cu, su), i, l, kR f t sp)) (fun K => ?_)
  rw [km_56]
  show kWP sc (d) 56 0 [.int v] [] ((91, cu, su), i, l, kR f t sp) K = K (some (some (.int (kb (isLe v = true))))) ((91, cu, su), i, l, kR f t sp)
  simp only [e_X5_isLetter_0, e_X5_isLetter_1, e_X5_isLetter_3, e_X5_isLetter_6, e_X5_isLetter_7, e_X5_isLetter_9, e_X5_isLetter_12, e_X5_isLetter_13, e_X5_isLetter_15, e_X5_isLetter_18, e_X5_isLetter_19, e_X5_isLetter_21, e_X5_isLetter_24, e_X5_isLetter_25, e_X5_isLetter_27, e_X5_isLetter_30, e_X5_isLetter_31, e_X5_isLetter_33, e_X5_isLetter_36, e_X5_isLetter_37, e_X5_isLetter_39, e_X5_isLetter_42, e_X5_isLetter_43, e_X5_isLetter_46, e_X5_isLetter_47, kcl_i, kcl_r, kcl_l, kcl_0, kcl_n, true_and, and_true, kbool_0, kbool_1]
  have e : (isLe v = true) ↔ (v = 119 ∨ v = 98 ∨ v = 116 ∨ v = 112 ∨ v = 104 ∨ v = 109 ∨ v = 108) := by unfold isLe; exact decide_eq_true_iff
  rw [kb_c e]
  unfold kb
  by_cases q1 : v = 119
  · simp [q1]
  by_cases q2 : v = 98
  · simp [q2]
  by_cases q3 : v = 116
  · simp [q3]
  by_cases q4 : v = 112
  · simp [q4]
  by_cases q5 : v = 104
  · simp [q5]
  by_cases q6 : v = 109
  · simp [q6]
  by_cases q7 : v = 108
  · simp [q7]
  simp [q1, q2, q3, q4, q5, q6, q7]
end TC
section TC
variable {sc : Nat × (Nat → Int32)} {d y nx : Nat} {hd : List (Int × Nat)} {L st : List Value} {S : kS} {cu su : Nat} {i : Nat → Nat → Int32} {l : Nat → Nat → Int64} {f t c b m : Nat} {sp : Nat → Nat} {K : Option (Option Value) → kS → Prop}
variable {N M Z S1 Q A S A2 S2 : Nat → Int32} {n n2 k x a o g c h p to : Nat} {v r q u : Int32} {T : Nat → Int32}
def QCZ (z b : Nat) (v : Int32) (i : Nat → Nat → Int32) (n : Nat) (A : Nat → Int32) (p : Nat) (S : Nat → Int32) (g h : Nat) (u r : Int32) (n' : Nat) (A' : Nat → Int32) (p' : Nat) (S' : Nat → Int32) (g' h' : Nat) (u' : Int32) : Prop :=
  ∀ (sc : Nat × (Nat → Int32)) (d y nx : Nat) (hd : List (Int × Nat)) (L st : List Value) (cu su : Nat) (l : Nat → Nat → Int64) (f t : Nat) (sp : Nat → Nat) (K : Option (Option Value) → kS → Prop), kCA sc (d + 5) z [.ref b, .int v] y nx hd L st ((91, cu, su), qP i b n A p S g h u, l, kR f t sp) K = kWP sc (d + 5) y nx L (.int r :: st) ((91, cu, su), qP i b n' A' p' S' g' h' u', l, kR f t sp) K
def QRZ (z b : Nat) (v : Int32) (i : Nat → Nat → Int32) (n : Nat) (A : Nat → Int32) (p : Nat) (S : Nat → Int32) (g h : Nat) (u : Int32) (o : Option LT) : Prop :=
  (∀ s, o = some s → ∃ n' A' p' S', n' + p' ≤ n + p + 1 ∧ SL n' A' = s.1 ∧ SL p' S' = s.2.1 ∧ s.2.2.1 ≤ 4 ∧ s.2.2.2.1 ≤ 3 ∧ QCZ z b v i n A p S g h u 1 n' A' p' S' s.2.2.1 s.2.2.2.1 (fb s.2.2.2.2)) ∧
  (o = none → ∃ n' A' p' S' g' h' u', QCZ z b v i n A p S g h u 0 n' A' p' S' g' h' u')
theorem QR_sZ {s : LT} {z b n p g h : Nat} {v u : Int32} {A S : Nat → Int32} (n' : Nat) (A' : Nat → Int32) (p' : Nat) (S' : Nat → Int32) (h0 : n' + p' ≤ n + p + 1) (h1 : SL n' A' = s.1) (h2 : SL p' S' = s.2.1) (h3 : s.2.2.1 ≤ 4) (h4 : s.2.2.2.1 ≤ 3) (hq : QCZ z b v i n A p S g h u 1 n' A' p' S' s.2.2.1 s.2.2.2.1 (fb s.2.2.2.2)) : QRZ z b v i n A p S g h u (some s) :=
  ⟨fun s2 e => by cases e; exact ⟨n', A', p', S', h0, h1, h2, h3, h4, hq⟩, fun e => by cases e⟩
theorem QR_nZ {z b n p g h : Nat} {v u : Int32} {A S : Nat → Int32} (n' : Nat) (A' : Nat → Int32) (p' : Nat) (S' : Nat → Int32) (g' h' : Nat) (u' : Int32) (hq : QCZ z b v i n A p S g h u 0 n' A' p' S' g' h' u') : QRZ z b v i n A p S g h u none :=
  ⟨fun s2 e => (by cases e), fun _ => ⟨n', A', p', S', g', h', u', hq⟩⟩
theorem q_partZ (hf : kRc b = true) (hnp : n + p < 40) (hg : g ≤ 4) (hh : h ≤ 3) : QRZ 46 b v i n A p S g h 1 (stepP (SL n A) (SL p S) g h v) := by
  unfold stepP
  by_cases c1 : v = 45
  · rw [if_pos c1]
    refine QR_sZ n A (p + 1) (kuf S p 3000) (by omega) rfl SL_p hg hh ?_
    intro sc d y nx hd L st cu su l f t sp K
    refine kCA_of (d := d + 4) (v := some (.int 1)) (fun K => ?_)
    rw [km_46]
    show kWP sc (d + 4) 46 0 [.ref b, .int v] [] _ K = _
    simp only [e_X5_takesPart_0, e_X5_takesPart_1, e_X5_takesPart_3, e_X5_takesPart_6, e_X5_takesPart_7, e_X5_takesPart_10, e_X5_takesPart_13, e_X5_takesPart_14, e_X5_takesPart_15, e_X5_takesPart_16, e_X5_takesPart_18, e_X5_takesPart_21, e_X5_takesPart_22, e_X5_takesPart_23, e_X5_takesPart_26, e_X5_takesPart_27, e_X5_takesPart_28, e_X5_takesPart_31, e_X5_takesPart_32, e_X5_takesPart_34, e_X5_takesPart_37, e_X5_takesPart_38, e_X5_takesPart_41, e_X5_takesPart_42, e_X5_takesPart_45, e_X5_takesPart_46, e_X5_takesPart_49, e_X5_takesPart_50, e_X5_takesPart_51, e_X5_takesPart_52, e_X5_takesPart_53, e_X5_takesPart_56, e_X5_takesPart_57, e_X5_takesPart_60, e_X5_takesPart_63, e_X5_takesPart_64, e_X5_takesPart_65, e_X5_takesPart_68, e_X5_takesPart_69, e_X5_takesPart_70, e_X5_takesPart_72, e_X5_takesPart_73, e_X5_takesPart_76, e_X5_takesPart_77, e_X5_takesPart_78, e_X5_takesPart_79, e_X5_takesPart_80, e_X5_takesPart_83, e_X5_takesPart_84, e_X5_takesPart_87, e_X5_takesPart_88, e_X5_takesPart_89, e_X5_takesPart_92, e_X5_takesPart_93, e_X5_takesPart_96, ob_rZ hf, kcl_i, kcl_r, kcl_l, kcl_0, kcl_n, true_and, and_true, c1, if_true, not_true_eq_false, if_false, q_pushZ hf (show p < 40 by omega), kbool_1, true_and, true_or, or_true]
    rfl
  rw [if_neg c1]
  by_cases c2 : v = 40
  · rw [if_pos c2]
    by_cases c3 : g < 4
    · rw [if_pos c3]
      refine QR_sZ n A (p + 1) (kuf S p 40) (by omega) rfl SL_p (show g + 1 ≤ 4 by omega) hh ?_
      intro sc d y nx hd L st cu su l f t sp K
      refine kCA_of (d := d + 4) (v := some (.int 1)) (fun K => ?_)
      rw [km_46]
      show kWP sc (d + 4) 46 0 [.ref b, .int v] [] _ K = _
      have e4 : ((4 : Int32) < Int32.ofNat (g + 1)) = False := by rw [show (4 : Int32) = Int32.ofNat 4 from rfl, tn_lt (by decide) (by omega)]; exact eq_false (by omega)
      subst c2
      simp only [e_X5_takesPart_0, e_X5_takesPart_1, e_X5_takesPart_3, e_X5_takesPart_6, e_X5_takesPart_7, e_X5_takesPart_10, e_X5_takesPart_13, e_X5_takesPart_14, e_X5_takesPart_15, e_X5_takesPart_16, e_X5_takesPart_18, e_X5_takesPart_21, e_X5_takesPart_22, e_X5_takesPart_23, e_X5_takesPart_26, e_X5_takesPart_27, e_X5_takesPart_28, e_X5_takesPart_31, e_X5_takesPart_32, e_X5_takesPart_34, e_X5_takesPart_37, e_X5_takesPart_38, e_X5_takesPart_41, e_X5_takesPart_42, e_X5_takesPart_45, e_X5_takesPart_46, e_X5_takesPart_49, e_X5_takesPart_50, e_X5_takesPart_51, e_X5_takesPart_52, e_X5_takesPart_53, e_X5_takesPart_56, e_X5_takesPart_57, e_X5_takesPart_60, e_X5_takesPart_63, e_X5_takesPart_64, e_X5_takesPart_65, e_X5_takesPart_68, e_X5_takesPart_69, e_X5_takesPart_70, e_X5_takesPart_72, e_X5_takesPart_73, e_X5_takesPart_76, e_X5_takesPart_77, e_X5_takesPart_78, e_X5_takesPart_79, e_X5_takesPart_80, e_X5_takesPart_83, e_X5_takesPart_84, e_X5_takesPart_87, e_X5_takesPart_88, e_X5_takesPart_89, e_X5_takesPart_92, e_X5_takesPart_93, e_X5_takesPart_96, ob_rZ hf, kcl_i, kcl_r, kcl_l, kcl_0, kcl_n, true_and, and_true, show ((40 : Int32) = 45) = False from eq_false (by decide), if_true, not_true_eq_false, not_false_eq_true, if_false, qP_5, tn_s, qW_5, q_pushZ hf (show p < 40 by omega), e4, kbool_1, true_and, true_or, or_true]
      rfl
    · rw [if_neg c3]
      refine QR_nZ n A (p + 1) (kuf S p 40) (g + 1) h 1 ?_
      intro sc d y nx hd L st cu su l f t sp K
      refine kCA_of (d := d + 4) (v := some (.int 0)) (fun K => ?_)
      rw [km_46]
      show kWP sc (d + 4) 46 0 [.ref b, .int v] [] _ K = _
      have e4 : ((4 : Int32) < Int32.ofNat (g + 1)) = True := by rw [show (4 : Int32) = Int32.ofNat 4 from rfl, tn_lt (by decide) (by omega)]; exact eq_true (by omega)
      subst c2
      simp only [e_X5_takesPart_0, e_X5_takesPart_1, e_X5_takesPart_3, e_X5_takesPart_6, e_X5_takesPart_7, e_X5_takesPart_10, e_X5_takesPart_13, e_X5_takesPart_14, e_X5_takesPart_15, e_X5_takesPart_16, e_X5_takesPart_18, e_X5_takesPart_21, e_X5_takesPart_22, e_X5_takesPart_23, e_X5_takesPart_26, e_X5_takesPart_27, e_X5_takesPart_28, e_X5_takesPart_31, e_X5_takesPart_32, e_X5_takesPart_34, e_X5_takesPart_37, e_X5_takesPart_38, e_X5_takesPart_41, e_X5_takesPart_42, e_X5_takesPart_45, e_X5_takesPart_46, e_X5_takesPart_49, e_X5_takesPart_50, e_X5_takesPart_51, e_X5_takesPart_52, e_X5_takesPart_53, e_X5_takesPart_56, e_X5_takesPart_57, e_X5_takesPart_60, e_X5_takesPart_63, e_X5_takesPart_64, e_X5_takesPart_65, e_X5_takesPart_68, e_X5_takesPart_69, e_X5_takesPart_70, e_X5_takesPart_72, e_X5_takesPart_73, e_X5_takesPart_76, e_X5_takesPart_77, e_X5_takesPart_78, e_X5_takesPart_79, e_X5_takesPart_80, e_X5_takesPart_83, e_X5_takesPart_84, e_X5_takesPart_87, e_X5_takesPart_88, e_X5_takesPart_89, e_X5_takesPart_92, e_X5_takesPart_93, e_X5_takesPart_96, ob_rZ hf, kcl_i, kcl_r, kcl_l, kcl_0, kcl_n, true_and, and_true, show ((40 : Int32) = 45) = False from eq_false (by decide), if_true, not_true_eq_false, not_false_eq_true, if_false, qP_5, tn_s, qW_5, q_pushZ hf (show p < 40 by omega), e4, kbool_0, true_and, true_or, or_true]
  rw [if_neg c2]
  by_cases c3 : isDg v = true
  · rw [if_pos c3]
    have c3' := c3
    rw [dg_iff] at c3'
    refine QR_sZ (n + 1) (kuf A n (v - 48)) p S (by omega) SL_p rfl hg (show (1 : Nat) ≤ 3 by decide) ?_
    intro sc d y nx hd L st cu su l f t sp K
    refine kCA_of (d := d + 4) (v := some (.int 1)) (fun K => ?_)
    rw [km_46]
    show kWP sc (d + 4) 46 0 [.ref b, .int v] [] _ K = _
    simp only [e_X5_takesPart_0, e_X5_takesPart_1, e_X5_takesPart_3, e_X5_takesPart_6, e_X5_takesPart_7, e_X5_takesPart_10, e_X5_takesPart_13, e_X5_takesPart_14, e_X5_takesPart_15, e_X5_takesPart_16, e_X5_takesPart_18, e_X5_takesPart_21, e_X5_takesPart_22, e_X5_takesPart_23, e_X5_takesPart_26, e_X5_takesPart_27, e_X5_takesPart_28, e_X5_takesPart_31, e_X5_takesPart_32, e_X5_takesPart_34, e_X5_takesPart_37, e_X5_takesPart_38, e_X5_takesPart_41, e_X5_takesPart_42, e_X5_takesPart_45, e_X5_takesPart_46, e_X5_takesPart_49, e_X5_takesPart_50, e_X5_takesPart_51, e_X5_takesPart_52, e_X5_takesPart_53, e_X5_takesPart_56, e_X5_takesPart_57, e_X5_takesPart_60, e_X5_takesPart_63, e_X5_takesPart_64, e_X5_takesPart_65, e_X5_takesPart_68, e_X5_takesPart_69, e_X5_takesPart_70, e_X5_takesPart_72, e_X5_takesPart_73, e_X5_takesPart_76, e_X5_takesPart_77, e_X5_takesPart_78, e_X5_takesPart_79, e_X5_takesPart_80, e_X5_takesPart_83, e_X5_takesPart_84, e_X5_takesPart_87, e_X5_takesPart_88, e_X5_takesPart_89, e_X5_takesPart_92, e_X5_takesPart_93, e_X5_takesPart_96, ob_rZ hf, kcl_i, kcl_r, kcl_l, kcl_0, kcl_n, true_and, and_true, c1, c2, if_true, not_false_eq_true, if_false, qW_7, c_isDigitZ, kb_0, c3', not_true_eq_false, and_self, show (1 : Int32) = Int32.ofNat 1 from rfl, qW_6, q_putZ hf (show n < 40 by omega), true_and, true_or, or_true]
    simp only [show Int32.ofNat 1 = (1 : Int32) from rfl, kbool_1, true_and, true_or, or_true]
    rfl
  rw [if_neg c3]
  have c3' := c3
  rw [dg_iff] at c3'
  have hrun : QCZ 46 b v i n A p S g h 1 (kb (isLe v = true)) (n + 1) (kuf A n (1000 + v)) p S g 0 0 := by
    intro sc d y nx hd L st cu su l f t sp K
    refine kCA_of (d := d + 4) (v := some (.int _)) (fun K => ?_)
    rw [km_46]
    show kWP sc (d + 4) 46 0 [.ref b, .int v] [] _ K = _
    simp only [e_X5_takesPart_0, e_X5_takesPart_1, e_X5_takesPart_3, e_X5_takesPart_6, e_X5_takesPart_7, e_X5_takesPart_10, e_X5_takesPart_13, e_X5_takesPart_14, e_X5_takesPart_15, e_X5_takesPart_16, e_X5_takesPart_18, e_X5_takesPart_21, e_X5_takesPart_22, e_X5_takesPart_23, e_X5_takesPart_26, e_X5_takesPart_27, e_X5_takesPart_28, e_X5_takesPart_31, e_X5_takesPart_32, e_X5_takesPart_34, e_X5_takesPart_37, e_X5_takesPart_38, e_X5_takesPart_41, e_X5_takesPart_42, e_X5_takesPart_45, e_X5_takesPart_46, e_X5_takesPart_49, e_X5_takesPart_50, e_X5_takesPart_51, e_X5_takesPart_52, e_X5_takesPart_53, e_X5_takesPart_56, e_X5_takesPart_57, e_X5_takesPart_60, e_X5_takesPart_63, e_X5_takesPart_64, e_X5_takesPart_65, e_X5_takesPart_68, e_X5_takesPart_69, e_X5_takesPart_70, e_X5_takesPart_72, e_X5_takesPart_73, e_X5_takesPart_76, e_X5_takesPart_77, e_X5_takesPart_78, e_X5_takesPart_79, e_X5_takesPart_80, e_X5_takesPart_83, e_X5_takesPart_84, e_X5_takesPart_87, e_X5_takesPart_88, e_X5_takesPart_89, e_X5_takesPart_92, e_X5_takesPart_93, e_X5_takesPart_96, ob_rZ hf, kcl_i, kcl_r, kcl_l, kcl_0, kcl_n, true_and, and_true, c1, c2, if_true, not_false_eq_true, if_false, qW_7, c_isDigitZ, kb_0, c3', show kupi (qP i b n A p S g h 0) b 6 0 = qP i b n A p S g 0 0 from qW_6 (k := 0), q_putZ hf (show n < 40 by omega), q_isLetterZ, kb_ok, true_and, true_or, or_true]
  by_cases c4 : isLe v = true
  · rw [if_pos c4]
    rw [kb_t c4] at hrun
    exact QR_sZ (n + 1) (kuf A n (1000 + v)) p S (by omega) SL_p rfl hg (show (0 : Nat) ≤ 3 by decide) hrun
  · rw [if_neg c4]
    rw [kb_f c4] at hrun
    exact QR_nZ _ _ _ _ _ _ _ hrun
theorem q_lengthenZ (hf : kRc b = true) (hn : n ≤ 40) (hh : h ≤ 3) : (1 ≤ h ∧ h ≤ 2 ∧ 1 ≤ n → kCA sc (d + 1) 48 [.ref b, .int v] y nx hd L st ((91, cu, su), qP i b n A p S g h u, l, kR f t sp) K = kWP sc (d + 1) y nx L (.int 1 :: st) ((91, cu, su), qP i b n (kuf A (n - 1) (A (n - 1) * 10 + v)) p S g (h + 1) u, l, kR f t sp) K) ∧ (¬ (1 ≤ h ∧ h ≤ 2 ∧ 1 ≤ n) → kCA sc (d + 1) 48 [.ref b, .int v] y nx hd L st ((91, cu, su), qP i b n A p S g h u, l, kR f t sp) K = kWP sc (d + 1) y nx L (.int 0 :: st) ((91, cu, su), qP i b n A p S g h u, l, kR f t sp) K) := by
  have e1 : (Int32.ofNat h < 1) = (h < 1) := by rw [show (1 : Int32) = Int32.ofNat 1 from rfl, tn_lt (by omega) (by decide)]
  have e2 : ((2 : Int32) < Int32.ofNat h) = (2 < h) := by rw [show (2 : Int32) = Int32.ofNat 2 from rfl, tn_lt (by decide) (by omega)]
  have e3 : ((1 : Int32) ≤ Int32.ofNat n) = (1 ≤ n) := by rw [show (1 : Int32) = Int32.ofNat 1 from rfl, tn_le (by decide) (by omega)]
  constructor
  · intro q
    refine kCA_of (d := d) (v := some (.int 1)) (fun K => ?_)
    rw [km_48]
    show kWP sc d 48 0 [.ref b, .int v] [] _ K = _
    simp only [e_X5_lengthensNumber_0, e_X5_lengthensNumber_1, e_X5_lengthensNumber_4, e_X5_lengthensNumber_5, e_X5_lengthensNumber_8, e_X5_lengthensNumber_9, e_X5_lengthensNumber_12, e_X5_lengthensNumber_13, e_X5_lengthensNumber_16, e_X5_lengthensNumber_17, e_X5_lengthensNumber_20, e_X5_lengthensNumber_21, e_X5_lengthensNumber_24, e_X5_lengthensNumber_25, e_X5_lengthensNumber_26, e_X5_lengthensNumber_27, e_X5_lengthensNumber_28, e_X5_lengthensNumber_31, e_X5_lengthensNumber_32, e_X5_lengthensNumber_33, e_X5_lengthensNumber_36, e_X5_lengthensNumber_37, e_X5_lengthensNumber_40, e_X5_lengthensNumber_41, e_X5_lengthensNumber_44, e_X5_lengthensNumber_45, e_X5_lengthensNumber_46, e_X5_lengthensNumber_47, e_X5_lengthensNumber_50, e_X5_lengthensNumber_51, e_X5_lengthensNumber_54, e_X5_lengthensNumber_55, e_X5_lengthensNumber_56, e_X5_lengthensNumber_57, e_X5_lengthensNumber_59, e_X5_lengthensNumber_60, e_X5_lengthensNumber_61, e_X5_lengthensNumber_62, e_X5_lengthensNumber_63, e_X5_lengthensNumber_64, ob_rZ hf, rk_r1 hf, ar_r1Z hf, kcl_i, kcl_r, kcl_l, kcl_0, kcl_n, true_and, and_true, qP_6, qP_2, e1, e2, e3, show (h < 1) = False from eq_false (by omega), show (2 < h) = False from eq_false (by omega), show (1 ≤ n) = True from eq_true (by omega), if_true, if_false, tn_s, qW_6, tn_sub (show 0 < n by omega), kin40 (show n - 1 < 40 by omega), cl_n (show n - 1 < 100000 by omega), qP_a (show n - 1 < 40 by omega), qW_a (show n - 1 < 40 by omega), kbool_1, true_and, true_or, or_true]
  · intro q
    refine kCA_of (d := d) (v := some (.int 0)) (fun K => ?_)
    rw [km_48]
    show kWP sc d 48 0 [.ref b, .int v] [] _ K = _
    simp only [e_X5_lengthensNumber_0, e_X5_lengthensNumber_1, e_X5_lengthensNumber_4, e_X5_lengthensNumber_5, e_X5_lengthensNumber_8, e_X5_lengthensNumber_9, e_X5_lengthensNumber_12, e_X5_lengthensNumber_13, e_X5_lengthensNumber_16, e_X5_lengthensNumber_17, e_X5_lengthensNumber_20, e_X5_lengthensNumber_21, e_X5_lengthensNumber_24, e_X5_lengthensNumber_25, e_X5_lengthensNumber_26, e_X5_lengthensNumber_27, e_X5_lengthensNumber_28, e_X5_lengthensNumber_31, e_X5_lengthensNumber_32, e_X5_lengthensNumber_33, e_X5_lengthensNumber_36, e_X5_lengthensNumber_37, e_X5_lengthensNumber_40, e_X5_lengthensNumber_41, e_X5_lengthensNumber_44, e_X5_lengthensNumber_45, e_X5_lengthensNumber_46, e_X5_lengthensNumber_47, e_X5_lengthensNumber_50, e_X5_lengthensNumber_51, e_X5_lengthensNumber_54, e_X5_lengthensNumber_55, e_X5_lengthensNumber_56, e_X5_lengthensNumber_57, e_X5_lengthensNumber_59, e_X5_lengthensNumber_60, e_X5_lengthensNumber_61, e_X5_lengthensNumber_62, e_X5_lengthensNumber_63, e_X5_lengthensNumber_64, ob_rZ hf, rk_r1 hf, ar_r1Z hf, kcl_i, kcl_r, kcl_l, kcl_0, kcl_n, true_and, and_true, qP_6, qP_2, e1, e2, e3, kbool_0, true_and, true_or, or_true]
    by_cases q1 : h < 1
    · simp only [q1, if_true]
    · by_cases q2 : 2 < h
      · simp only [q1, q2, if_true, if_false]
      · have q3 : ¬ 1 ≤ n := fun z => q ⟨by omega, by omega, z⟩
        simp only [q1, q2, q3, if_false]
theorem q_popZ' (hf : kRc b = true) (hp : p ≤ 40) : ∃ r, ∀ (sc : Nat × (Nat → Int32)) (d y nx : Nat) (hd : List (Int × Nat)) (L st : List Value) (cu su : Nat) (l : Nat → Nat → Int64) (f t : Nat) (sp : Nat → Nat) (K : Option (Option Value) → kS → Prop), kCA sc (d + 1) 54 [.ref b] y nx hd L st ((91, cu, su), qP i b n A p S g h u, l, kR f t sp) K = kWP sc (d + 1) y nx L (.int r :: st) ((91, cu, su), qP i b n A (p - 1) S g h u, l, kR f t sp) K := by
  cases p with
  | zero =>
    refine ⟨0, fun sc d y nx hd L st cu su l f t sp K => ?_⟩
    refine kCA_of (d := d) (v := some (.int 0)) (fun K => ?_)
    rw [km_54]
    show kWP sc d 54 0 [.ref b] [] _ K = _
    simp only [e_X5_pop_0, e_X5_pop_1, e_X5_pop_4, e_X5_pop_7, e_X5_pop_8, e_X5_pop_9, e_X5_pop_10, e_X5_pop_11, e_X5_pop_14, e_X5_pop_15, e_X5_pop_16, e_X5_pop_19, e_X5_pop_20, e_X5_pop_23, e_X5_pop_24, e_X5_pop_27, e_X5_pop_28, ob_rZ hf, rk_r3 hf, ar_r2Z hf, kcl_i, kcl_r, kcl_l, kcl_0, kcl_n, true_and, and_true, qP_4, show (Int32.ofNat 0 = 0) = True from eq_true rfl, if_true]
  | succ p => exact ⟨S p, fun sc d y nx hd L st cu su l f t sp K => q_popZ hf (by omega)⟩
theorem q_joinZ (hf : kRc b = true) (hnp : n + p < 40) (hg : g ≤ 4) (hh : h ≤ 3) : QRZ 47 b v i n A p S g h 0 (stepJ (SL n A) (SL p S) g h v) := by
  unfold stepJ
  by_cases c1 : isDg v = true
  · rw [if_pos c1]
    have c1' := c1
    rw [dg_iff] at c1'
    have hno : ¬ (1 ≤ h ∧ h ≤ 2 ∧ 1 ≤ n) → QRZ 47 b v i n A p S g h 0 none := by
      intro q
      refine QR_nZ n A p S g h 0 ?_
      intro sc d y nx hd L st cu su l f t sp K
      refine kCA_of (d := d + 4) (v := some (.int 0)) (fun K => ?_)
      rw [km_47]
      show kWP sc (d + 4) 47 0 [.ref b, .int v, .retAddr 0] [] _ K = _
      simp only [e_X5_takesJoin_0, e_X5_takesJoin_1, e_X5_takesJoin_4, e_X5_takesJoin_7, e_X5_takesJoin_8, e_X5_takesJoin_9, e_X5_takesJoin_11, e_X5_takesJoin_12, e_X5_takesJoin_15, e_X5_takesJoin_16, e_X5_takesJoin_17, e_X5_takesJoin_18, e_X5_takesJoin_21, e_X5_takesJoin_22, e_X5_takesJoin_24, e_X5_takesJoin_27, e_X5_takesJoin_28, e_X5_takesJoin_31, e_X5_takesJoin_32, e_X5_takesJoin_35, e_X5_takesJoin_36, e_X5_takesJoin_37, e_X5_takesJoin_40, e_X5_takesJoin_41, e_X5_takesJoin_42, e_X5_takesJoin_45, e_X5_takesJoin_46, e_X5_takesJoin_47, e_X5_takesJoin_48, e_X5_takesJoin_49, e_X5_takesJoin_50, e_X5_takesJoin_53, e_X5_takesJoin_54, e_X5_takesJoin_57, e_X5_takesJoin_58, e_X5_takesJoin_61, e_X5_takesJoin_62, e_X5_takesJoin_63, e_X5_takesJoin_66, e_X5_takesJoin_67, e_X5_takesJoin_70, e_X5_takesJoin_73, e_X5_takesJoin_74, e_X5_takesJoin_77, e_X5_takesJoin_78, e_X5_takesJoin_79, e_X5_takesJoin_80, e_X5_takesJoin_83, e_X5_takesJoin_84, e_X5_takesJoin_85, e_X5_takesJoin_88, e_X5_takesJoin_89, e_X5_takesJoin_90, e_X5_takesJoin_93, e_X5_takesJoin_94, ob_rZ hf, kcl_i, kcl_r, kcl_l, kcl_0, kcl_n, true_and, and_true, c_isDigitZ, kb_0, c1', not_true_eq_false, not_false_eq_true, and_self, if_true, if_false, (q_lengthenZ hf (show n ≤ 40 by omega) hh).2 q, kbool_0, true_and, true_or, or_true]
    by_cases c2 : 1 ≤ h ∧ h ≤ 2
    · rw [if_pos c2]
      cases n with
      | zero => exact hno (fun z => by omega)
      | succ n =>
        show QRZ _ b v i (n + 1) A p S g h 0 (some ((A n * 10 + (v - 48)) :: SL n A, SL p S, g, h + 1, false))
        refine QR_sZ (n + 1) (kuf A n (A n * 10 + (v - 48))) p S (by omega) SL_p rfl hg (show h + 1 ≤ 3 by omega) ?_
        intro sc d y nx hd L st cu su l f t sp K
        refine kCA_of (d := d + 4) (v := some (.int 1)) (fun K => ?_)
        rw [km_47]
        show kWP sc (d + 4) 47 0 [.ref b, .int v, .retAddr 0] [] _ K = _
        simp only [e_X5_takesJoin_0, e_X5_takesJoin_1, e_X5_takesJoin_4, e_X5_takesJoin_7, e_X5_takesJoin_8, e_X5_takesJoin_9, e_X5_takesJoin_11, e_X5_takesJoin_12, e_X5_takesJoin_15, e_X5_takesJoin_16, e_X5_takesJoin_17, e_X5_takesJoin_18, e_X5_takesJoin_21, e_X5_takesJoin_22, e_X5_takesJoin_24, e_X5_takesJoin_27, e_X5_takesJoin_28, e_X5_takesJoin_31, e_X5_takesJoin_32, e_X5_takesJoin_35, e_X5_takesJoin_36, e_X5_takesJoin_37, e_X5_takesJoin_40, e_X5_takesJoin_41, e_X5_takesJoin_42, e_X5_takesJoin_45, e_X5_takesJoin_46, e_X5_takesJoin_47, e_X5_takesJoin_48, e_X5_takesJoin_49, e_X5_takesJoin_50, e_X5_takesJoin_53, e_X5_takesJoin_54, e_X5_takesJoin_57, e_X5_takesJoin_58, e_X5_takesJoin_61, e_X5_takesJoin_62, e_X5_takesJoin_63, e_X5_takesJoin_66, e_X5_takesJoin_67, e_X5_takesJoin_70, e_X5_takesJoin_73, e_X5_takesJoin_74, e_X5_takesJoin_77, e_X5_takesJoin_78, e_X5_takesJoin_79, e_X5_takesJoin_80, e_X5_takesJoin_83, e_X5_takesJoin_84, e_X5_takesJoin_85, e_X5_takesJoin_88, e_X5_takesJoin_89, e_X5_takesJoin_90, e_X5_takesJoin_93, e_X5_takesJoin_94, ob_rZ hf, kcl_i, kcl_r, kcl_l, kcl_0, kcl_n, true_and, and_true, c_isDigitZ, kb_0, c1', not_true_eq_false, not_false_eq_true, and_self, if_true, if_false, (q_lengthenZ hf (show n + 1 ≤ 40 by omega) hh).1 ⟨c2.1, c2.2, by omega⟩, kbool_1, true_and, true_or, or_true]
        rfl
    · rw [if_neg c2]
      exact hno (fun z => c2 ⟨z.1, z.2.1⟩)
  rw [if_neg c1]
  have c1' := c1
  rw [dg_iff] at c1'
  have z6 : kupi (qP i b n A p S g h 0) b 6 0 = qP i b n A p S g 0 0 := qW_6 (k := 0)
  by_cases c2 : v = 41
  · rw [if_pos c2]
    have e0 : (Int32.ofNat g = 0) = (g = 0) := tn_z (by omega)
    by_cases c3 : g = 0
    · rw [if_pos c3]
      refine QR_nZ n A p S g 0 0 ?_
      intro sc d y nx hd L st cu su l f t sp K
      refine kCA_of (d := d + 4) (v := some (.int 0)) (fun K => ?_)
      rw [km_47]
      show kWP sc (d + 4) 47 0 [.ref b, .int v, .retAddr 0] [] _ K = _
      have CB := fun (y nx : Nat) (L st : List Value) (hd : List (Int × Nat)) (K : Option (Option Value) → kS → Prop) => kCA_of (sc := sc) (d := d + 3) (z := 49) (as := [.ref b]) (y := y) (nx := nx) (hd := hd) (L := L) (st := st) (S := ((91, cu, su), qP i b n A p S g 0 0, l, kR f t sp)) (S2 := ((91, cu, su), qP i b n A p S g 0 0, l, kR f t sp)) (v := some (.int 0)) (K := K) (fun K => by
        rw [km_49]
        show kWP sc (d + 3) 49 0 [.ref b] [] _ K = _
        simp only [e_X5_closesBracket_0, e_X5_closesBracket_1, e_X5_closesBracket_4, e_X5_closesBracket_7, e_X5_closesBracket_8, e_X5_closesBracket_9, e_X5_closesBracket_10, e_X5_closesBracket_11, e_X5_closesBracket_14, e_X5_closesBracket_15, e_X5_closesBracket_16, e_X5_closesBracket_19, e_X5_closesBracket_20, e_X5_closesBracket_21, e_X5_closesBracket_24, e_X5_closesBracket_25, e_X5_closesBracket_28, e_X5_closesBracket_29, e_X5_closesBracket_30, ob_rZ hf, kcl_i, kcl_r, kcl_l, kcl_0, kcl_n, true_and, and_true, qP_5, eq_true c3, e0, if_true, kbool_0, true_and, true_or, or_true])
      simp only [e_X5_takesJoin_0, e_X5_takesJoin_1, e_X5_takesJoin_4, e_X5_takesJoin_7, e_X5_takesJoin_8, e_X5_takesJoin_9, e_X5_takesJoin_11, e_X5_takesJoin_12, e_X5_takesJoin_15, e_X5_takesJoin_16, e_X5_takesJoin_17, e_X5_takesJoin_18, e_X5_takesJoin_21, e_X5_takesJoin_22, e_X5_takesJoin_24, e_X5_takesJoin_27, e_X5_takesJoin_28, e_X5_takesJoin_31, e_X5_takesJoin_32, e_X5_takesJoin_35, e_X5_takesJoin_36, e_X5_takesJoin_37, e_X5_takesJoin_40, e_X5_takesJoin_41, e_X5_takesJoin_42, e_X5_takesJoin_45, e_X5_takesJoin_46, e_X5_takesJoin_47, e_X5_takesJoin_48, e_X5_takesJoin_49, e_X5_takesJoin_50, e_X5_takesJoin_53, e_X5_takesJoin_54, e_X5_takesJoin_57, e_X5_takesJoin_58, e_X5_takesJoin_61, e_X5_takesJoin_62, e_X5_takesJoin_63, e_X5_takesJoin_66, e_X5_takesJoin_67, e_X5_takesJoin_70, e_X5_takesJoin_73, e_X5_takesJoin_74, e_X5_takesJoin_77, e_X5_takesJoin_78, e_X5_takesJoin_79, e_X5_takesJoin_80, e_X5_takesJoin_83, e_X5_takesJoin_84, e_X5_takesJoin_85, e_X5_takesJoin_88, e_X5_takesJoin_89, e_X5_takesJoin_90, e_X5_takesJoin_93, e_X5_takesJoin_94, ob_rZ hf, kcl_i, kcl_r, kcl_l, kcl_0, kcl_n, true_and, and_true, c_isDigitZ, kb_0, c1', not_false_eq_true, if_true, z6, c2, not_true_eq_false, if_false]
      rw [show d + 4 = d + 3 + 1 from rfl, CB]
      show kWP sc (d + 3 + 1) _ _ _ [.int 0] _ K = _
      simp only [e_X5_takesJoin_0, e_X5_takesJoin_1, e_X5_takesJoin_4, e_X5_takesJoin_7, e_X5_takesJoin_8, e_X5_takesJoin_9, e_X5_takesJoin_11, e_X5_takesJoin_12, e_X5_takesJoin_15, e_X5_takesJoin_16, e_X5_takesJoin_17, e_X5_takesJoin_18, e_X5_takesJoin_21, e_X5_takesJoin_22, e_X5_takesJoin_24, e_X5_takesJoin_27, e_X5_takesJoin_28, e_X5_takesJoin_31, e_X5_takesJoin_32, e_X5_takesJoin_35, e_X5_takesJoin_36, e_X5_takesJoin_37, e_X5_takesJoin_40, e_X5_takesJoin_41, e_X5_takesJoin_42, e_X5_takesJoin_45, e_X5_takesJoin_46, e_X5_takesJoin_47, e_X5_takesJoin_48, e_X5_takesJoin_49, e_X5_takesJoin_50, e_X5_takesJoin_53, e_X5_takesJoin_54, e_X5_takesJoin_57, e_X5_takesJoin_58, e_X5_takesJoin_61, e_X5_takesJoin_62, e_X5_takesJoin_63, e_X5_takesJoin_66, e_X5_takesJoin_67, e_X5_takesJoin_70, e_X5_takesJoin_73, e_X5_takesJoin_74, e_X5_takesJoin_77, e_X5_takesJoin_78, e_X5_takesJoin_79, e_X5_takesJoin_80, e_X5_takesJoin_83, e_X5_takesJoin_84, e_X5_takesJoin_85, e_X5_takesJoin_88, e_X5_takesJoin_89, e_X5_takesJoin_90, e_X5_takesJoin_93, e_X5_takesJoin_94, ob_rZ hf, kcl_i, kcl_r, kcl_l, kcl_0, kcl_n, true_and, and_true, kbool_0, true_and, true_or, or_true]
    · rw [if_neg c3]
      have hr := relF_L (k := 1) (p := p) (S := S) (n := n) (A := A)
      have hle := @relF_le S 1 p n A
      rw [hr]
      refine QR_sZ _ _ _ S (by omega) rfl SL_tail.symm (show g - 1 ≤ 4 by omega) (show (0 : Nat) ≤ 3 by decide) ?_
      obtain ⟨rr, hpop⟩ := q_popZ' (i := i) (n := (relF 1 S p n A).2.1) (A := (relF 1 S p n A).2.2) (p := (relF 1 S p n A).1) (S := S) (g := g - 1) (h := 0) (u := 0) hf (by omega)
      intro sc d y nx hd L st cu su l f t sp K
      refine kCA_of (d := d + 4) (v := some (.int 1)) (fun K => ?_)
      rw [km_47]
      show kWP sc (d + 4) 47 0 [.ref b, .int v, .retAddr 0] [] _ K = _
      have CB := fun (y nx : Nat) (L st : List Value) (hd : List (Int × Nat)) (K : Option (Option Value) → kS → Prop) => kCA_of (sc := sc) (d := d + 3) (z := 49) (as := [.ref b]) (y := y) (nx := nx) (hd := hd) (L := L) (st := st) (S := ((91, cu, su), qP i b n A p S g 0 0, l, kR f t sp)) (S2 := ((91, cu, su), qP i b (relF 1 S p n A).2.1 (relF 1 S p n A).2.2 ((relF 1 S p n A).1 - 1) S (g - 1) 0 0, l, kR f t sp)) (v := some (.int 1)) (K := K) (fun K => by
        rw [km_49]
        show kWP sc (d + 3) 49 0 [.ref b] [] _ K = _
        have rl := fun (y nx : Nat) (L st : List Value) (hd : List (Int × Nat)) (K : Option (Option Value) → kS → Prop) => q_releaseZ (sc := sc) (d := d + 1) (y := y) (nx := nx) (hd := hd) (L := L) (st := st) (cu := cu) (su := su) (i := i) (l := l) (f := f) (t := t) (sp := sp) (K := K) (b := b) (n := n) (A := A) (p := p) (S := S) (g := g - 1) (h := 0) (u := 0) (k := 1) hf (show 1 ≤ 1 ∧ 1 ≤ 4 by decide) (show p + n ≤ 40 by omega)
        simp only [show Int32.ofNat 1 = (1 : Int32) from rfl] at rl
        simp only [e_X5_closesBracket_0, e_X5_closesBracket_1, e_X5_closesBracket_4, e_X5_closesBracket_7, e_X5_closesBracket_8, e_X5_closesBracket_9, e_X5_closesBracket_10, e_X5_closesBracket_11, e_X5_closesBracket_14, e_X5_closesBracket_15, e_X5_closesBracket_16, e_X5_closesBracket_19, e_X5_closesBracket_20, e_X5_closesBracket_21, e_X5_closesBracket_24, e_X5_closesBracket_25, e_X5_closesBracket_28, e_X5_closesBracket_29, e_X5_closesBracket_30, ob_rZ hf, kcl_i, kcl_r, kcl_l, kcl_0, kcl_n, true_and, and_true, qP_5, e0, c3, if_false, tn_sub (show 0 < g by omega), qW_5, rl, hpop, kbool_1, true_and, true_or, or_true])
      simp only [e_X5_takesJoin_0, e_X5_takesJoin_1, e_X5_takesJoin_4, e_X5_takesJoin_7, e_X5_takesJoin_8, e_X5_takesJoin_9, e_X5_takesJoin_11, e_X5_takesJoin_12, e_X5_takesJoin_15, e_X5_takesJoin_16, e_X5_takesJoin_17, e_X5_takesJoin_18, e_X5_takesJoin_21, e_X5_takesJoin_22, e_X5_takesJoin_24, e_X5_takesJoin_27, e_X5_takesJoin_28, e_X5_takesJoin_31, e_X5_takesJoin_32, e_X5_takesJoin_35, e_X5_takesJoin_36, e_X5_takesJoin_37, e_X5_takesJoin_40, e_X5_takesJoin_41, e_X5_takesJoin_42, e_X5_takesJoin_45, e_X5_takesJoin_46, e_X5_takesJoin_47, e_X5_takesJoin_48, e_X5_takesJoin_49, e_X5_takesJoin_50, e_X5_takesJoin_53, e_X5_takesJoin_54, e_X5_takesJoin_57, e_X5_takesJoin_58, e_X5_takesJoin_61, e_X5_takesJoin_62, e_X5_takesJoin_63, e_X5_takesJoin_66, e_X5_takesJoin_67, e_X5_takesJoin_70, e_X5_takesJoin_73, e_X5_takesJoin_74, e_X5_takesJoin_77, e_X5_takesJoin_78, e_X5_takesJoin_79, e_X5_takesJoin_80, e_X5_takesJoin_83, e_X5_takesJoin_84, e_X5_takesJoin_85, e_X5_takesJoin_88, e_X5_takesJoin_89, e_X5_takesJoin_90, e_X5_takesJoin_93, e_X5_takesJoin_94, ob_rZ hf, kcl_i, kcl_r, kcl_l, kcl_0, kcl_n, true_and, and_true, c_isDigitZ, kb_0, c1', not_false_eq_true, if_true, z6, c2, not_true_eq_false, if_false]
      rw [show d + 4 = d + 3 + 1 from rfl, CB]
      show kWP sc (d + 3 + 1) _ _ _ [.int 1] _ K = _
      simp only [e_X5_takesJoin_0, e_X5_takesJoin_1, e_X5_takesJoin_4, e_X5_takesJoin_7, e_X5_takesJoin_8, e_X5_takesJoin_9, e_X5_takesJoin_11, e_X5_takesJoin_12, e_X5_takesJoin_15, e_X5_takesJoin_16, e_X5_takesJoin_17, e_X5_takesJoin_18, e_X5_takesJoin_21, e_X5_takesJoin_22, e_X5_takesJoin_24, e_X5_takesJoin_27, e_X5_takesJoin_28, e_X5_takesJoin_31, e_X5_takesJoin_32, e_X5_takesJoin_35, e_X5_takesJoin_36, e_X5_takesJoin_37, e_X5_takesJoin_40, e_X5_takesJoin_41, e_X5_takesJoin_42, e_X5_takesJoin_45, e_X5_takesJoin_46, e_X5_takesJoin_47, e_X5_takesJoin_48, e_X5_takesJoin_49, e_X5_takesJoin_50, e_X5_takesJoin_53, e_X5_takesJoin_54, e_X5_takesJoin_57, e_X5_takesJoin_58, e_X5_takesJoin_61, e_X5_takesJoin_62, e_X5_takesJoin_63, e_X5_takesJoin_66, e_X5_takesJoin_67, e_X5_takesJoin_70, e_X5_takesJoin_73, e_X5_takesJoin_74, e_X5_takesJoin_77, e_X5_takesJoin_78, e_X5_takesJoin_79, e_X5_takesJoin_80, e_X5_takesJoin_83, e_X5_takesJoin_84, e_X5_takesJoin_85, e_X5_takesJoin_88, e_X5_takesJoin_89, e_X5_takesJoin_90, e_X5_takesJoin_93, e_X5_takesJoin_94, ob_rZ hf, kcl_i, kcl_r, kcl_l, kcl_0, kcl_n, true_and, and_true, kbool_1, true_and, true_or, or_true]
      rfl
  rw [if_neg c2]
  have hb4 := @bnd_le (2000 + v)
  have eb : (Int32.ofNat (bnd (2000 + v)) = 0) = (bnd (2000 + v) = 0) := tn_z (by omega)
  have eb1 : (Int32.ofNat (bnd (2000 + v)) = 1) = (bnd (2000 + v) = 1) := by rw [show (1 : Int32) = Int32.ofNat 1 from rfl, tn_eq (by omega) (by decide)]
  by_cases c3 : bnd (2000 + v) = 0
  · rw [if_pos c3]
    refine QR_nZ n A p S g 0 0 ?_
    intro sc d y nx hd L st cu su l f t sp K
    refine kCA_of (d := d + 4) (v := some (.int 0)) (fun K => ?_)
    rw [km_47]
    show kWP sc (d + 4) 47 0 [.ref b, .int v, .retAddr 0] [] _ K = _
    simp only [e_X5_takesJoin_0, e_X5_takesJoin_1, e_X5_takesJoin_4, e_X5_takesJoin_7, e_X5_takesJoin_8, e_X5_takesJoin_9, e_X5_takesJoin_11, e_X5_takesJoin_12, e_X5_takesJoin_15, e_X5_takesJoin_16, e_X5_takesJoin_17, e_X5_takesJoin_18, e_X5_takesJoin_21, e_X5_takesJoin_22, e_X5_takesJoin_24, e_X5_takesJoin_27, e_X5_takesJoin_28, e_X5_takesJoin_31, e_X5_takesJoin_32, e_X5_takesJoin_35, e_X5_takesJoin_36, e_X5_takesJoin_37, e_X5_takesJoin_40, e_X5_takesJoin_41, e_X5_takesJoin_42, e_X5_takesJoin_45, e_X5_takesJoin_46, e_X5_takesJoin_47, e_X5_takesJoin_48, e_X5_takesJoin_49, e_X5_takesJoin_50, e_X5_takesJoin_53, e_X5_takesJoin_54, e_X5_takesJoin_57, e_X5_takesJoin_58, e_X5_takesJoin_61, e_X5_takesJoin_62, e_X5_takesJoin_63, e_X5_takesJoin_66, e_X5_takesJoin_67, e_X5_takesJoin_70, e_X5_takesJoin_73, e_X5_takesJoin_74, e_X5_takesJoin_77, e_X5_takesJoin_78, e_X5_takesJoin_79, e_X5_takesJoin_80, e_X5_takesJoin_83, e_X5_takesJoin_84, e_X5_takesJoin_85, e_X5_takesJoin_88, e_X5_takesJoin_89, e_X5_takesJoin_90, e_X5_takesJoin_93, e_X5_takesJoin_94, ob_rZ hf, kcl_i, kcl_r, kcl_l, kcl_0, kcl_n, true_and, and_true, c_isDigitZ, kb_0, c1', not_false_eq_true, if_true, z6, c2, if_false, q_bondZ, eb, eq_true c3, kbool_0, true_and, true_or, or_true]
  rw [if_neg c3]
  by_cases c4 : bnd (2000 + v) = 1
  · rw [if_pos c4]
    have hr := relF_L (k := 2) (p := p) (S := S) (n := n) (A := A)
    have hle := @relF_le S 2 p n A
    have hw : topb (SL (relF 2 S p n A).1 S) = bnd (wai (relF 2 S p n A).1 S) := by
      generalize (relF 2 S p n A).1 = z
      cases z with
      | zero => exact bnd_1.symm
      | succ z => rfl
    have hb5 := @bnd_le (wai (relF 2 S p n A).1 S)
    have ew : (Int32.ofNat (bnd (wai (relF 2 S p n A).1 S)) = 1) = (bnd (wai (relF 2 S p n A).1 S) = 1) := by rw [show (1 : Int32) = Int32.ofNat 1 from rfl, tn_eq (by omega) (by decide)]
    rw [hr]
    dsimp only
    rw [hw]
    have e11 : (Int32.ofNat 1 = 0) = False := eq_false (by decide)
    by_cases c5 : bnd (wai (relF 2 S p n A).1 S) = 1
    · rw [if_pos c5]
      refine QR_nZ (relF 2 S p n A).2.1 (relF 2 S p n A).2.2 (relF 2 S p n A).1 S g 0 0 ?_
      intro sc d y nx hd L st cu su l f t sp K
      refine kCA_of (d := d + 4) (v := some (.int 0)) (fun K => ?_)
      rw [km_47]
      show kWP sc (d + 4) 47 0 [.ref b, .int v, .retAddr 0] [] _ K = _
      simp only [e_X5_takesJoin_0, e_X5_takesJoin_1, e_X5_takesJoin_4, e_X5_takesJoin_7, e_X5_takesJoin_8, e_X5_takesJoin_9, e_X5_takesJoin_11, e_X5_takesJoin_12, e_X5_takesJoin_15, e_X5_takesJoin_16, e_X5_takesJoin_17, e_X5_takesJoin_18, e_X5_takesJoin_21, e_X5_takesJoin_22, e_X5_takesJoin_24, e_X5_takesJoin_27, e_X5_takesJoin_28, e_X5_takesJoin_31, e_X5_takesJoin_32, e_X5_takesJoin_35, e_X5_takesJoin_36, e_X5_takesJoin_37, e_X5_takesJoin_40, e_X5_takesJoin_41, e_X5_takesJoin_42, e_X5_takesJoin_45, e_X5_takesJoin_46, e_X5_takesJoin_47, e_X5_takesJoin_48, e_X5_takesJoin_49, e_X5_takesJoin_50, e_X5_takesJoin_53, e_X5_takesJoin_54, e_X5_takesJoin_57, e_X5_takesJoin_58, e_X5_takesJoin_61, e_X5_takesJoin_62, e_X5_takesJoin_63, e_X5_takesJoin_66, e_X5_takesJoin_67, e_X5_takesJoin_70, e_X5_takesJoin_73, e_X5_takesJoin_74, e_X5_takesJoin_77, e_X5_takesJoin_78, e_X5_takesJoin_79, e_X5_takesJoin_80, e_X5_takesJoin_83, e_X5_takesJoin_84, e_X5_takesJoin_85, e_X5_takesJoin_88, e_X5_takesJoin_89, e_X5_takesJoin_90, e_X5_takesJoin_93, e_X5_takesJoin_94, ob_rZ hf, kcl_i, kcl_r, kcl_l, kcl_0, kcl_n, true_and, and_true, c_isDigitZ, kb_0, c1', not_false_eq_true, if_true, z6, c2, if_false, q_bondZ, c4, e11, show (Int32.ofNat 1 = 1) = True from eq_true rfl, not_true_eq_false, show (2 : Int32) = Int32.ofNat 2 from rfl, q_releaseZ hf (show 1 ≤ 2 ∧ 2 ≤ 4 by decide) (show p + n ≤ 40 by omega), q_waitingZ hf (show (relF 2 S p n A).1 ≤ 40 by omega), c5, kbool_0, true_and, true_or, or_true]
    · rw [if_neg c5]
      refine QR_sZ (relF 2 S p n A).2.1 (relF 2 S p n A).2.2 ((relF 2 S p n A).1 + 1) (kuf S (relF 2 S p n A).1 (2000 + v)) (by omega) rfl SL_p hg (show (0 : Nat) ≤ 3 by decide) ?_
      intro sc d y nx hd L st cu su l f t sp K
      refine kCA_of (d := d + 4) (v := some (.int 1)) (fun K => ?_)
      rw [km_47]
      show kWP sc (d + 4) 47 0 [.ref b, .int v, .retAddr 0] [] _ K = _
      simp only [e_X5_takesJoin_0, e_X5_takesJoin_1, e_X5_takesJoin_4, e_X5_takesJoin_7, e_X5_takesJoin_8, e_X5_takesJoin_9, e_X5_takesJoin_11, e_X5_takesJoin_12, e_X5_takesJoin_15, e_X5_takesJoin_16, e_X5_takesJoin_17, e_X5_takesJoin_18, e_X5_takesJoin_21, e_X5_takesJoin_22, e_X5_takesJoin_24, e_X5_takesJoin_27, e_X5_takesJoin_28, e_X5_takesJoin_31, e_X5_takesJoin_32, e_X5_takesJoin_35, e_X5_takesJoin_36, e_X5_takesJoin_37, e_X5_takesJoin_40, e_X5_takesJoin_41, e_X5_takesJoin_42, e_X5_takesJoin_45, e_X5_takesJoin_46, e_X5_takesJoin_47, e_X5_takesJoin_48, e_X5_takesJoin_49, e_X5_takesJoin_50, e_X5_takesJoin_53, e_X5_takesJoin_54, e_X5_takesJoin_57, e_X5_takesJoin_58, e_X5_takesJoin_61, e_X5_takesJoin_62, e_X5_takesJoin_63, e_X5_takesJoin_66, e_X5_takesJoin_67, e_X5_takesJoin_70, e_X5_takesJoin_73, e_X5_takesJoin_74, e_X5_takesJoin_77, e_X5_takesJoin_78, e_X5_takesJoin_79, e_X5_takesJoin_80, e_X5_takesJoin_83, e_X5_takesJoin_84, e_X5_takesJoin_85, e_X5_takesJoin_88, e_X5_takesJoin_89, e_X5_takesJoin_90, e_X5_takesJoin_93, e_X5_takesJoin_94, ob_rZ hf, kcl_i, kcl_r, kcl_l, kcl_0, kcl_n, true_and, and_true, c_isDigitZ, kb_0, c1', not_false_eq_true, if_true, z6, c2, if_false, q_bondZ, c4, e11, show (Int32.ofNat 1 = 1) = True from eq_true rfl, not_true_eq_false, show (2 : Int32) = Int32.ofNat 2 from rfl, q_releaseZ hf (show 1 ≤ 2 ∧ 2 ≤ 4 by decide) (show p + n ≤ 40 by omega), q_waitingZ hf (show (relF 2 S p n A).1 ≤ 40 by omega), ew, c5, q_pushZ hf (show (relF 2 S p n A).1 < 40 by omega), qW_7, kbool_1, true_and, true_or, or_true]
      rfl
  · rw [if_neg c4]
    generalize hkb : bnd (2000 + v) = kb1 at c3 c4 hb4
    have hr := relF_L (k := kb1) (p := p) (S := S) (n := n) (A := A)
    have hle := @relF_le S kb1 p n A
    rw [hr]
    refine QR_sZ (relF kb1 S p n A).2.1 (relF kb1 S p n A).2.2 ((relF kb1 S p n A).1 + 1) (kuf S (relF kb1 S p n A).1 (2000 + v)) (by omega) rfl SL_p hg (show (0 : Nat) ≤ 3 by decide) ?_
    intro sc d y nx hd L st cu su l f t sp K
    refine kCA_of (d := d + 4) (v := some (.int 1)) (fun K => ?_)
    rw [km_47]
    show kWP sc (d + 4) 47 0 [.ref b, .int v, .retAddr 0] [] _ K = _
    have eb : (Int32.ofNat kb1 = 0) = False := by rw [tn_z (by omega)]; exact eq_false c3
    have eb1 : (Int32.ofNat kb1 = 1) = False := by rw [show (1 : Int32) = Int32.ofNat 1 from rfl, tn_eq (by omega) (by decide)]; exact eq_false c4
    simp only [e_X5_takesJoin_0, e_X5_takesJoin_1, e_X5_takesJoin_4, e_X5_takesJoin_7, e_X5_takesJoin_8, e_X5_takesJoin_9, e_X5_takesJoin_11, e_X5_takesJoin_12, e_X5_takesJoin_15, e_X5_takesJoin_16, e_X5_takesJoin_17, e_X5_takesJoin_18, e_X5_takesJoin_21, e_X5_takesJoin_22, e_X5_takesJoin_24, e_X5_takesJoin_27, e_X5_takesJoin_28, e_X5_takesJoin_31, e_X5_takesJoin_32, e_X5_takesJoin_35, e_X5_takesJoin_36, e_X5_takesJoin_37, e_X5_takesJoin_40, e_X5_takesJoin_41, e_X5_takesJoin_42, e_X5_takesJoin_45, e_X5_takesJoin_46, e_X5_takesJoin_47, e_X5_takesJoin_48, e_X5_takesJoin_49, e_X5_takesJoin_50, e_X5_takesJoin_53, e_X5_takesJoin_54, e_X5_takesJoin_57, e_X5_takesJoin_58, e_X5_takesJoin_61, e_X5_takesJoin_62, e_X5_takesJoin_63, e_X5_takesJoin_66, e_X5_takesJoin_67, e_X5_takesJoin_70, e_X5_takesJoin_73, e_X5_takesJoin_74, e_X5_takesJoin_77, e_X5_takesJoin_78, e_X5_takesJoin_79, e_X5_takesJoin_80, e_X5_takesJoin_83, e_X5_takesJoin_84, e_X5_takesJoin_85, e_X5_takesJoin_88, e_X5_takesJoin_89, e_X5_takesJoin_90, e_X5_takesJoin_93, e_X5_takesJoin_94, ob_rZ hf, kcl_i, kcl_r, kcl_l, kcl_0, kcl_n, true_and, and_true, c_isDigitZ, kb_0, c1', not_false_eq_true, if_true, z6, c2, if_false, q_bondZ, hkb, eb, eb1, q_releaseZ hf (show 1 ≤ kb1 ∧ kb1 ≤ 4 by omega) (show p + n ≤ 40 by omega), q_pushZ hf (show (relF kb1 S p n A).1 < 40 by omega), qW_7, kbool_1, true_and, true_or, or_true]
    rfl
end TC
section TC
variable {sc : Nat × (Nat → Int32)} {d y nx : Nat} {hd : List (Int × Nat)} {L st : List Value} {S : kS} {cu su : Nat} {i : Nat → Nat → Int32} {l : Nat → Nat → Int64} {f t c b m : Nat} {sp : Nat → Nat} {K : Option (Option Value) → kS → Prop}
variable {N M Z S1 Q A S A2 S2 : Nat → Int32} {n n2 k x a o g c h p to : Nat} {v r q u : Int32} {T : Nat → Int32}
theorem q_signsZ (hf : kRc b = true) (hn : i 1 1 = Int32.ofNat n2) (h80 : n2 ≤ 80) (hT : ∀ x, x < n2 → i 2 x = T x) (hto : to ≤ n2 ∧ to ≤ 40) : ∀ k s, k ≤ to → goL T k 0 ([], [], 0, 0, true) = some s → ∃ n A p S, n + p ≤ k ∧ SL n A = s.1 ∧ SL p S = s.2.1 ∧ s.2.2.1 ≤ 4 ∧ s.2.2.2.1 ≤ 3 ∧ ∀ (sc : Nat × (Nat → Int32)) (d cu su : Nat) (l : Nat → Nat → Int64) (f t : Nat) (sp : Nat → Nat) (K : Option (Option Value) → kS → Prop) (v3 : Value), ∃ v3' : Value, kWP sc (d + 5) 44 40 [.ref b, .int (Int32.ofNat to), .int (Int32.ofNat 0), v3] [] ((91, cu, su), qP i b 0 (i (b + 1)) 0 (i (b + 2)) 0 0 1, l, kR f t sp) K = kWP sc (d + 5) 44 40 [.ref b, .int (Int32.ofNat to), .int (Int32.ofNat k), v3'] [] ((91, cu, su), qP i b n A p S s.2.2.1 s.2.2.2.1 (fb s.2.2.2.2), l, kR f t sp) K := by
  intro k
  induction k with
  | zero =>
    intro s _ hs
    cases hs
    exact ⟨0, i (b + 1), 0, i (b + 2), Nat.le_refl _, rfl, rfl, by decide, by decide, fun sc d cu su l f t sp K v3 => ⟨v3, rfl⟩⟩
  | succ k ih =>
    intro s hk hs
    cases e0 : goL T k 0 ([], [], 0, 0, true) with
    | none =>
      exfalso
      have : ∀ (k x : Nat) (s : LT), goL T k x s = none → goL T (k + 1) x s = none := by
        intro k
        induction k with
        | zero => intro x s h; cases h
        | succ k ih =>
          intro x s h
          have h' : (match stepL s (T x) with | none => none | some s2 => goL T k (x + 1) s2) = none := h
          show (match stepL s (T x) with | none => none | some s2 => goL T (k + 1) (x + 1) s2) = none
          cases e : stepL s (T x) with
          | none => rfl
          | some s2 => rw [e] at h'; exact ih _ _ h'
      rw [this k 0 _ e0] at hs; cases hs
    | some s1 =>
      have hs2 := goL_add (c := 1) (s := ([], [], 0, 0, true)) e0
      rw [hs, Nat.zero_add] at hs2
      have hst : stepL s1 (T k) = some s := by
        have : (match stepL s1 (T k) with | none => none | some s2 => goL T 0 (k + 1) s2) = some s := hs2.symm
        cases e : stepL s1 (T k) with
        | none => rw [e] at this; cases this
        | some s2 => rw [e] at this; exact this
      obtain ⟨n, A, p, S, g1, g2, g3, g4, g5, g6⟩ := ih s1 (by omega) e0
      obtain ⟨w, st1, g, h, u⟩ := s1
      dsimp only at g2 g3 g4 g5 g6
      subst g2; subst g3
      have hA : tA T n2 k = T k := by unfold tA; rw [if_pos (by omega)]
      have q := fun n A p S g h u => (show qP i b n A p S g h u 1 1 = Int32.ofNat n2 by rw [qP_lo hf (by decide)]; exact hn)
      have qT := fun n A p S g h u => (show ∀ x, x < n2 → qP i b n A p S g h u 2 x = T x by rw [qP_lo hf (by decide)]; exact hT)
      cases u with
      | true =>
        have hq := (q_partZ (i := i) (b := b) (n := n) (A := A) (p := p) (S := S) (g := g) (h := h) (v := T k) hf (by omega) g4 g5).1 s hst
        obtain ⟨n', A', p', S', a1, a2, a3, a4, a5, a6⟩ := hq
        refine ⟨n', A', p', S', by omega, a2, a3, a4, a5, fun sc d cu su l f t sp K v3 => ?_⟩
        obtain ⟨v3', e⟩ := g6 sc d cu su l f t sp K v3
        refine ⟨.int (T k), e.trans ?_⟩
        refine e_X5_read_40.trans ?_
        simp only [e_X5_read_0, e_X5_read_1, e_X5_read_2, e_X5_read_5, e_X5_read_6, e_X5_read_7, e_X5_read_10, e_X5_read_11, e_X5_read_12, e_X5_read_15, e_X5_read_16, e_X5_read_17, e_X5_read_20, e_X5_read_21, e_X5_read_22, e_X5_read_25, e_X5_read_26, e_X5_read_29, e_X5_read_32, e_X5_read_34, e_X5_read_37, e_X5_read_38, e_X5_read_39, e_X5_read_41, e_X5_read_42, e_X5_read_45, e_X5_read_46, e_X5_read_49, e_X5_read_50, e_X5_read_53, e_X5_read_54, e_X5_read_55, e_X5_read_58, e_X5_read_61, e_X5_read_62, e_X5_read_63, e_X5_read_66, e_X5_read_69, e_X5_read_72, e_X5_read_73, e_X5_read_74, e_X5_read_77, e_X5_read_80, e_X5_read_81, e_X5_read_82, e_X5_read_85, e_X5_read_88, e_X5_read_89, e_X5_read_92, e_X5_read_95, e_X5_read_96, e_X5_read_99, e_X5_read_102, e_X5_read_103, e_X5_read_106, e_X5_read_109, e_X5_read_111, e_X5_read_114, e_X5_read_115, e_X5_read_116, e_X5_read_117, e_X5_read_118, e_X5_read_121, e_X5_read_122, ob_rZ hf, rk_r0 hf, ob_1Z, kcl_i, kcl_r, kcl_l, kcl_0, kcl_n, true_and, and_true, jpF (show k < to by omega) (by omega), if_false, c_atNZ (q n A p S g h _) h80 (qT n A p S g h _) (show k < 100000 by omega), hA, qP_7, fb_t, z10, a6 sc d, tn_s]
      | false =>
        have hq := (q_joinZ (i := i) (b := b) (n := n) (A := A) (p := p) (S := S) (g := g) (h := h) (v := T k) hf (by omega) g4 g5).1 s hst
        obtain ⟨n', A', p', S', a1, a2, a3, a4, a5, a6⟩ := hq
        refine ⟨n', A', p', S', by omega, a2, a3, a4, a5, fun sc d cu su l f t sp K v3 => ?_⟩
        obtain ⟨v3', e⟩ := g6 sc d cu su l f t sp K v3
        refine ⟨.int (T k), e.trans ?_⟩
        refine e_X5_read_40.trans ?_
        simp only [e_X5_read_0, e_X5_read_1, e_X5_read_2, e_X5_read_5, e_X5_read_6, e_X5_read_7, e_X5_read_10, e_X5_read_11, e_X5_read_12, e_X5_read_15, e_X5_read_16, e_X5_read_17, e_X5_read_20, e_X5_read_21, e_X5_read_22, e_X5_read_25, e_X5_read_26, e_X5_read_29, e_X5_read_32, e_X5_read_34, e_X5_read_37, e_X5_read_38, e_X5_read_39, e_X5_read_41, e_X5_read_42, e_X5_read_45, e_X5_read_46, e_X5_read_49, e_X5_read_50, e_X5_read_53, e_X5_read_54, e_X5_read_55, e_X5_read_58, e_X5_read_61, e_X5_read_62, e_X5_read_63, e_X5_read_66, e_X5_read_69, e_X5_read_72, e_X5_read_73, e_X5_read_74, e_X5_read_77, e_X5_read_80, e_X5_read_81, e_X5_read_82, e_X5_read_85, e_X5_read_88, e_X5_read_89, e_X5_read_92, e_X5_read_95, e_X5_read_96, e_X5_read_99, e_X5_read_102, e_X5_read_103, e_X5_read_106, e_X5_read_109, e_X5_read_111, e_X5_read_114, e_X5_read_115, e_X5_read_116, e_X5_read_117, e_X5_read_118, e_X5_read_121, e_X5_read_122, ob_rZ hf, rk_r0 hf, ob_1Z, kcl_i, kcl_r, kcl_l, kcl_0, kcl_n, true_and, and_true, jpF (show k < to by omega) (by omega), if_false, c_atNZ (q n A p S g h _) h80 (qT n A p S g h _) (show k < 100000 by omega), hA, qP_7, fb_f, if_true, z10, a6 sc d, tn_s]
def QQZ (b : Nat) (i : Nat → Nat → Int32) (r : Int32) (n : Nat) (A : Nat → Int32) (p : Nat) (S : Nat → Int32) (g h : Nat) (u : Int32) : Prop :=
  ∀ (sc : Nat × (Nat → Int32)) (d y nx : Nat) (hd : List (Int × Nat)) (L st : List Value) (cu su : Nat) (l : Nat → Nat → Int64) (f t : Nat) (sp : Nat → Nat) (K : Option (Option Value) → kS → Prop), kCA sc (d + 6) 44 [.ref b] y nx hd L st ((91, cu, su), i, l, kR f t sp) K = kWP sc (d + 6) y nx L (.int r :: st) ((91, cu, su), qP i b n A p S g h u, l, kR f t sp) K
theorem q_readZ (hf : kRc b = true) (hn : i 1 1 = Int32.ofNat n2) (h80 : n2 ≤ 80) (hT : ∀ x, x < n2 → i 2 x = T x) (hto : to = min n2 40) :
    (∀ z s, z < to → goL T z 0 ([], [], 0, 0, true) = some s → stepL s (T z) = none → ∃ n A p S g h u, QQZ b i (Int32.ofNat z) n A p S g h u) ∧
    (∀ s, goL T to 0 ([], [], 0, 0, true) = some s → (s.2.2.2.2 = true ∨ 0 < s.2.2.1 ∨ 40 < n2) → ∃ n A p S g h u, QQZ b i (Int32.ofNat to) n A p S g h u) ∧
    (∀ s, goL T to 0 ([], [], 0, 0, true) = some s → s.2.2.2.2 = false → s.2.2.1 = 0 → n2 ≤ 40 → ∃ n A p S g h u, n ≤ 40 ∧ SL n A = (rel 1 s.2.1 s.1).2 ∧ QQZ b i (-1) n A p S g h u) := by
  have hto' : to ≤ n2 ∧ to ≤ 40 := by omega
  have emin : (if (40 : Int32) < Int32.ofNat n2 then (40 : Int32) else Int32.ofNat n2) = Int32.ofNat to := by
    rw [show (40 : Int32) = Int32.ofNat 40 from rfl]
    by_cases c : 40 < n2
    · rw [if_pos (by rw [tn_lt (by decide) (by omega)]; exact c), hto, Nat.min_eq_right (by omega)]
    · rw [if_neg (by rw [tn_lt (by decide) (by omega)]; exact c), hto, Nat.min_eq_left (by omega)]
  have q := fun n A p S g h u => (show qP i b n A p S g h u 1 1 = Int32.ofNat n2 by rw [qP_lo hf (by decide)]; exact hn)
  have qT := fun n A p S g h u => (show ∀ x, x < n2 → qP i b n A p S g h u 2 x = T x by rw [qP_lo hf (by decide)]; exact hT)
  have start : ∀ (sc : Nat × (Nat → Int32)) (d cu su : Nat) (l : Nat → Nat → Int64) (f t : Nat) (sp : Nat → Nat) (K : Option (Option Value) → kS → Prop), kWP sc (d + 5) 44 0 [.ref b, .retAddr 0, .retAddr 0, .retAddr 0] [] ((91, cu, su), i, l, kR f t sp) K = kWP sc (d + 5) 44 40 [.ref b, .int (Int32.ofNat to), .int (Int32.ofNat 0), .retAddr 0] [] ((91, cu, su), qP i b 0 (i (b + 1)) 0 (i (b + 2)) 0 0 1, l, kR f t sp) K := by
    intro sc d cu su l f t sp K
    simp only [e_X5_read_0, e_X5_read_1, e_X5_read_2, e_X5_read_5, e_X5_read_6, e_X5_read_7, e_X5_read_10, e_X5_read_11, e_X5_read_12, e_X5_read_15, e_X5_read_16, e_X5_read_17, e_X5_read_20, e_X5_read_21, e_X5_read_22, e_X5_read_25, e_X5_read_26, e_X5_read_29, e_X5_read_32, e_X5_read_34, e_X5_read_37, e_X5_read_38, e_X5_read_39, e_X5_read_41, e_X5_read_42, e_X5_read_45, e_X5_read_46, e_X5_read_49, e_X5_read_50, e_X5_read_53, e_X5_read_54, e_X5_read_55, e_X5_read_58, e_X5_read_61, e_X5_read_62, e_X5_read_63, e_X5_read_66, e_X5_read_69, e_X5_read_72, e_X5_read_73, e_X5_read_74, e_X5_read_77, e_X5_read_80, e_X5_read_81, e_X5_read_82, e_X5_read_85, e_X5_read_88, e_X5_read_89, e_X5_read_92, e_X5_read_95, e_X5_read_96, e_X5_read_99, e_X5_read_102, e_X5_read_103, e_X5_read_106, e_X5_read_109, e_X5_read_111, e_X5_read_114, e_X5_read_115, e_X5_read_116, e_X5_read_117, e_X5_read_118, e_X5_read_121, e_X5_read_122, ob_rZ hf, rk_r0 hf, ob_1Z, kcl_i, kcl_r, kcl_l, kcl_0, kcl_n, true_and, and_true, qP_in, q, emin, or_true]
    rfl
  have e40 : (Int32.ofNat n2 ≤ 40) = (n2 ≤ 40) := by rw [show (40 : Int32) = Int32.ofNat 40 from rfl, tn_le (by omega) (by decide)]
  refine ⟨fun z s hz hs hb => ?_, fun s hs hE => ?_, fun s hs hu hg h40 => ?_⟩
  · obtain ⟨n, A, p, S, g1, g2, g3, g4, g5, g6⟩ := q_signsZ hf hn h80 hT hto' z s (by omega) hs
    obtain ⟨w, st1, g, h, u⟩ := s
    dsimp only at g2 g3 g4 g5 g6
    subst g2; subst g3
    have hA : tA T n2 z = T z := by unfold tA; rw [if_pos (by omega)]
    cases u with
    | true =>
      obtain ⟨n', A', p', S', g', h', u', a6⟩ := (q_partZ (i := i) (b := b) (n := n) (A := A) (p := p) (S := S) (g := g) (h := h) (v := T z) hf (by omega) g4 g5).2 hb
      refine ⟨n', A', p', S', g', h', u', fun sc d y nx hd L st cu su l f t sp K => ?_⟩
      refine kCA_of (d := d + 5) (v := some (.int (Int32.ofNat z))) (fun K => ?_)
      rw [km_44]
      show kWP sc (d + 5) 44 0 [.ref b, .retAddr 0, .retAddr 0, .retAddr 0] [] _ K = _
      obtain ⟨v3', e⟩ := g6 sc d cu su l f t sp K (.retAddr 0)
      rw [start, e]
      refine e_X5_read_40.trans ?_
      simp only [e_X5_read_0, e_X5_read_1, e_X5_read_2, e_X5_read_5, e_X5_read_6, e_X5_read_7, e_X5_read_10, e_X5_read_11, e_X5_read_12, e_X5_read_15, e_X5_read_16, e_X5_read_17, e_X5_read_20, e_X5_read_21, e_X5_read_22, e_X5_read_25, e_X5_read_26, e_X5_read_29, e_X5_read_32, e_X5_read_34, e_X5_read_37, e_X5_read_38, e_X5_read_39, e_X5_read_41, e_X5_read_42, e_X5_read_45, e_X5_read_46, e_X5_read_49, e_X5_read_50, e_X5_read_53, e_X5_read_54, e_X5_read_55, e_X5_read_58, e_X5_read_61, e_X5_read_62, e_X5_read_63, e_X5_read_66, e_X5_read_69, e_X5_read_72, e_X5_read_73, e_X5_read_74, e_X5_read_77, e_X5_read_80, e_X5_read_81, e_X5_read_82, e_X5_read_85, e_X5_read_88, e_X5_read_89, e_X5_read_92, e_X5_read_95, e_X5_read_96, e_X5_read_99, e_X5_read_102, e_X5_read_103, e_X5_read_106, e_X5_read_109, e_X5_read_111, e_X5_read_114, e_X5_read_115, e_X5_read_116, e_X5_read_117, e_X5_read_118, e_X5_read_121, e_X5_read_122, ob_rZ hf, rk_r0 hf, ob_1Z, kcl_i, kcl_r, kcl_l, kcl_0, kcl_n, true_and, and_true, jpF (show z < to by omega) (by omega), if_false, c_atNZ (q n A p S g h _) h80 (qT n A p S g h _) (show z < 100000 by omega), hA, qP_7, fb_t, z10, a6 sc d, if_true]
    | false =>
      obtain ⟨n', A', p', S', g', h', u', a6⟩ := (q_joinZ (i := i) (b := b) (n := n) (A := A) (p := p) (S := S) (g := g) (h := h) (v := T z) hf (by omega) g4 g5).2 hb
      refine ⟨n', A', p', S', g', h', u', fun sc d y nx hd L st cu su l f t sp K => ?_⟩
      refine kCA_of (d := d + 5) (v := some (.int (Int32.ofNat z))) (fun K => ?_)
      rw [km_44]
      show kWP sc (d + 5) 44 0 [.ref b, .retAddr 0, .retAddr 0, .retAddr 0] [] _ K = _
      obtain ⟨v3', e⟩ := g6 sc d cu su l f t sp K (.retAddr 0)
      rw [start, e]
      refine e_X5_read_40.trans ?_
      simp only [e_X5_read_0, e_X5_read_1, e_X5_read_2, e_X5_read_5, e_X5_read_6, e_X5_read_7, e_X5_read_10, e_X5_read_11, e_X5_read_12, e_X5_read_15, e_X5_read_16, e_X5_read_17, e_X5_read_20, e_X5_read_21, e_X5_read_22, e_X5_read_25, e_X5_read_26, e_X5_read_29, e_X5_read_32, e_X5_read_34, e_X5_read_37, e_X5_read_38, e_X5_read_39, e_X5_read_41, e_X5_read_42, e_X5_read_45, e_X5_read_46, e_X5_read_49, e_X5_read_50, e_X5_read_53, e_X5_read_54, e_X5_read_55, e_X5_read_58, e_X5_read_61, e_X5_read_62, e_X5_read_63, e_X5_read_66, e_X5_read_69, e_X5_read_72, e_X5_read_73, e_X5_read_74, e_X5_read_77, e_X5_read_80, e_X5_read_81, e_X5_read_82, e_X5_read_85, e_X5_read_88, e_X5_read_89, e_X5_read_92, e_X5_read_95, e_X5_read_96, e_X5_read_99, e_X5_read_102, e_X5_read_103, e_X5_read_106, e_X5_read_109, e_X5_read_111, e_X5_read_114, e_X5_read_115, e_X5_read_116, e_X5_read_117, e_X5_read_118, e_X5_read_121, e_X5_read_122, ob_rZ hf, rk_r0 hf, ob_1Z, kcl_i, kcl_r, kcl_l, kcl_0, kcl_n, true_and, and_true, jpF (show z < to by omega) (by omega), if_false, c_atNZ (q n A p S g h _) h80 (qT n A p S g h _) (show z < 100000 by omega), hA, qP_7, fb_f, if_true, a6 sc d]
  · obtain ⟨n, A, p, S, g1, g2, g3, g4, g5, g6⟩ := q_signsZ hf hn h80 hT hto' to s (Nat.le_refl _) hs
    obtain ⟨w, st1, g, h, u⟩ := s
    dsimp only at g2 g3 g4 g5 g6 hE
    refine ⟨n, A, p, S, g, h, fb u, fun sc d y nx hd L st cu su l f t sp K => ?_⟩
    refine kCA_of (d := d + 5) (v := some (.int (Int32.ofNat to))) (fun K => ?_)
    rw [km_44]
    show kWP sc (d + 5) 44 0 [.ref b, .retAddr 0, .retAddr 0, .retAddr 0] [] _ K = _
    obtain ⟨v3', e⟩ := g6 sc d cu su l f t sp K (.retAddr 0)
    rw [start, e]
    refine e_X5_read_40.trans ?_
    simp only [e_X5_read_0, e_X5_read_1, e_X5_read_2, e_X5_read_5, e_X5_read_6, e_X5_read_7, e_X5_read_10, e_X5_read_11, e_X5_read_12, e_X5_read_15, e_X5_read_16, e_X5_read_17, e_X5_read_20, e_X5_read_21, e_X5_read_22, e_X5_read_25, e_X5_read_26, e_X5_read_29, e_X5_read_32, e_X5_read_34, e_X5_read_37, e_X5_read_38, e_X5_read_39, e_X5_read_41, e_X5_read_42, e_X5_read_45, e_X5_read_46, e_X5_read_49, e_X5_read_50, e_X5_read_53, e_X5_read_54, e_X5_read_55, e_X5_read_58, e_X5_read_61, e_X5_read_62, e_X5_read_63, e_X5_read_66, e_X5_read_69, e_X5_read_72, e_X5_read_73, e_X5_read_74, e_X5_read_77, e_X5_read_80, e_X5_read_81, e_X5_read_82, e_X5_read_85, e_X5_read_88, e_X5_read_89, e_X5_read_92, e_X5_read_95, e_X5_read_96, e_X5_read_99, e_X5_read_102, e_X5_read_103, e_X5_read_106, e_X5_read_109, e_X5_read_111, e_X5_read_114, e_X5_read_115, e_X5_read_116, e_X5_read_117, e_X5_read_118, e_X5_read_121, e_X5_read_122, ob_rZ hf, rk_r0 hf, ob_1Z, kcl_i, kcl_r, kcl_l, kcl_0, kcl_n, true_and, and_true, Int32.le_refl, if_true, qP_7, qP_5, q, e40]
    cases u with
    | true => simp only [fb_t, z10, if_false]
    | false =>
      by_cases c1 : 0 < g
      · have : ((0 : Int32) < Int32.ofNat g) = True := by rw [show (0 : Int32) = Int32.ofNat 0 from rfl, tn_lt (by decide) (by omega)]; exact eq_true c1
        simp only [fb_f, if_true, this]
      · have : ((0 : Int32) < Int32.ofNat g) = False := by rw [show (0 : Int32) = Int32.ofNat 0 from rfl, tn_lt (by decide) (by omega)]; exact eq_false c1
        have h3 : (n2 ≤ 40) = False := eq_false (by rcases hE with z | z | z; cases z; omega; omega)
        simp only [fb_f, if_true, this, if_false, h3]
  · obtain ⟨n, A, p, S, g1, g2, g3, g4, g5, g6⟩ := q_signsZ hf hn h80 hT hto' to s (Nat.le_refl _) hs
    obtain ⟨w, st1, g, h, u⟩ := s
    dsimp only at g2 g3 g4 g5 g6 hu hg
    subst hu; subst hg; subst g2; subst g3
    have hr := relF_L (k := 1) (p := p) (S := S) (n := n) (A := A)
    have hle := @relF_le S 1 p n A
    refine ⟨(relF 1 S p n A).2.1, (relF 1 S p n A).2.2, (relF 1 S p n A).1, S, 0, h, 0, by omega, by rw [hr], fun sc d y nx hd L st cu su l f t sp K => ?_⟩
    refine kCA_of (d := d + 5) (v := some (.int (-1))) (fun K => ?_)
    rw [km_44]
    show kWP sc (d + 5) 44 0 [.ref b, .retAddr 0, .retAddr 0, .retAddr 0] [] _ K = _
    obtain ⟨v3', e⟩ := g6 sc d cu su l f t sp K (.retAddr 0)
    rw [start, e]
    refine e_X5_read_40.trans ?_
    have rl := fun (y nx : Nat) (L st : List Value) (hd : List (Int × Nat)) (K : Option (Option Value) → kS → Prop) => q_releaseZ (sc := sc) (d := d + 3) (y := y) (nx := nx) (hd := hd) (L := L) (st := st) (cu := cu) (su := su) (i := i) (l := l) (f := f) (t := t) (sp := sp) (K := K) (b := b) (n := n) (A := A) (p := p) (S := S) (g := 0) (h := h) (u := 0) (k := 1) hf (show 1 ≤ 1 ∧ 1 ≤ 4 by decide) (show p + n ≤ 40 by omega)
    simp only [show Int32.ofNat 1 = (1 : Int32) from rfl] at rl
    simp only [e_X5_read_0, e_X5_read_1, e_X5_read_2, e_X5_read_5, e_X5_read_6, e_X5_read_7, e_X5_read_10, e_X5_read_11, e_X5_read_12, e_X5_read_15, e_X5_read_16, e_X5_read_17, e_X5_read_20, e_X5_read_21, e_X5_read_22, e_X5_read_25, e_X5_read_26, e_X5_read_29, e_X5_read_32, e_X5_read_34, e_X5_read_37, e_X5_read_38, e_X5_read_39, e_X5_read_41, e_X5_read_42, e_X5_read_45, e_X5_read_46, e_X5_read_49, e_X5_read_50, e_X5_read_53, e_X5_read_54, e_X5_read_55, e_X5_read_58, e_X5_read_61, e_X5_read_62, e_X5_read_63, e_X5_read_66, e_X5_read_69, e_X5_read_72, e_X5_read_73, e_X5_read_74, e_X5_read_77, e_X5_read_80, e_X5_read_81, e_X5_read_82, e_X5_read_85, e_X5_read_88, e_X5_read_89, e_X5_read_92, e_X5_read_95, e_X5_read_96, e_X5_read_99, e_X5_read_102, e_X5_read_103, e_X5_read_106, e_X5_read_109, e_X5_read_111, e_X5_read_114, e_X5_read_115, e_X5_read_116, e_X5_read_117, e_X5_read_118, e_X5_read_121, e_X5_read_122, ob_rZ hf, rk_r0 hf, ob_1Z, kcl_i, kcl_r, kcl_l, kcl_0, kcl_n, true_and, and_true, Int32.le_refl, if_true, qP_7, qP_5, q, e40, fb_f, show ((0 : Int32) < Int32.ofNat 0) = False from eq_false (by decide), if_false, h40, rl]
end TC
section TC
variable {sc : Nat × (Nat → Int32)} {d y nx : Nat} {hd : List (Int × Nat)} {L st : List Value} {S : kS} {cu su : Nat} {i : Nat → Nat → Int32} {l : Nat → Nat → Int64} {f t c b m : Nat} {sp : Nat → Nat} {K : Option (Option Value) → kS → Prop}
variable {N M Z S1 Q A S C C' C1 acts acts2 code code2 C0 : Nat → Int32} {n n2 k x a o g c h p to x' g' c' r x1 g1 c1 e n1 : Nat} {v q u : Int32} {T : Nat → Int32} {w s σ : List Int32} {v3 : Value} {i0 j : Nat → Nat → Int32}
theorem c_tell1Z (hn : i 1 1 = 0) : ∃ X : Nat → Int32, (∀ x, x < 7 → X x = kchr 1000000 x) ∧ ∀ (sc : Nat × (Nat → Int32)) (d y nx : Nat) (hd : List (Int × Nat)) (L st : List Value) (cu su : Nat) (l : Nat → Nat → Int64) (f t : Nat) (sp : Nat → Nat) (K : Option (Option Value) → kS → Prop), kCA sc (d + 2) 89 [.ref 1, .ref 1000000] y nx hd L st ((91, cu, su), i, l, kR f t sp) K = kWP sc (d + 2) y nx L st ((91, cu, su), xPut i (7, X), l, kR f t sp) K := by
  have R := kfo_inv (n := 7) (a := ((0, i 2) : Nat × (Nat → Int32))) (g := fun x X => qPut X (kchr 1000000 x)) (I := fun x X => X.1 = x ∧ ∀ z, z < x → X.2 z = kchr 1000000 z) (fun x X hx hX => by
    obtain ⟨h1, h2⟩ := hX
    unfold qPut
    rw [if_neg (by omega)]
    refine ⟨by dsimp only; omega, fun z hz => ?_⟩
    show kuf X.2 X.1 _ z = _
    by_cases e : z = X.1
    · rw [e, kuf_s, h1, first_chr x hx]
    · rw [kuf_n e]; exact h2 z (by omega)) ⟨rfl, fun z hz => absurd hz (Nat.not_lt_zero z)⟩
  refine ⟨(kfo (fun x X => qPut X (kchr 1000000 x)) 7 ((0, i 2) : Nat × (Nat → Int32))).2, R.2, fun sc d y nx hd L st cu su l f t sp K => ?_⟩
  have e7 : ((7, (kfo (fun x X => qPut X (kchr 1000000 x)) 7 ((0, i 2) : Nat × (Nat → Int32))).2) : Nat × (Nat → Int32)) = kfo (fun x X => qPut X (kchr 1000000 x)) 7 ((0, i 2) : Nat × (Nat → Int32)) := Prod.ext R.1.symm rfl
  rw [e7]
  have i0 : xPut i (0, i 2) = i := by
    have := @xP_g i
    have e : xGet i = (0, i 2) := by unfold xGet; rw [hn]; rfl
    rw [e] at this; exact this
  have s0 := str0
  have P := k_forI (P := fun x (X : Nat × (Nat → Int32)) => ∀ K, kWP sc (d + 1) 89 2 [.ref 1, .ref 1000000, .int (Int32.ofNat 0)] [] ((91, cu, su), i, l, kR f t sp) K = kWP sc (d + 1) 89 2 [.ref 1, .ref 1000000, .int (Int32.ofNat x)] [] ((91, cu, su), xPut i X, l, kR f t sp) K) (n := 7) (I := fun x X => X.1 = x) (g := fun x X => qPut X (kchr 1000000 x)) (fun x X hx hX => by
    have hX' : X.1 = x := hX
    refine ⟨?_, ?_⟩
    · apply propext
      have st : ∀ K, kWP sc (d + 1) 89 2 [.ref 1, .ref 1000000, .int (Int32.ofNat x)] [] ((91, cu, su), xPut i X, l, kR f t sp) K = kWP sc (d + 1) 89 2 [.ref 1, .ref 1000000, .int (Int32.ofNat (x + 1))] [] ((91, cu, su), xPut i (qPut X (kchr 1000000 x)), l, kR f t sp) K := by
        intro K
        have kx : kin (Int32.ofNat x) (kstl 1000000) = True := by rw [s0.2, tn_kin (by omega)]; exact eq_true hx
        refine e_X9_tell_2.trans ?_
        simp only [e_X9_tell_0, e_X9_tell_1, e_X9_tell_3, e_X9_tell_7, e_X9_tell_10, e_X9_tell_11, e_X9_tell_12, e_X9_tell_13, e_X9_tell_16, e_X9_tell_19, e_X9_tell_22, e_X9_tell_25, ob_1Z, kcl_i, kcl_r, kcl_l, kcl_0, kcl_n, true_and, and_true, e_X9_tell_4 s0.1 s0.2, jpF hx (by decide), if_false, kx, cl_n (show x < 100000 by omega), c_putZ (show X.1 ≤ 80 by omega), tn_s, true_and]
      constructor
      · intro h K; rw [h K, st K]
      · intro h K; rw [h K, st K]
    · show (qPut X (kchr 1000000 x)).1 = x + 1
      unfold qPut; rw [if_neg (by omega)]; dsimp only; omega) (0, i 2) rfl
  refine kCA_of (d := d + 1) (v := none) (fun K => ?_)
  rw [km_89]
  show kWP sc (d + 1) 89 0 [.ref 1, .ref 1000000, .retAddr 0] [] _ K = _
  have P1 := P.1
  have h0 : (∀ K, kWP sc (d + 1) 89 2 [.ref 1, .ref 1000000, .int (Int32.ofNat 0)] [] ((91, cu, su), i, l, kR f t sp) K = kWP sc (d + 1) 89 2 [.ref 1, .ref 1000000, .int (Int32.ofNat 0)] [] ((91, cu, su), xPut i (0, i 2), l, kR f t sp) K) := fun K => by rw [i0]
  have P2 := (cast P1 h0) K
  simp only [e_X9_tell_0, e_X9_tell_1, e_X9_tell_3, e_X9_tell_7, e_X9_tell_10, e_X9_tell_11, e_X9_tell_12, e_X9_tell_13, e_X9_tell_16, e_X9_tell_19, e_X9_tell_22, e_X9_tell_25, ob_1Z, kcl_i, kcl_r, kcl_l, kcl_0, kcl_n, true_and, and_true]
  refine P2.trans ?_
  refine e_X9_tell_2.trans ?_
  simp only [e_X9_tell_0, e_X9_tell_1, e_X9_tell_3, e_X9_tell_7, e_X9_tell_10, e_X9_tell_11, e_X9_tell_12, e_X9_tell_13, e_X9_tell_16, e_X9_tell_19, e_X9_tell_22, e_X9_tell_25, ob_1Z, kcl_i, kcl_r, kcl_l, kcl_0, kcl_n, true_and, and_true, e_X9_tell_4 s0.1 s0.2, Int32.le_refl, if_true]
end TC
