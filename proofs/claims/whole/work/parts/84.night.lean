/-! a Night as a row of 25 (as the reference has it), and what its methods do to it -/
section TC
variable {sc : Nat × (Nat → Int32)} {d y nx : Nat} {hd : List (Int × Nat)} {L st : List Value} {S : kS} {cu su : Nat} {i : Nat → Nat → Int32} {l : Nat → Nat → Int64} {f t c b m : Nat} {sp : Nat → Nat} {K : Option (Option Value) → kS → Prop}
variable {N : Nat → Int32}
def kuf (N : Nat → Int32) (k : Nat) (v : Int32) : Nat → Int32 := fun j => if j = k then v else N j
theorem kuf_s {k : Nat} {v : Int32} : kuf N k v k = v := by simp [kuf]
theorem kuf_n {k j : Nat} {v : Int32} (h : j ≠ k) : kuf N k v j = N j := by simp [kuf, h]
def nIx (j : Nat) : Nat := match j with | 0 => 17 | 1 => 18 | 2 => 19 | 3 => 20 | 4 => 21 | 5 => 16 | 6 => 22 | _ => 24
def nPut (i : Nat → Nat → Int32) (c : Nat) (N : Nat → Int32) : Nat → Nat → Int32 := fun b j => if b = c ∧ j < 8 then N (nIx j) else if b = c + 1 ∧ j < 8 then N j else if b = c + 2 ∧ j < 8 then N (8 + j) else i b j
def nGet (i : Nat → Nat → Int32) (c : Nat) : Nat → Int32 := fun k => if k < 8 then i (c + 1) k else if k < 16 then i (c + 2) (k - 8) else match k with | 16 => i c 5 | 17 => i c 0 | 18 => i c 1 | 19 => i c 2 | 20 => i c 3 | 21 => i c 4 | 22 => i c 6 | 24 => i c 7 | _ => 0
theorem nIx_ge {j : Nat} : 16 ≤ nIx j := by unfold nIx; split <;> decide
theorem nIx_lt {j : Nat} : nIx j < 25 := by unfold nIx; split <;> decide
theorem nIx_23 {j : Nat} : nIx j ≠ 23 := by unfold nIx; split <;> decide
theorem nIx_inj {j k : Nat} (hj : j < 8) (hk : k < 8) : nIx j = nIx k ↔ j = k := by
  have := (show ∀ j, j < 8 → ∀ k, k < 8 → (nIx j = nIx k ↔ j = k) from by decide) j hj k hk; exact this
theorem nP_f {k : Nat} (hk : k < 8) : nPut i c N c k = N (nIx k) := by simp [nPut, hk]
theorem nP_0 : nPut i c N c 0 = N 17 := nP_f (by decide)
theorem nP_1 : nPut i c N c 1 = N 18 := nP_f (by decide)
theorem nP_2 : nPut i c N c 2 = N 19 := nP_f (by decide)
theorem nP_3 : nPut i c N c 3 = N 20 := nP_f (by decide)
theorem nP_4 : nPut i c N c 4 = N 21 := nP_f (by decide)
theorem nP_5 : nPut i c N c 5 = N 16 := nP_f (by decide)
theorem nP_6 : nPut i c N c 6 = N 22 := nP_f (by decide)
theorem nP_7 : nPut i c N c 7 = N 24 := nP_f (by decide)
theorem nP_s {x : Nat} (h : x < 8) : nPut i c N (c + 1) x = N x := by simp [nPut, h]
theorem nP_p {x : Nat} (h : x < 8) : nPut i c N (c + 2) x = N (8 + x) := by simp [nPut, h]
theorem nP_o {b : Nat} (h1 : b ≠ c) (h2 : b ≠ c + 1) (h3 : b ≠ c + 2) : nPut i c N b = i b := by funext j; simp [nPut, h1, h2, h3]
theorem nP_lo (hc : kNc c = true) {b : Nat} (hb : b < 10) : nPut i c N b = i b := by
  have := kNc_lt hc; exact nP_o (by omega) (by omega) (by omega)
theorem nP_hi (hc : kNc c = true) {b : Nat} (hb : 74 ≤ b) : nPut i c N b = i b := by
  have := kNc_lt hc; exact nP_o (by omega) (by omega) (by omega)
theorem nP_g : nPut i c (nGet i c) = i := by
  funext b j
  unfold nPut
  by_cases h1 : b = c ∧ j < 8
  · rw [if_pos h1]; obtain ⟨rfl, hj⟩ := h1
    have : j = 0 ∨ j = 1 ∨ j = 2 ∨ j = 3 ∨ j = 4 ∨ j = 5 ∨ j = 6 ∨ j = 7 := by omega
    rcases this with rfl | rfl | rfl | rfl | rfl | rfl | rfl | rfl <;> rfl
  · rw [if_neg h1]
    by_cases h2 : b = c + 1 ∧ j < 8
    · rw [if_pos h2]; obtain ⟨rfl, hj⟩ := h2; simp [nGet, hj]
    · rw [if_neg h2]
      by_cases h3 : b = c + 2 ∧ j < 8
      · rw [if_pos h3]; obtain ⟨rfl, hj⟩ := h3
        have e1 : ¬ 8 + j < 8 := by omega
        have e2 : 8 + j < 16 := by omega
        have e3 : 8 + j - 8 = j := by omega
        simp [nGet, e1, e2, e3]
      · rw [if_neg h3]
theorem nP_c {N2 : Nat → Int32} (h : ∀ k, k < 25 → k ≠ 23 → N k = N2 k) : nPut i c N = nPut i c N2 := by
  funext b j
  unfold nPut
  rw [h (nIx j) nIx_lt nIx_23]
  by_cases hj : j < 8
  · rw [h j (by omega) (by omega), h (8 + j) (by omega) (by omega)]
  · simp [hj]
theorem nP_pp {N2 : Nat → Int32} : nPut (nPut i c N) c N2 = nPut i c N2 := by
  funext b j
  unfold nPut
  by_cases h1 : b = c ∧ j < 8
  · simp [h1]
  · by_cases h2 : b = c + 1 ∧ j < 8
    · simp [h2]
    · by_cases h3 : b = c + 2 ∧ j < 8
      · simp [h3]
      · simp [h1, h2, h3]
theorem nW_f {k : Nat} {v : Int32} (hk : k < 8) : kupi (nPut i c N) c k v = nPut i c (kuf N (nIx k) v) := by
  funext b j
  unfold kupi nPut
  by_cases hb : b = c
  · subst hb
    by_cases hj : j = k
    · subst hj; simp [hk, kuf]
    · by_cases h8 : j < 8
      · have : nIx j ≠ nIx k := fun e => hj ((nIx_inj h8 hk).1 e)
        simp [hj, h8, kuf, this]
      · simp [hj, h8]
  · have g := @nIx_ge k
    have e1 : j < 8 → kuf N (nIx k) v j = N j := fun h => kuf_n (by omega)
    have e2 : j < 8 → kuf N (nIx k) v (8 + j) = N (8 + j) := fun h => kuf_n (by omega)
    by_cases h8 : j < 8
    · simp [hb, h8, e1 h8, e2 h8]
    · simp [hb, h8]
theorem nW_0 {v : Int32} : kupi (nPut i c N) c 0 v = nPut i c (kuf N 17 v) := nW_f (by decide)
theorem nW_1 {v : Int32} : kupi (nPut i c N) c 1 v = nPut i c (kuf N 18 v) := nW_f (by decide)
theorem nW_2 {v : Int32} : kupi (nPut i c N) c 2 v = nPut i c (kuf N 19 v) := nW_f (by decide)
theorem nW_3 {v : Int32} : kupi (nPut i c N) c 3 v = nPut i c (kuf N 20 v) := nW_f (by decide)
theorem nW_4 {v : Int32} : kupi (nPut i c N) c 4 v = nPut i c (kuf N 21 v) := nW_f (by decide)
theorem nW_5 {v : Int32} : kupi (nPut i c N) c 5 v = nPut i c (kuf N 16 v) := nW_f (by decide)
theorem nW_6 {v : Int32} : kupi (nPut i c N) c 6 v = nPut i c (kuf N 22 v) := nW_f (by decide)
theorem nW_7 {v : Int32} : kupi (nPut i c N) c 7 v = nPut i c (kuf N 24 v) := nW_f (by decide)
theorem nW_s {x : Nat} {v : Int32} (h : x < 8) : kupi (nPut i c N) (c + 1) x v = nPut i c (kuf N x v) := by
  funext b j
  unfold kupi nPut
  have e0 : kuf N x v (nIx j) = N (nIx j) := kuf_n (by have := @nIx_ge j; omega)
  have e2 : kuf N x v (8 + j) = N (8 + j) := kuf_n (by omega)
  rw [e0, e2]
  by_cases hb : b = c + 1
  · subst hb
    by_cases hj : j = x
    · subst hj; simp [h, kuf]
    · simp [hj, kuf]
  · simp [hb]
theorem nW_p {x : Nat} {v : Int32} (h : x < 8) : kupi (nPut i c N) (c + 2) x v = nPut i c (kuf N (8 + x) v) := by
  funext b j
  unfold kupi nPut
  have e0 : kuf N (8 + x) v (nIx j) = N (nIx j) := kuf_n (by have := @nIx_ge j; omega)
  rw [e0]
  by_cases hb : b = c + 2
  · subst hb
    by_cases hj : j = x
    · subst hj; simp [h, kuf]
    · have : ¬ 8 + j = 8 + x := by omega
      simp [hj, kuf, this]
  · by_cases h8 : j < 8
    · have e1 : kuf N (8 + x) v j = N j := kuf_n (by omega)
      rw [e1]; simp [hb]
    · simp [hb, h8]
def pSay (co : Nat → Int32) (said hat M p : Int32) : Int32 := if p = hat ∨ p < 0 ∨ ¬ p < M then 0 else co p.toNatClampNeg &&& (said ^^^ (-1))
theorem c_sayable {p : Int32} (hc : kNc c = true) (hm : i 5 0 = Int32.ofNat m) (h8 : m ≤ 8) : kCA sc (d + 1) 6 [.ref c, .ref 5, .int p] y nx hd L st ((120, cu, su), i, l, kR f t sp) K = kWP sc (d + 1) y nx L (.int (pSay (i 8) (i c 0) (i c 1) (i 5 0) p) :: st) ((120, cu, su), i, l, kR f t sp) K := by
  refine kCA_of (d := d) (v := some (.int (pSay (i 8) (i c 0) (i c 1) (i 5 0) p))) (S2 := ((120, cu, su), i, l, kR f t sp)) (fun K => ?_)
  rw [km_6]
  show kWP sc (d) 6 0 [.ref c, .ref 5, .int p, .retAddr 0] [] ((120, cu, su), i, l, kR f t sp) K = K (some (some (.int (pSay (i 8) (i c 0) (i c 1) (i 5 0) p)))) ((120, cu, su), i, l, kR f t sp)
  simp only [e_X1_sayable_0, e_X1_sayable_1, e_X1_sayable_2, e_X1_sayable_5, e_X1_sayable_8, e_X1_sayable_9, e_X1_sayable_12, e_X1_sayable_13, e_X1_sayable_14, e_X1_sayable_17, e_X1_sayable_20, e_X1_sayable_21, e_X1_sayable_24, e_X1_sayable_25, e_X1_sayable_26, e_X1_sayable_27, e_X1_sayable_30, e_X1_sayable_31, e_X1_sayable_34, e_X1_sayable_35, e_X1_sayable_38, e_X1_sayable_39, e_X1_sayable_40, e_X1_sayable_41, e_X1_sayable_44, e_X1_sayable_45, e_X1_sayable_46, e_X1_sayable_47, ob_n hc, ob_5, rk_5_3, ar_8, kcl_i, kcl_r, kcl_l, kcl_0, kcl_n, true_and, and_true]
  unfold pSay
  by_cases q1 : p = i c 1
  · simp [q1]
  · by_cases q2 : p < 0
    · simp [q1, q2]
    · by_cases q3 : p < i 5 0
      · have q4 : kin p 8 = True := kin_of h8 (by omega) q2 (hm ▸ q3)
        simp only [q1, q2, q3, q4, if_true, if_false, true_and, or_self, not_true_eq_false, ne_eq, false_or]
      · simp [q1, q2, q3]
def pSayers (co : Nat → Int32) (said hat M t : Int32) (m : Nat) : Int32 := kfo (fun x b => b ||| (((pSay co said hat M (Int32.ofNat x) >>> (t &&& 31)) &&& 1) <<< (Int32.ofNat x &&& 31))) m 0
theorem c_sayers {p : Int32} (hc : kNc c = true) (hm : i 5 0 = Int32.ofNat m) (h8 : m ≤ 8) : kCA sc (d + 2) 7 [.ref c, .ref 5, .int p] y nx hd L st ((120, cu, su), i, l, kR f t sp) K = kWP sc (d + 2) y nx L (.int (pSayers (i 8) (i c 0) (i c 1) (i 5 0) p m) :: st) ((120, cu, su), i, l, kR f t sp) K := by
  refine kCA_of (d := d + 1) (v := some (.int (pSayers (i 8) (i c 0) (i c 1) (i 5 0) p m))) (S2 := ((120, cu, su), i, l, kR f t sp)) (fun K => ?_)
  rw [km_7]
  show kWP sc (d + 1) 7 0 [.ref c, .ref 5, .int p, .retAddr 0, .retAddr 0] [] ((120, cu, su), i, l, kR f t sp) K = K (some (some (.int (pSayers (i 8) (i c 0) (i c 1) (i 5 0) p m)))) ((120, cu, su), i, l, kR f t sp)
  simp only [e_X1_sayers_0, e_X1_sayers_1, e_X1_sayers_2, e_X1_sayers_3, e_X1_sayers_7, e_X1_sayers_8, e_X1_sayers_11, e_X1_sayers_14, e_X1_sayers_15, e_X1_sayers_16, e_X1_sayers_17, e_X1_sayers_19, e_X1_sayers_22, e_X1_sayers_23, e_X1_sayers_24, e_X1_sayers_25, e_X1_sayers_26, e_X1_sayers_28, e_X1_sayers_29, e_X1_sayers_30, e_X1_sayers_31, e_X1_sayers_34, e_X1_sayers_37, e_X1_sayers_38, ob_5, ob_n hc, kcl_i, kcl_r, kcl_l, kcl_0, kcl_n, true_and, and_true]
  refine (k_for (P := fun x b => kWP sc (d + 1) 7 5 [.ref c, .ref 5, .int p, .int b, .int (Int32.ofNat x)] [] ((120, cu, su), i, l, kR f t sp) K) (n := m) (g := fun x b => b ||| (((pSay (i 8) (i c 0) (i c 1) (i 5 0) (Int32.ofNat x) >>> (p &&& 31)) &&& 1) <<< (Int32.ofNat x &&& 31))) ?_ 0).trans ?_
  · intro x b hx
    have c1 : (i 5 0 ≤ Int32.ofNat x) = False := by rw [hm, tn_le (by omega) (by omega)]; exact eq_false (by omega)
    refine e_X1_sayers_5.trans ?_
    simp only [e_X1_sayers_0, e_X1_sayers_1, e_X1_sayers_2, e_X1_sayers_3, e_X1_sayers_7, e_X1_sayers_8, e_X1_sayers_11, e_X1_sayers_14, e_X1_sayers_15, e_X1_sayers_16, e_X1_sayers_17, e_X1_sayers_19, e_X1_sayers_22, e_X1_sayers_23, e_X1_sayers_24, e_X1_sayers_25, e_X1_sayers_26, e_X1_sayers_28, e_X1_sayers_29, e_X1_sayers_30, e_X1_sayers_31, e_X1_sayers_34, e_X1_sayers_37, e_X1_sayers_38, ob_5, ob_n hc, kcl_i, kcl_r, kcl_l, kcl_0, kcl_n, true_and, and_true, c1, if_false, c_sayable hc hm h8, tn_s]
  · refine e_X1_sayers_5.trans ?_
    simp only [e_X1_sayers_0, e_X1_sayers_1, e_X1_sayers_2, e_X1_sayers_3, e_X1_sayers_7, e_X1_sayers_8, e_X1_sayers_11, e_X1_sayers_14, e_X1_sayers_15, e_X1_sayers_16, e_X1_sayers_17, e_X1_sayers_19, e_X1_sayers_22, e_X1_sayers_23, e_X1_sayers_24, e_X1_sayers_25, e_X1_sayers_26, e_X1_sayers_28, e_X1_sayers_29, e_X1_sayers_30, e_X1_sayers_31, e_X1_sayers_34, e_X1_sayers_37, e_X1_sayers_38, ob_5, ob_n hc, kcl_i, kcl_r, kcl_l, kcl_0, kcl_n, true_and, and_true, hm, Int32.le_refl, if_true]
    rfl
def pCanSay (co : Nat → Int32) (said hat M p q : Int32) : Bool := (!decide (q < 0) && !decide (8 ≤ q)) && !decide ((pSay co said hat M p >>> (q &&& 31)) &&& 1 = 0)
theorem c_canSay {p q : Int32} (hc : kNc c = true) (hm : i 5 0 = Int32.ofNat m) (h8 : m ≤ 8) : kCA sc (d + 2) 13 [.ref c, .ref 5, .int p, .int q] y nx hd L st ((120, cu, su), i, l, kR f t sp) K = kWP sc (d + 2) y nx L (.int (kb (pCanSay (i 8) (i c 0) (i c 1) (i 5 0) p q)) :: st) ((120, cu, su), i, l, kR f t sp) K := by
  refine kCA_of (d := d + 1) (v := some (.int (kb (pCanSay (i 8) (i c 0) (i c 1) (i 5 0) p q)))) (S2 := ((120, cu, su), i, l, kR f t sp)) (fun K => ?_)
  rw [km_13]
  show kWP sc (d + 1) 13 0 [.ref c, .ref 5, .int p, .int q] [] ((120, cu, su), i, l, kR f t sp) K = K (some (some (.int (kb (pCanSay (i 8) (i c 0) (i c 1) (i 5 0) p q))))) ((120, cu, su), i, l, kR f t sp)
  simp only [e_X1_canSay_0, e_X1_canSay_1, e_X1_canSay_4, e_X1_canSay_7, e_X1_canSay_8, e_X1_canSay_9, e_X1_canSay_10, e_X1_canSay_13, e_X1_canSay_14, e_X1_canSay_15, e_X1_canSay_16, e_X1_canSay_17, e_X1_canSay_20, e_X1_canSay_21, e_X1_canSay_24, e_X1_canSay_25, ob_n hc, kcl_i, kcl_r, kcl_l, kcl_0, kcl_n, true_and, and_true, c_isThing, c_sayable hc hm h8, kb_0, kbool_0, kbool_1]
  unfold pCanSay
  by_cases q1 : q < 0 <;> by_cases q2 : 8 ≤ q <;> by_cases q3 : (pSay (i 8) (i c 0) (i c 1) (i 5 0) p >>> (q &&& 31)) &&& 1 = 0 <;> simp [kb, q1, q2, q3]
def pCanTalk (co : Nat → Int32) (said hat pm M p k q : Int32) : Int32 := if k = 0 then kb (pCanSay co said hat M p q) else if k = 1 then 1 else if k = 2 then kb ((pHas M p ∧ pHas M q ∧ ¬ p = q) ∧ ¬ q = hat) else if k = 3 then kb (pCanSay co said hat M p q ∧ pCanSay co said hat M p (q + 1)) else if k = 4 then kb (¬ pm = -1 ∧ ¬ pm = p ∧ pCanSay co said hat M p q) else 0
theorem c_canTalk {p k q : Int32} (hc : kNc c = true) (hm : i 5 0 = Int32.ofNat m) (h8 : m ≤ 8) : kCA sc (d + 3) 14 [.ref c, .ref 5, .int p, .int k, .int q] y nx hd L st ((120, cu, su), i, l, kR f t sp) K = kWP sc (d + 3) y nx L (.int (pCanTalk (i 8) (i c 0) (i c 1) (i c 6) (i 5 0) p k q) :: st) ((120, cu, su), i, l, kR f t sp) K := by
  refine kCA_of (d := d + 2) (v := some (.int (pCanTalk (i 8) (i c 0) (i c 1) (i c 6) (i 5 0) p k q))) (S2 := ((120, cu, su), i, l, kR f t sp)) (fun K => ?_)
  rw [km_14]
  show kWP sc (d + 2) 14 0 [.ref c, .ref 5, .int p, .int k, .int q] [] ((120, cu, su), i, l, kR f t sp) K = K (some (some (.int (pCanTalk (i 8) (i c 0) (i c 1) (i c 6) (i 5 0) p k q)))) ((120, cu, su), i, l, kR f t sp)
  simp only [e_X1_canTalk_0, e_X1_canTalk_1, e_X1_canTalk_36, e_X1_canTalk_37, e_X1_canTalk_38, e_X1_canTalk_39, e_X1_canTalk_41, e_X1_canTalk_44, e_X1_canTalk_45, e_X1_canTalk_46, e_X1_canTalk_47, e_X1_canTalk_48, e_X1_canTalk_49, e_X1_canTalk_51, e_X1_canTalk_54, e_X1_canTalk_57, e_X1_canTalk_59, e_X1_canTalk_60, e_X1_canTalk_63, e_X1_canTalk_66, e_X1_canTalk_67, e_X1_canTalk_70, e_X1_canTalk_71, e_X1_canTalk_72, e_X1_canTalk_73, e_X1_canTalk_74, e_X1_canTalk_75, e_X1_canTalk_77, e_X1_canTalk_80, e_X1_canTalk_83, e_X1_canTalk_84, e_X1_canTalk_85, e_X1_canTalk_86, e_X1_canTalk_88, e_X1_canTalk_89, e_X1_canTalk_90, e_X1_canTalk_93, e_X1_canTalk_96, e_X1_canTalk_97, e_X1_canTalk_100, e_X1_canTalk_101, e_X1_canTalk_102, e_X1_canTalk_103, e_X1_canTalk_106, e_X1_canTalk_107, e_X1_canTalk_110, e_X1_canTalk_111, e_X1_canTalk_114, e_X1_canTalk_115, e_X1_canTalk_118, e_X1_canTalk_119, e_X1_canTalk_120, e_X1_canTalk_121, e_X1_canTalk_123, e_X1_canTalk_126, e_X1_canTalk_129, e_X1_canTalk_130, e_X1_canTalk_133, e_X1_canTalk_134, e_X1_canTalk_135, e_X1_canTalk_136, ob_n hc, ob_5, kcl_i, kcl_r, kcl_l, kcl_0, kcl_n, true_and, and_true, c_canSay hc hm h8, c_areTwo, kb_0, kb_ok, kbool_0, kbool_1]
  unfold pCanTalk
  by_cases k0 : k = 0
  · simp [k0]
  by_cases k1 : k = 1
  · simp [k1]
  by_cases k2 : k = 2
  · simp only [k2]
    by_cases q1 : pHas (i 5 0) p <;> by_cases q2 : pHas (i 5 0) q <;> by_cases q3 : p = q <;> by_cases q4 : q = i c 1 <;> simp [kb, q1, q2, q3, q4]
  by_cases k3 : k = 3
  · simp only [k3]
    by_cases q1 : (pCanSay (i 8) (i c 0) (i c 1) (i 5 0) p q) <;> by_cases q2 : (pCanSay (i 8) (i c 0) (i c 1) (i 5 0) p (q + 1)) <;> simp [kb, q1, q2]
  by_cases k4 : k = 4
  · simp only [k4]
    by_cases q1 : i c 6 = -1 <;> by_cases q2 : i c 6 = p <;> by_cases q3 : (pCanSay (i 8) (i c 0) (i c 1) (i 5 0) p q) <;> simp [kb, q1, q2, q3]
  simp [k0, k1, k2, k3, k4]
end TC
