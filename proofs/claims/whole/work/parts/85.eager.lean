/-! EAGERNESS reckoned by the class: acts on a stack -/
section TC
variable {sc : Nat × (Nat → Int32)} {d y nx : Nat} {hd : List (Int × Nat)} {L st : List Value} {S : kS} {cu su : Nat} {i : Nat → Nat → Int32} {l : Nat → Nat → Int64} {f t c b m : Nat} {sp : Nat → Nat} {K : Option (Option Value) → kS → Prop}
variable {N : Nat → Int32} {s : Nat × (Nat → Int32)}
def rPut (i : Nat → Nat → Int32) (b : Nat) (s : Nat × (Nat → Int32)) : Nat → Nat → Int32 := fun x j => if x = b ∧ j = 4 then Int32.ofNat s.1 else if x = b + 2 ∧ j < 40 then s.2 j else i x j
def rGet (i : Nat → Nat → Int32) (b : Nat) : Nat × (Nat → Int32) := ((i b 4).toUInt32.toNat, i (b + 2))
theorem rP_4 : rPut i b s b 4 = Int32.ofNat s.1 := by simp [rPut]
theorem rP_s {x : Nat} (h : x < 40) : rPut i b s (b + 2) x = s.2 x := by simp [rPut, h]
theorem rP_f {j : Nat} (h : j ≠ 4) : rPut i b s b j = i b j := by simp [rPut, h]
theorem rP_f2 : rPut i b s b 2 = i b 2 := rP_f (by decide)
theorem rP_1 : rPut i b s (b + 1) = i (b + 1) := by funext j; simp [rPut]
theorem rP_o {x : Nat} (h1 : x ≠ b) (h2 : x ≠ b + 2) : rPut i b s x = i x := by funext j; simp [rPut, h1, h2]
theorem rP_lo (hf : kRc b = true) {x : Nat} (h : x < 85) : rPut i b s x = i x := by
  rcases kRc_of hf with rfl | rfl <;> exact rP_o (by omega) (by omega)
theorem rP_hi (hf : kRc b = true) {x : Nat} (h : 91 ≤ x) : rPut i b s x = i x := by
  rcases kRc_of hf with rfl | rfl <;> exact rP_o (by omega) (by omega)
theorem rP_g : rPut i b (rGet i b) = i := by
  funext x j
  unfold rPut rGet
  by_cases h1 : x = b ∧ j = 4
  · rw [if_pos h1, h1.1, h1.2]
    show Int32.ofNat (i b 4).toBitVec.toNat = i b 4
    rw [Int32.ofNat_bitVecToNat, Int32.ofBitVec_toBitVec]
  · rw [if_neg h1]
    by_cases h2 : x = b + 2 ∧ j < 40
    · rw [if_pos h2, h2.1]
    · rw [if_neg h2]
theorem rP_pp {s2 : Nat × (Nat → Int32)} : rPut (rPut i b s) b s2 = rPut i b s2 := by
  funext x j
  unfold rPut
  by_cases h1 : x = b ∧ j = 4
  · simp [h1]
  · by_cases h2 : x = b + 2 ∧ j < 40
    · simp [h2]
    · simp [h1, h2]
theorem rW_4 {n : Nat} : kupi (rPut i b s) b 4 (Int32.ofNat n) = rPut i b (n, s.2) := by
  funext x j
  unfold kupi rPut
  by_cases h1 : x = b ∧ j = 4
  · simp [h1]
  · simp [h1]
theorem rW_s {x : Nat} {v : Int32} (h : x < 40) : kupi (rPut i b s) (b + 2) x v = rPut i b (s.1, kuf s.2 x v) := by
  funext z j
  unfold kupi rPut kuf
  by_cases h1 : z = b + 2
  · subst h1
    by_cases hj : j = x
    · subst hj; simp [h]
    · simp [hj]
  · simp [h1]
theorem rN {c : Nat} (hc : kNc c = true) (hf : kRc b = true) : rPut (nPut i c N) b s = nPut (rPut i b s) c N := by
  have := kNc_lt hc
  funext x j
  unfold rPut nPut
  rcases kRc_of hf with rfl | rfl
  · by_cases h1 : x = c
    · subst h1
      have e1 : ¬ x = 85 := by omega
      have e2 : ¬ x = 87 := by omega
      simp [e1, e2]
    · by_cases h2 : x = c + 1
      · have e1 : ¬ x = 85 := by omega
        have e2 : ¬ x = 87 := by omega
        simp [e1, e2, h1]
      · by_cases h3 : x = c + 2
        · have e1 : ¬ x = 85 := by omega
          have e2 : ¬ x = 87 := by omega
          simp [e1, e2, h1, h2]
        · simp [h1, h2, h3]
  · by_cases h1 : x = c
    · subst h1
      have e1 : ¬ x = 88 := by omega
      have e2 : ¬ x = 90 := by omega
      simp [e1, e2]
    · by_cases h2 : x = c + 1
      · have e1 : ¬ x = 88 := by omega
        have e2 : ¬ x = 90 := by omega
        simp [e1, e2, h1]
      · by_cases h3 : x = c + 2
        · have e1 : ¬ x = 88 := by omega
          have e2 : ¬ x = 90 := by omega
          simp [e1, e2, h1, h2]
        · simp [h1, h2, h3]
def pPush (s : Nat × (Nat → Int32)) (v : Int32) : Nat × (Nat → Int32) := if 40 ≤ s.1 then s else (s.1 + 1, kuf s.2 s.1 v)
def pPop (s : Nat × (Nat → Int32)) : Nat × (Nat → Int32) := (s.1 - 1, s.2)
def pTop (s : Nat × (Nat → Int32)) : Int32 := if s.1 = 0 then 0 else s.2 (s.1 - 1)
theorem pPush_le {v : Int32} (h : s.1 ≤ 40) : (pPush s v).1 ≤ 40 := by unfold pPush; split; exact h; simp; omega
theorem pPop_le (h : s.1 ≤ 40) : (pPop s).1 ≤ 40 := by simp [pPop]; omega
theorem c_push {v : Int32} (hf : kRc b = true) (hs : s.1 ≤ 40) : kCA sc (d + 1) 53 [.ref b, .int v] y nx hd L st ((120, cu, su), rPut i b s, l, kR f t sp) K = kWP sc (d + 1) y nx L st ((120, cu, su), rPut i b (pPush s v), l, kR f t sp) K := by
  refine kCA_of (d := d) (v := none) (S2 := ((120, cu, su), rPut i b (pPush s v), l, kR f t sp)) (fun K => ?_)
  rw [km_53]
  show kWP sc (d) 53 0 [.ref b, .int v] [] ((120, cu, su), rPut i b s, l, kR f t sp) K = K (some (none)) ((120, cu, su), rPut i b (pPush s v), l, kR f t sp)
  simp only [e_X5_push_0, e_X5_push_1, e_X5_push_4, e_X5_push_6, e_X5_push_9, e_X5_push_10, e_X5_push_13, e_X5_push_14, e_X5_push_17, e_X5_push_18, e_X5_push_19, e_X5_push_20, e_X5_push_21, e_X5_push_24, e_X5_push_25, e_X5_push_26, e_X5_push_29, ob_r hf, rk_r3 hf, ar_r2 hf, kcl_i, kcl_r, kcl_l, kcl_0, kcl_n, true_and, and_true, rP_4, show (40 : Int32) = Int32.ofNat 40 from rfl, tn_le (show 40 < 2147483648 by decide) (show s.1 < 2147483648 by omega)]
  unfold pPush
  by_cases q1 : 40 ≤ s.1
  · simp only [q1, if_true]
  · have q2 : kin (Int32.ofNat s.1) 40 = True := by rw [tn_kin (by omega)]; exact eq_true (by omega)
    simp only [q1, q2, if_false, tn_cl (show s.1 < 2147483648 by omega), rW_s (show s.1 < 40 by omega), rP_4, tn_s, rW_4, true_and]
theorem tn_sub {a : Nat} (h : 0 < a) : Int32.ofNat a - 1 = Int32.ofNat (a - 1) := (Int32.ofNat_sub a 1 h).symm
theorem tn_z {a : Nat} (ha : a < 2147483648) : (Int32.ofNat a = 0) = (a = 0) := tn_eq (b := 0) ha (by decide)
theorem c_pop (hf : kRc b = true) (hs : s.1 ≤ 40) : kCA sc (d + 1) 54 [.ref b] y nx hd L st ((120, cu, su), rPut i b s, l, kR f t sp) K = kWP sc (d + 1) y nx L (.int (pTop s) :: st) ((120, cu, su), rPut i b (pPop s), l, kR f t sp) K := by
  refine kCA_of (d := d) (v := some (.int (pTop s))) (S2 := ((120, cu, su), rPut i b (pPop s), l, kR f t sp)) (fun K => ?_)
  rw [km_54]
  show kWP sc (d) 54 0 [.ref b] [] ((120, cu, su), rPut i b s, l, kR f t sp) K = K (some (some (.int (pTop s)))) ((120, cu, su), rPut i b (pPop s), l, kR f t sp)
  simp only [e_X5_pop_0, e_X5_pop_1, e_X5_pop_4, e_X5_pop_7, e_X5_pop_8, e_X5_pop_9, e_X5_pop_10, e_X5_pop_11, e_X5_pop_14, e_X5_pop_15, e_X5_pop_16, e_X5_pop_19, e_X5_pop_20, e_X5_pop_23, e_X5_pop_24, e_X5_pop_27, e_X5_pop_28, ob_r hf, rk_r3 hf, ar_r2 hf, kcl_i, kcl_r, kcl_l, kcl_0, kcl_n, true_and, and_true, rP_4, tn_z (show s.1 < 2147483648 by omega)]
  unfold pTop pPop
  by_cases q1 : s.1 = 0
  · simp only [q1, if_true, Nat.zero_sub]
    rw [← q1]
  · have q2 : kin (Int32.ofNat (s.1 - 1)) 40 = True := by rw [tn_kin (by omega)]; exact eq_true (by omega)
    simp only [q1, if_false, tn_sub (show 0 < s.1 by omega), rW_4, rP_4, q2, tn_cl (show s.1 - 1 < 2147483648 by omega), rP_s (show s.1 - 1 < 40 by omega), true_and]
def pVal (co br : Nat → Int32) (M : Int32) (N : Nat → Int32) (a : Nat) (q : Int32) : Int32 := if q = 98 then br a else if q = 104 then (N 16 >>> (Int32.ofNat a &&& 31)) &&& 1 else if q = 108 then N 20 - N 19 else if q = 109 then N 19 else if q = 112 then N (8 + a) else if q = 116 then N a else if q = 119 then pBC (pSay co (N 17) (N 18) M (Int32.ofNat a)) else 0
theorem c_valueOf {a : Nat} {q : Int32} (hc : kNc c = true) (hm : i 5 0 = Int32.ofNat m) (h8 : m ≤ 8) (ha : a < m) : kCA sc (d + 2) 57 [.int q, .ref 5, .ref c, .int (Int32.ofNat a)] y nx hd L st ((120, cu, su), nPut i c N, l, kR f t sp) K = kWP sc (d + 2) y nx L (.int (pVal (i 8) (i 6) (i 5 0) N a q) :: st) ((120, cu, su), nPut i c N, l, kR f t sp) K := by
  refine kCA_of (d := d + 1) (v := some (.int (pVal (i 8) (i 6) (i 5 0) N a q))) (S2 := ((120, cu, su), nPut i c N, l, kR f t sp)) (fun K => ?_)
  rw [km_57]
  show kWP sc (d + 1) 57 0 [.int q, .ref 5, .ref c, .int (Int32.ofNat a)] [] ((120, cu, su), nPut i c N, l, kR f t sp) K = K (some (some (.int (pVal (i 8) (i 6) (i 5 0) N a q)))) ((120, cu, su), nPut i c N, l, kR f t sp)
  have hm2 : nPut i c N 5 0 = Int32.ofNat m := by rw [nP_lo hc (by decide)]; exact hm
  have q3 : kin (Int32.ofNat a) 8 = True := by rw [tn_kin (by omega)]; exact eq_true (by omega)
  have q4 : (Int32.ofNat a).toNatClampNeg = a := tn_cl (by omega)
  simp only [e_X5_valueOf_0, e_X5_valueOf_1, e_X5_valueOf_104, e_X5_valueOf_105, e_X5_valueOf_106, e_X5_valueOf_107, e_X5_valueOf_110, e_X5_valueOf_113, e_X5_valueOf_114, e_X5_valueOf_115, e_X5_valueOf_118, e_X5_valueOf_119, e_X5_valueOf_120, e_X5_valueOf_121, e_X5_valueOf_122, e_X5_valueOf_125, e_X5_valueOf_126, e_X5_valueOf_127, e_X5_valueOf_128, e_X5_valueOf_129, e_X5_valueOf_132, e_X5_valueOf_133, e_X5_valueOf_134, e_X5_valueOf_135, e_X5_valueOf_136, e_X5_valueOf_137, e_X5_valueOf_140, e_X5_valueOf_141, e_X5_valueOf_142, e_X5_valueOf_145, e_X5_valueOf_146, e_X5_valueOf_147, e_X5_valueOf_150, e_X5_valueOf_151, e_X5_valueOf_154, e_X5_valueOf_155, e_X5_valueOf_156, e_X5_valueOf_157, ob_n hc, ob_5, rk_5_1, ar_6, rk_n8 hc, ar_n1 hc, rk_n9 hc, ar_n2 hc, kcl_i, kcl_r, kcl_l, kcl_0, kcl_n, true_and, and_true, c_sayable (i := nPut i c N) hc hm2 h8, c_bitCount, c_hadHat hc, q3, q4, nP_s (show a < 8 by omega), nP_p (show a < 8 by omega), nP_0, nP_1, nP_2, nP_3, nP_5, nP_lo hc (show 8 < 10 by decide), nP_lo hc (show 5 < 10 by decide), nP_lo hc (show 6 < 10 by decide)]
  unfold pVal
  by_cases q98 : q = 98
  · subst q98; rfl
  by_cases q104 : q = 104
  · subst q104; rfl
  by_cases q108 : q = 108
  · subst q108; rfl
  by_cases q109 : q = 109
  · subst q109; rfl
  by_cases q112 : q = 112
  · subst q112; rfl
  by_cases q116 : q = 116
  · subst q116; rfl
  by_cases q119 : q = 119
  · subst q119; rfl
  simp only [q98, q104, q108, q109, q112, q116, q119, if_false, ite_self]
def pJoin (q a b : Int32) : Int32 := if q = 42 then a * b else if q = 43 then a + b else if q = 45 then a - b else if q = 47 then (if b = 0 then 0 else a / b) else if q = 60 then (if b ≤ a then 0 else 1) else if q = 61 then (if a = b then 1 else 0) else if q = 62 then (if a ≤ b then 0 else 1) else 0
theorem c_joined {q p v : Int32} : kCA sc (d + 1) 58 [.int q, .int p, .int v] y nx hd L st ((120, cu, su), i, l, kR f t sp) K = kWP sc (d + 1) y nx L (.int (pJoin q p v) :: st) ((120, cu, su), i, l, kR f t sp) K := by
  refine kCA_of (d := d) (v := some (.int (pJoin q p v))) (S2 := ((120, cu, su), i, l, kR f t sp)) (fun K => ?_)
  rw [km_58]
  show kWP sc (d) 58 0 [.int q, .int p, .int v] [] ((120, cu, su), i, l, kR f t sp) K = K (some (some (.int (pJoin q p v)))) ((120, cu, su), i, l, kR f t sp)
  simp only [e_X5_joined_0, e_X5_joined_1, e_X5_joined_100, e_X5_joined_101, e_X5_joined_102, e_X5_joined_105, e_X5_joined_106, e_X5_joined_109, e_X5_joined_110, e_X5_joined_111, e_X5_joined_112, e_X5_joined_113, e_X5_joined_116, e_X5_joined_117, e_X5_joined_120, e_X5_joined_121, e_X5_joined_122, e_X5_joined_123, e_X5_joined_124, e_X5_joined_127, e_X5_joined_128, e_X5_joined_131, e_X5_joined_132, e_X5_joined_133, e_X5_joined_134, e_X5_joined_135, e_X5_joined_136, e_X5_joined_137, e_X5_joined_138, e_X5_joined_139, e_X5_joined_140, e_X5_joined_141, e_X5_joined_142, e_X5_joined_143, e_X5_joined_144, e_X5_joined_145, e_X5_joined_146, e_X5_joined_149, e_X5_joined_150, e_X5_joined_153, e_X5_joined_154, e_X5_joined_155, e_X5_joined_156, e_X5_joined_157, e_X5_joined_158, kcl_i, kcl_r, kcl_l, kcl_0, kcl_n, true_and, and_true]
  unfold pJoin
  by_cases q42 : q = 42
  · subst q42; rfl
  by_cases q43 : q = 43
  · subst q43; rfl
  by_cases q45 : q = 45
  · subst q45; rfl
  by_cases q47 : q = 47
  · subst q47
    by_cases w : v = 0
    · subst w; rfl
    · show (if v = 0 then _ else (¬ v = 0 ∧ _)) = K (some (some (.int (if v = 0 then 0 else p / v)))) _
      rw [if_neg w, if_neg w]; exact propext ⟨fun h => h.2, fun h => ⟨w, h⟩⟩
  by_cases q60 : q = 60
  · subst q60
    show (if v ≤ p then _ else _) = K (some (some (.int (if v ≤ p then 0 else 1)))) _
    by_cases w : v ≤ p
    · rw [if_pos w, if_pos w]
    · rw [if_neg w, if_neg w]
  by_cases q61 : q = 61
  · subst q61
    show (if p = v then _ else _) = K (some (some (.int (if p = v then 1 else 0)))) _
    by_cases w : p = v
    · rw [if_pos w, if_pos w]
    · rw [if_neg w, if_neg w]
  by_cases q62 : q = 62
  · subst q62
    show (if p ≤ v then _ else _) = K (some (some (.int (if p ≤ v then 0 else 1)))) _
    by_cases w : p ≤ v
    · rw [if_pos w, if_pos w]
    · rw [if_neg w, if_neg w]
  simp only [q42, q43, q45, q47, q60, q61, q62, if_false, ite_self]
def gEag (val : Int32 → Int32) (act : Int32) (s : Nat × (Nat → Int32)) : Nat × (Nat → Int32) := if 1000 ≤ act then (if 2000 ≤ act then (if act = 3000 then pPush (pPop s) (-(pTop s)) else pPush (pPop (pPop s)) (pJoin (act - 2000) (pTop (pPop s)) (pTop s))) else pPush s (val (act - 1000))) else pPush s act
theorem gEag_le {val : Int32 → Int32} {act : Int32} (h : s.1 ≤ 40) : (gEag val act s).1 ≤ 40 := by
  unfold gEag
  split
  · split
    · split
      · exact pPush_le (pPop_le h)
      · exact pPush_le (pPop_le (pPop_le h))
    · exact pPush_le h
  · exact pPush_le h
def gEagS (val : Int32 → Int32) (acts : Nat → Int32) (n : Nat) (A : Nat → Int32) : Nat × (Nat → Int32) := kfo (fun x s => gEag val (acts x) s) n (0, A)
theorem c_valueOfR {a : Nat} {q : Int32} (hf : kRc b = true) (hc : kNc c = true) (hm : i 5 0 = Int32.ofNat m) (h8 : m ≤ 8) (ha : a < m) : kCA sc (d + 2) 57 [.int q, .ref 5, .ref c, .int (Int32.ofNat a)] y nx hd L st ((120, cu, su), rPut (nPut i c N) b s, l, kR f t sp) K = kWP sc (d + 2) y nx L (.int (pVal (i 8) (i 6) (i 5 0) N a q) :: st) ((120, cu, su), rPut (nPut i c N) b s, l, kR f t sp) K := by
  have hm2 : rPut i b s 5 0 = Int32.ofNat m := by rw [rP_lo hf (by decide)]; exact hm
  rw [rN hc hf, c_valueOf hc hm2 h8 ha, rP_lo hf (show 8 < 85 by decide), rP_lo hf (show 6 < 85 by decide), rP_lo hf (show 5 < 85 by decide)]
theorem c_eager {a n : Nat} (hf : kRc b = true) (hc : kNc c = true) (hm : i 5 0 = Int32.ofNat m) (h8 : m ≤ 8) (ha : a < m) (hn : i b 2 = Int32.ofNat n) (h40 : n ≤ 40) : kCA sc (d + 3) 45 [.ref b, .ref 5, .ref c, .int (Int32.ofNat a)] y nx hd L st ((120, cu, su), rPut (nPut i c N) b s, l, kR f t sp) K = kWP sc (d + 3) y nx L (.int (pTop (gEagS (pVal (i 8) (i 6) (i 5 0) N a) (i (b + 1)) n s.2)) :: st) ((120, cu, su), rPut (nPut i c N) b (pPop (gEagS (pVal (i 8) (i 6) (i 5 0) N a) (i (b + 1)) n s.2)), l, kR f t sp) K := by
  refine kCA_of (d := d + 2) (v := some (.int (pTop (gEagS (pVal (i 8) (i 6) (i 5 0) N a) (i (b + 1)) n s.2)))) (S2 := ((120, cu, su), rPut (nPut i c N) b (pPop (gEagS (pVal (i 8) (i 6) (i 5 0) N a) (i (b + 1)) n s.2)), l, kR f t sp)) (fun K => ?_)
  rw [km_45]
  show kWP sc (d + 2) 45 0 [.ref b, .ref 5, .ref c, .int (Int32.ofNat a), .retAddr 0, .retAddr 0, .retAddr 0] [] ((120, cu, su), rPut (nPut i c N) b s, l, kR f t sp) K = K (some (some (.int (pTop (gEagS (pVal (i 8) (i 6) (i 5 0) N a) (i (b + 1)) n s.2))))) ((120, cu, su), rPut (nPut i c N) b (pPop (gEagS (pVal (i 8) (i 6) (i 5 0) N a) (i (b + 1)) n s.2)), l, kR f t sp)
  have hb74 : 74 ≤ b := by rcases kRc_of hf with rfl | rfl <;> decide
  have z0 : ∀ s : Nat × (Nat → Int32), kupi (rPut (nPut i c N) b s) b 4 0 = rPut (nPut i c N) b (0, s.2) := fun s => rW_4 (n := 0)
  simp only [e_X5_eagerness_0, e_X5_eagerness_1, e_X5_eagerness_2, e_X5_eagerness_5, e_X5_eagerness_6, e_X5_eagerness_10, e_X5_eagerness_11, e_X5_eagerness_14, e_X5_eagerness_17, e_X5_eagerness_18, e_X5_eagerness_21, e_X5_eagerness_23, e_X5_eagerness_24, e_X5_eagerness_26, e_X5_eagerness_28, e_X5_eagerness_31, e_X5_eagerness_34, e_X5_eagerness_35, e_X5_eagerness_37, e_X5_eagerness_40, e_X5_eagerness_43, e_X5_eagerness_45, e_X5_eagerness_48, e_X5_eagerness_51, e_X5_eagerness_52, e_X5_eagerness_54, e_X5_eagerness_57, e_X5_eagerness_58, e_X5_eagerness_59, e_X5_eagerness_60, e_X5_eagerness_61, e_X5_eagerness_64, e_X5_eagerness_67, e_X5_eagerness_70, e_X5_eagerness_72, e_X5_eagerness_75, e_X5_eagerness_78, e_X5_eagerness_79, e_X5_eagerness_80, e_X5_eagerness_83, e_X5_eagerness_84, e_X5_eagerness_87, e_X5_eagerness_90, e_X5_eagerness_91, e_X5_eagerness_94, e_X5_eagerness_96, e_X5_eagerness_97, e_X5_eagerness_99, e_X5_eagerness_102, e_X5_eagerness_103, e_X5_eagerness_104, e_X5_eagerness_107, e_X5_eagerness_109, e_X5_eagerness_112, e_X5_eagerness_115, e_X5_eagerness_118, e_X5_eagerness_121, e_X5_eagerness_122, e_X5_eagerness_125, ob_r hf, rk_r1 hf, ar_r1 hf, kcl_i, kcl_r, kcl_l, kcl_0, kcl_n, true_and, and_true, z0]
  have R := k_forI (P := fun x (s : (Nat × (Nat → Int32)) × Value × Value) => kWP sc (d + 2) 45 8 [.ref b, .ref 5, .ref c, .int (Int32.ofNat a), .int (Int32.ofNat x), s.2.1, s.2.2] [] ((120, cu, su), rPut (nPut i c N) b s.1, l, kR f t sp) K) (n := n) (I := fun _ s => s.1.1 ≤ 40) (g := fun x s => (gEag (pVal (i 8) (i 6) (i 5 0) N a) (i (b + 1) x) s.1, .int (i (b + 1) x), if 2000 ≤ i (b + 1) x ∧ ¬ i (b + 1) x = 3000 then .int (pTop s.1) else s.2.2)) ?_ ((0, s.2), .retAddr 0, .retAddr 0) (Nat.zero_le _)
  · have G : ∀ n v w, (kfo (fun x (s : (Nat × (Nat → Int32)) × Value × Value) => (gEag (pVal (i 8) (i 6) (i 5 0) N a) (i (b + 1) x) s.1, .int (i (b + 1) x), if 2000 ≤ i (b + 1) x ∧ ¬ i (b + 1) x = 3000 then .int (pTop s.1) else s.2.2)) n ((0, s.2), v, w)).1 = gEagS (pVal (i 8) (i 6) (i 5 0) N a) (i (b + 1)) n s.2 := by
      intro n v w
      unfold gEagS
      exact kfo_rel (R := fun _ (p : (Nat × (Nat → Int32)) × Value × Value) q => p.1 = q) (fun x p q _ h => by subst h; rfl) rfl
    refine R.1.trans ?_
    have R2 := R.2
    rw [G] at R2 ⊢
    refine e_X5_eagerness_8.trans ?_
    simp only [e_X5_eagerness_0, e_X5_eagerness_1, e_X5_eagerness_2, e_X5_eagerness_5, e_X5_eagerness_6, e_X5_eagerness_10, e_X5_eagerness_11, e_X5_eagerness_14, e_X5_eagerness_17, e_X5_eagerness_18, e_X5_eagerness_21, e_X5_eagerness_23, e_X5_eagerness_24, e_X5_eagerness_26, e_X5_eagerness_28, e_X5_eagerness_31, e_X5_eagerness_34, e_X5_eagerness_35, e_X5_eagerness_37, e_X5_eagerness_40, e_X5_eagerness_43, e_X5_eagerness_45, e_X5_eagerness_48, e_X5_eagerness_51, e_X5_eagerness_52, e_X5_eagerness_54, e_X5_eagerness_57, e_X5_eagerness_58, e_X5_eagerness_59, e_X5_eagerness_60, e_X5_eagerness_61, e_X5_eagerness_64, e_X5_eagerness_67, e_X5_eagerness_70, e_X5_eagerness_72, e_X5_eagerness_75, e_X5_eagerness_78, e_X5_eagerness_79, e_X5_eagerness_80, e_X5_eagerness_83, e_X5_eagerness_84, e_X5_eagerness_87, e_X5_eagerness_90, e_X5_eagerness_91, e_X5_eagerness_94, e_X5_eagerness_96, e_X5_eagerness_97, e_X5_eagerness_99, e_X5_eagerness_102, e_X5_eagerness_103, e_X5_eagerness_104, e_X5_eagerness_107, e_X5_eagerness_109, e_X5_eagerness_112, e_X5_eagerness_115, e_X5_eagerness_118, e_X5_eagerness_121, e_X5_eagerness_122, e_X5_eagerness_125, ob_r hf, rk_r1 hf, ar_r1 hf, kcl_i, kcl_r, kcl_l, kcl_0, kcl_n, true_and, and_true, rP_f2, nP_hi hc hb74, hn, Int32.le_refl, if_true, c_pop hf R2]
  · intro x ⟨s, v5, v6⟩ hx hs
    have hs1 : s.1 ≤ 40 := hs
    refine ⟨?_, gEag_le hs1⟩
    have c1 : (Int32.ofNat n ≤ Int32.ofNat x) = False := by rw [tn_le (by omega) (by omega)]; exact eq_false (by omega)
    have c2 : kin (Int32.ofNat x) 40 = True := by rw [tn_kin (by omega)]; exact eq_true (by omega)
    refine e_X5_eagerness_8.trans ?_
    simp only [e_X5_eagerness_0, e_X5_eagerness_1, e_X5_eagerness_2, e_X5_eagerness_5, e_X5_eagerness_6, e_X5_eagerness_10, e_X5_eagerness_11, e_X5_eagerness_14, e_X5_eagerness_17, e_X5_eagerness_18, e_X5_eagerness_21, e_X5_eagerness_23, e_X5_eagerness_24, e_X5_eagerness_26, e_X5_eagerness_28, e_X5_eagerness_31, e_X5_eagerness_34, e_X5_eagerness_35, e_X5_eagerness_37, e_X5_eagerness_40, e_X5_eagerness_43, e_X5_eagerness_45, e_X5_eagerness_48, e_X5_eagerness_51, e_X5_eagerness_52, e_X5_eagerness_54, e_X5_eagerness_57, e_X5_eagerness_58, e_X5_eagerness_59, e_X5_eagerness_60, e_X5_eagerness_61, e_X5_eagerness_64, e_X5_eagerness_67, e_X5_eagerness_70, e_X5_eagerness_72, e_X5_eagerness_75, e_X5_eagerness_78, e_X5_eagerness_79, e_X5_eagerness_80, e_X5_eagerness_83, e_X5_eagerness_84, e_X5_eagerness_87, e_X5_eagerness_90, e_X5_eagerness_91, e_X5_eagerness_94, e_X5_eagerness_96, e_X5_eagerness_97, e_X5_eagerness_99, e_X5_eagerness_102, e_X5_eagerness_103, e_X5_eagerness_104, e_X5_eagerness_107, e_X5_eagerness_109, e_X5_eagerness_112, e_X5_eagerness_115, e_X5_eagerness_118, e_X5_eagerness_121, e_X5_eagerness_122, e_X5_eagerness_125, ob_r hf, rk_r1 hf, ar_r1 hf, kcl_i, kcl_r, kcl_l, kcl_0, kcl_n, true_and, and_true, rP_f2, nP_hi hc hb74, nP_hi hc (show 74 ≤ b + 1 by omega), rP_1, hn, c1, c2, if_false, tn_cl (show x < 2147483648 by omega), c_push hf hs1, c_pop hf hs1, c_pop hf (pPop_le hs1), c_push hf (pPop_le hs1), c_push hf (pPop_le (pPop_le hs1)), c_valueOfR hf hc hm h8 ha, c_joined, tn_s]
    unfold gEag
    by_cases w1 : (1000 : Int32) ≤ i (b + 1) x
    · by_cases w2 : (2000 : Int32) ≤ i (b + 1) x
      · by_cases w3 : i (b + 1) x = 3000
        · simp only [w3]; rfl
        · simp only [w1, w2, w3, if_true, if_false, not_false_eq_true, and_self]
      · simp only [w1, w2, if_true, if_false, false_and]
    · have w2 : ¬ (2000 : Int32) ≤ i (b + 1) x := fun h => w1 (Int32.le_trans (by decide) h)
      simp only [w1, w2, if_true, if_false, false_and]
end TC
