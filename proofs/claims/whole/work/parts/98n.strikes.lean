/-! strikes, pays -/
section TC
variable {sc : Nat × (Nat → Int32)} {d y nx : Nat} {hd : List (Int × Nat)} {L st : List Value} {S : kS} {cu su : Nat} {i : Nat → Nat → Int32} {l : Nat → Nat → Int64} {f t c b m : Nat} {sp : Nat → Nat} {K : Option (Option Value) → kS → Prop}
variable {N M Z S1 Q : Nat → Int32} {i1 i2 i3 : Nat → Nat → Int32} {l2 : Nat → Nat → Int64} {n n2 k x : Nat} {v r : Int32} {zs zs2 : List Int64} {le co br acts code co2 br2 : Nat → Int32} {s : Nat × (Nat → Int32)} {w : WN} {u : WM}
/-- a row told number by number -/
def dl (D : Nat → Int64) : Nat → List Int64
  | 0 => []
  | x + 1 => dl D x ++ [D x]
theorem dl_len {D : Nat → Int64} : (dl D x).length = x := by
  induction x with
  | zero => rfl
  | succ x ih => rw [dl, List.length_append, ih]; rfl
theorem tC_app {z : Int64} : ∀ (zs : List Int64) (l : Nat → Nat → Int64) (k : Nat), tC l k (zs ++ [z]) = kupl (tC l k zs) 4 (k + zs.length) z := by
  intro zs
  induction zs with
  | nil => intro l k; rfl
  | cons a zs ih =>
    intro l k
    show tC (kupl l 4 k a) (k + 1) (zs ++ [z]) = kupl (tC (kupl l 4 k a) (k + 1) zs) 4 (k + (zs.length + 1)) z
    rw [ih, show k + 1 + zs.length = k + (zs.length + 1) by omega]
theorem tR_app {z : Int64} : ∀ (zs : List Int64) (l : Nat → Nat → Int64) (k : Nat), tR l k (zs ++ [z]) = kupl (tR l k zs) 92 (k + zs.length) z := by
  intro zs
  induction zs with
  | nil => intro l k; rfl
  | cons a zs ih =>
    intro l k
    show tR (kupl l 92 k a) (k + 1) (zs ++ [z]) = kupl (tR (kupl l 92 k a) (k + 1) zs) 92 (k + (zs.length + 1)) z
    rw [ih, show k + 1 + zs.length = k + (zs.length + 1) by omega]
theorem tC_dl {D : Nat → Int64} : kupl (tC l 0 (dl D x)) 4 x (D x) = tC l 0 (dl D (x + 1)) := by
  rw [dl, tC_app, dl_len, Nat.zero_add]
theorem tR_dl {D : Nat → Int64} : kupl (tR l 0 (dl D x)) 92 x (D x) = tR l 0 (dl D (x + 1)) := by
  rw [dl, tR_app, dl_len, Nat.zero_add]
theorem tR_get {D : Nat → Int64} {a : Nat} (h : a < x) : tR l 0 (dl D x) 92 a = D a := by
  induction x with
  | zero => omega
  | succ x ih =>
    rw [← tR_dl]
    by_cases e : a = x
    · subst e; rw [kupl_s]
    · rw [kupl_k e]; exact ih (by omega)
/-- who pays, what was said, where it strikes -/
theorem z27_pass {u : Int32} (hh : M 18 = -1 ∨ ∃ a, a < 8 ∧ M 18 = Int32.ofNat a) : (rPass M u 21 = M 21) ∨ (rPass M u 21 = M 21 + 1 ∧ zPass M Z u 27 = M 18 ∧ zPass M Z u 28 = M 17) := by
  unfold rPass zPass
  by_cases q : M 19 + u < M 20
  · rw [if_pos q]; left; exact kuf_n (by decide)
  · rw [if_neg q, if_neg q]; right
    refine ⟨?_, ?_, ?_⟩
    · unfold rStrike; rw [kuf_s, rPaid_n (by rw [kuf_n (by decide)]; exact hh) (Or.inr (by decide)), kuf_n (by decide)]
    · rw [kuf_n (by decide), kuf_s]
    · rw [kuf_s]
theorem z27_turn (hb8 : ∀ a, b8 (co2 a)) (h8 : m ≤ 8) (h : NR m N M) {w : Int32} (hw : w = -1 ∨ ∃ a, a < m ∧ w = Int32.ofNat a ∧ ¬ pSay co2 (M 17) (M 18) (Int32.ofNat m) (Int32.ofNat a) = 0) : (rTurn co2 le M m w 21 = M 21) ∨ (rTurn co2 le M m w 21 = M 21 + 1 ∧ zTurn co2 le M Z m w 27 = (if w = -1 then M 18 else w) ∧ zTurn co2 le M Z m w 28 = (if w = -1 then M 17 else M 17 ||| (1 <<< (pFirst (pSay co2 (M 17) (M 18) (Int32.ofNat m) w) &&& 31)))) := by
  unfold zTurn rTurn
  rcases hw with rfl | ⟨a, ha, rfl, hs⟩
  · rw [if_pos (by decide), if_pos (by decide), if_pos rfl, if_pos rfl]
    exact z27_pass (hat8 h8 h.1.2.2.2.1)
  · obtain ⟨k, hk, e1, _, e3⟩ := ntz_of (b8_say hb8) hs
    have r := refuse_0 h8 ha hs hk e3
    have cq := pCanTalk_q r.2
    rw [if_neg (tn_nn (by omega)), if_neg (tn_nn (by omega)), e1, if_neg (m1_ne (by omega)), if_neg (m1_ne (by omega))]
    unfold tZ tRow
    rw [if_pos r.1, if_pos r.1, tn_cl (by omega)]
    unfold zTalk rTalk
    have P := @z27_pass (rT6 M a 0 (Int32.ofNat k)) Z (rMins le 0 (Int32.ofNat k)) (rWear_ok h8 ha h.1 cq.2.2.1 cq.2.2.2)
    rw [rT6_t (j := 21) (by omega) (by omega)] at P
    have f18 : rT6 M a 0 (Int32.ofNat k) 18 = Int32.ofNat a := by
      unfold rT6; rw [kuf_n (by decide), kuf_n (by decide), kuf_n (by decide), kuf_n (by decide), kuf_s]; rfl
    have f17 : rT6 M a 0 (Int32.ofNat k) 17 = M 17 ||| (1 <<< (Int32.ofNat k &&& 31)) := by
      unfold rT6; rw [kuf_n (by decide), kuf_n (by decide), kuf_n (by decide), kuf_n (by decide), kuf_n (by decide), kuf_n (by omega)]
      unfold rSaid; rw [if_pos rfl, kuf_s]
    rw [f18, f17] at P
    exact P
def nWho (i : Nat → Nat → Int32) (f m n x : Nat) : Int32 := qSpk (i 8) (i 6) m (Ns i f m n x).1 (i (f + 1)) n
def nPay (i : Nat → Nat → Int32) (f m n x : Nat) : Int32 := if nWho i f m n x = -1 then (Ns i f m n x).1 18 else nWho i f m n x
def nSaid (i : Nat → Nat → Int32) (f m n x : Nat) : Int32 := if nWho i f m n x = -1 then (Ns i f m n x).1 17 else (Ns i f m n x).1 17 ||| (1 <<< (pFirst (pSay (i 8) ((Ns i f m n x).1 17) ((Ns i f m n x).1 18) (Int32.ofNat m) (nWho i f m n x)) &&& 31))
def nJ (i : Nat → Nat → Int32) (f m n : Nat) : Nat → Value × Value × Value
  | 0 => (.retAddr 0, .retAddr 0, .retAddr 0)
  | x + 1 => (.int (nWho i f m n x), .int (nPay i f m n x), .int (nSaid i f m n x))
theorem n99S {x : Nat} (hx : x < 99) : ((99 : Int32) < Int32.ofNat (x + 1)) = False := n99F (by omega)
theorem c_strikes (h : IV m i l f t sp) (e2 : i f 2 = Int32.ofNat n) (h40 : n ≤ 40) (hf : kRc f = true) : (∀ y, kfi (fun x => ¬ (Ns i f m n (x + 1)).1 21 = i 96 21) 99 0 = some y → CC 110 [.ref 0] i l f t sp (.int (Int32.ofNat (y + 1))) (wPut (gS i f (Ns i f m n (y + 1))) 2) (tC l 0 [(pNob (nPay i f m n y)).toInt64, (nSaid i f m n y).toInt64]) f t sp) ∧ (kfi (fun x => ¬ (Ns i f m n (x + 1)).1 21 = i 96 21) 99 0 = none → CC 110 [.ref 0] i l f t sp (.int (-2)) (gS i f (Ns i f m n 99)) l f t sp) := by
  obtain ⟨⟨h5, h91, h8, e9, hle, hpp⟩, _⟩ := id h
  have hNow := IV_now h
  have key : ∀ (sc : Nat × (Nat → Int32)) (d cu su : Nat) (K : Option (Option Value) → kS → Prop), kWP sc (d + 499) 110 0 [.ref 0, .retAddr 0, .retAddr 0, .retAddr 0, .retAddr 0] [] ((120, cu, su), i, l, kR f t sp) K = match kfi (fun x => ¬ (Ns i f m n (x + 1)).1 21 = i 96 21) 99 0 with | some y => K (some (some (.int (Int32.ofNat (y + 1))))) ((120, cu, su), wPut (gS i f (Ns i f m n (y + 1))) 2, tC l 0 [(pNob (nPay i f m n y)).toInt64, (nSaid i f m n y).toInt64], kR f t sp) | none => K (some (some (.int (-2)))) ((120, cu, su), gS i f (Ns i f m n 99), l, kR f t sp) := by
    intro sc d cu su K
    simp only [e_X10_strikes_0, e_X10_strikes_1, e_X10_strikes_4, e_X10_strikes_5, e_X10_strikes_8, e_X10_strikes_11, e_X10_strikes_12, e_X10_strikes_14, e_X10_strikes_16, e_X10_strikes_19, e_X10_strikes_20, e_X10_strikes_23, e_X10_strikes_24, e_X10_strikes_27, e_X10_strikes_28, e_X10_strikes_31, e_X10_strikes_34, e_X10_strikes_35, e_X10_strikes_36, e_X10_strikes_37, e_X10_strikes_40, e_X10_strikes_41, e_X10_strikes_44, e_X10_strikes_47, e_X10_strikes_50, e_X10_strikes_51, e_X10_strikes_52, e_X10_strikes_53, e_X10_strikes_56, e_X10_strikes_59, e_X10_strikes_61, e_X10_strikes_62, e_X10_strikes_63, e_X10_strikes_66, e_X10_strikes_68, e_X10_strikes_69, e_X10_strikes_70, e_X10_strikes_73, e_X10_strikes_74, e_X10_strikes_77, e_X10_strikes_78, e_X10_strikes_81, e_X10_strikes_84, e_X10_strikes_85, e_X10_strikes_86, e_X10_strikes_88, e_X10_strikes_89, e_X10_strikes_92, e_X10_strikes_93, e_X10_strikes_96, e_X10_strikes_97, e_X10_strikes_100, e_X10_strikes_101, e_X10_strikes_104, e_X10_strikes_107, e_X10_strikes_108, e_X10_strikes_111, e_X10_strikes_114, e_X10_strikes_117, e_X10_strikes_118, e_X10_strikes_121, e_X10_strikes_124, e_X10_strikes_125, e_X10_strikes_128, e_X10_strikes_129, e_X10_strikes_132, e_X10_strikes_133, e_X10_strikes_136, e_X10_strikes_137, e_X10_strikes_140, e_X10_strikes_142, e_X10_strikes_143, e_X10_strikes_146, e_X10_strikes_147, e_X10_strikes_148, e_X10_strikes_151, e_X10_strikes_154, e_X10_strikes_156, ob_0, rk_0_4, rk_0_3, ob_10, ob_13, rk_0_2, rk_0_10, rk_0_1, ob_3, kcl_i, kcl_r, kcl_l, kcl_0, kcl_n, true_and, and_true, c_copyG hf]
    refine (k_find (P := fun x => kWP sc (d + 499) 110 13 [.ref 0, .int (Int32.ofNat (x + 1)), (nJ i f m n x).1, (nJ i f m n x).2.1, (nJ i f m n x).2.2] [] ((120, cu, su), gS i f (Ns i f m n x), l, kR f t sp) K) (Q := fun y => K (some (some (.int (Int32.ofNat (y + 1))))) ((120, cu, su), wPut (gS i f (Ns i f m n (y + 1))) 2, tC l 0 [(pNob (nPay i f m n y)).toInt64, (nSaid i f m n y).toInt64], kR f t sp)) (p := fun x => ¬ (Ns i f m n (x + 1)).1 21 = i 96 21) (n := 99) ?_).trans ?_
    · intro x hx
      have eW : qSpk (i 8) (i 6) m (Ns i f m n x).1 (i (f + 1)) n = nWho i f m n x := rfl
      have eN : ∀ s2, (((Ns i f m n x).1, s2) : WN).1 = (Ns i f m n x).1 := fun _ => rfl
      have eT : (qTake (i 9) (i 8) (Int32.ofNat m) (Ns i f m n x).1 (nWho i f m n x), sSpk (i 8) (i 6) m (Ns i f m n x).1 (i (f + 1)) n (Ns i f m n x).2) = Ns i f m n (x + 1) := rfl
      have hm2 : ∀ w : WN, gS i f w 5 0 = Int32.ofNat m := fun w => by rw [gS_lo hf (by decide)]; exact h5
      have e8 : ∀ w : WN, gS i f w 8 = i 8 := fun w => gS_lo hf (by decide)
      have e10 : ∀ w : WN, gS i f w 10 = i 10 := fun w => gS_lo hf (by decide)
      refine e_X10_strikes_13.trans ?_
      simp only [e_X10_strikes_0, e_X10_strikes_1, e_X10_strikes_4, e_X10_strikes_5, e_X10_strikes_8, e_X10_strikes_11, e_X10_strikes_12, e_X10_strikes_14, e_X10_strikes_16, e_X10_strikes_19, e_X10_strikes_20, e_X10_strikes_23, e_X10_strikes_24, e_X10_strikes_27, e_X10_strikes_28, e_X10_strikes_31, e_X10_strikes_34, e_X10_strikes_35, e_X10_strikes_36, e_X10_strikes_37, e_X10_strikes_40, e_X10_strikes_41, e_X10_strikes_44, e_X10_strikes_47, e_X10_strikes_50, e_X10_strikes_51, e_X10_strikes_52, e_X10_strikes_53, e_X10_strikes_56, e_X10_strikes_59, e_X10_strikes_61, e_X10_strikes_62, e_X10_strikes_63, e_X10_strikes_66, e_X10_strikes_68, e_X10_strikes_69, e_X10_strikes_70, e_X10_strikes_73, e_X10_strikes_74, e_X10_strikes_77, e_X10_strikes_78, e_X10_strikes_81, e_X10_strikes_84, e_X10_strikes_85, e_X10_strikes_86, e_X10_strikes_88, e_X10_strikes_89, e_X10_strikes_92, e_X10_strikes_93, e_X10_strikes_96, e_X10_strikes_97, e_X10_strikes_100, e_X10_strikes_101, e_X10_strikes_104, e_X10_strikes_107, e_X10_strikes_108, e_X10_strikes_111, e_X10_strikes_114, e_X10_strikes_117, e_X10_strikes_118, e_X10_strikes_121, e_X10_strikes_124, e_X10_strikes_125, e_X10_strikes_128, e_X10_strikes_129, e_X10_strikes_132, e_X10_strikes_133, e_X10_strikes_136, e_X10_strikes_137, e_X10_strikes_140, e_X10_strikes_142, e_X10_strikes_143, e_X10_strikes_146, e_X10_strikes_147, e_X10_strikes_148, e_X10_strikes_151, e_X10_strikes_154, e_X10_strikes_156, ob_0, rk_0_4, rk_0_3, ob_10, ob_13, rk_0_2, rk_0_10, rk_0_1, ob_3, kcl_i, kcl_r, kcl_l, kcl_0, kcl_n, true_and, and_true, n99S hx, if_false, c_speakerG hf h5 h8 e2 h40, eW, (gS_13 hf).1, (gS_13 hf).2.1, (gS_13 hf).2.2.2.2, c_sayable c13 (hm2 _) h8, hm2, e8, e10, c_firstOf, c_takeG hf h5 h8, eT, hNow.2.2.2.2.1]
      have tail : ∀ p s0 : Int32, p = nPay i f m n x → s0 = nSaid i f m n x → (if (Ns i f m n (x + 1)).1 21 = i 96 21 then kWP sc (d + 499) 110 13 [.ref 0, .int (Int32.ofNat (x + 1) + 1), .int (nWho i f m n x), .int p, .int s0] [] ((120, cu, su), gS i f (Ns i f m n (x + 1)), l, kR f t sp) K else K (some (some (.int (Int32.ofNat (x + 1))))) ((120, cu, su), wPut (gS i f (Ns i f m n (x + 1))) 2, tC l 0 [(pNob p).toInt64, s0.toInt64], kR f t sp)) = (if ¬ (Ns i f m n (x + 1)).1 21 = i 96 21 then K (some (some (.int (Int32.ofNat (x + 1))))) ((120, cu, su), wPut (gS i f (Ns i f m n (x + 1))) 2, tC l 0 [(pNob (nPay i f m n x)).toInt64, (nSaid i f m n x).toInt64], kR f t sp) else kWP sc (d + 499) 110 13 [.ref 0, .int (Int32.ofNat (x + 1 + 1)), (nJ i f m n (x + 1)).1, (nJ i f m n (x + 1)).2.1, (nJ i f m n (x + 1)).2.2] [] ((120, cu, su), gS i f (Ns i f m n (x + 1)), l, kR f t sp) K) := by
        intro p s0 hp hs0
        subst hp; subst hs0
        by_cases q : (Ns i f m n (x + 1)).1 21 = i 96 21
        · simp only [q, if_true, not_true_eq_false, if_false, tn_s]; rfl
        · simp only [q, if_false, not_false_eq_true, if_true]
      by_cases q : nWho i f m n x = -1
      · rw [← tail ((Ns i f m n x).1 18) ((Ns i f m n x).1 17) (by unfold nPay; rw [if_pos q]) (by unfold nSaid; rw [if_pos q])]
        simp only [q, if_true, c_start, c_radd (show 0 < 128 by decide), c_radd (show 0 + 1 < 128 by decide), c_orNobody, e_X10_strikes_0, e_X10_strikes_1, e_X10_strikes_4, e_X10_strikes_5, e_X10_strikes_8, e_X10_strikes_11, e_X10_strikes_12, e_X10_strikes_14, e_X10_strikes_16, e_X10_strikes_19, e_X10_strikes_20, e_X10_strikes_23, e_X10_strikes_24, e_X10_strikes_27, e_X10_strikes_28, e_X10_strikes_31, e_X10_strikes_34, e_X10_strikes_35, e_X10_strikes_36, e_X10_strikes_37, e_X10_strikes_40, e_X10_strikes_41, e_X10_strikes_44, e_X10_strikes_47, e_X10_strikes_50, e_X10_strikes_51, e_X10_strikes_52, e_X10_strikes_53, e_X10_strikes_56, e_X10_strikes_59, e_X10_strikes_61, e_X10_strikes_62, e_X10_strikes_63, e_X10_strikes_66, e_X10_strikes_68, e_X10_strikes_69, e_X10_strikes_70, e_X10_strikes_73, e_X10_strikes_74, e_X10_strikes_77, e_X10_strikes_78, e_X10_strikes_81, e_X10_strikes_84, e_X10_strikes_85, e_X10_strikes_86, e_X10_strikes_88, e_X10_strikes_89, e_X10_strikes_92, e_X10_strikes_93, e_X10_strikes_96, e_X10_strikes_97, e_X10_strikes_100, e_X10_strikes_101, e_X10_strikes_104, e_X10_strikes_107, e_X10_strikes_108, e_X10_strikes_111, e_X10_strikes_114, e_X10_strikes_117, e_X10_strikes_118, e_X10_strikes_121, e_X10_strikes_124, e_X10_strikes_125, e_X10_strikes_128, e_X10_strikes_129, e_X10_strikes_132, e_X10_strikes_133, e_X10_strikes_136, e_X10_strikes_137, e_X10_strikes_140, e_X10_strikes_142, e_X10_strikes_143, e_X10_strikes_146, e_X10_strikes_147, e_X10_strikes_148, e_X10_strikes_151, e_X10_strikes_154, e_X10_strikes_156, ob_0, rk_0_4, rk_0_3, ob_10, ob_13, rk_0_2, rk_0_10, rk_0_1, ob_3, kcl_i, kcl_r, kcl_l, kcl_0, kcl_n, true_and, and_true]
        by_cases q2 : (Ns i f m n (x + 1)).1 21 = i 96 21
        · simp only [q2, if_true]
        · simp only [q2, if_false]; rfl
      · rw [← tail (nWho i f m n x) ((Ns i f m n x).1 17 ||| (1 <<< (pFirst (pSay (i 8) ((Ns i f m n x).1 17) ((Ns i f m n x).1 18) (Int32.ofNat m) (nWho i f m n x)) &&& 31))) (by unfold nPay; rw [if_neg q]) (by unfold nSaid; rw [if_neg q])]
        simp only [q, if_false, c_start, c_radd (show 0 < 128 by decide), c_radd (show 0 + 1 < 128 by decide), c_orNobody, e_X10_strikes_0, e_X10_strikes_1, e_X10_strikes_4, e_X10_strikes_5, e_X10_strikes_8, e_X10_strikes_11, e_X10_strikes_12, e_X10_strikes_14, e_X10_strikes_16, e_X10_strikes_19, e_X10_strikes_20, e_X10_strikes_23, e_X10_strikes_24, e_X10_strikes_27, e_X10_strikes_28, e_X10_strikes_31, e_X10_strikes_34, e_X10_strikes_35, e_X10_strikes_36, e_X10_strikes_37, e_X10_strikes_40, e_X10_strikes_41, e_X10_strikes_44, e_X10_strikes_47, e_X10_strikes_50, e_X10_strikes_51, e_X10_strikes_52, e_X10_strikes_53, e_X10_strikes_56, e_X10_strikes_59, e_X10_strikes_61, e_X10_strikes_62, e_X10_strikes_63, e_X10_strikes_66, e_X10_strikes_68, e_X10_strikes_69, e_X10_strikes_70, e_X10_strikes_73, e_X10_strikes_74, e_X10_strikes_77, e_X10_strikes_78, e_X10_strikes_81, e_X10_strikes_84, e_X10_strikes_85, e_X10_strikes_86, e_X10_strikes_88, e_X10_strikes_89, e_X10_strikes_92, e_X10_strikes_93, e_X10_strikes_96, e_X10_strikes_97, e_X10_strikes_100, e_X10_strikes_101, e_X10_strikes_104, e_X10_strikes_107, e_X10_strikes_108, e_X10_strikes_111, e_X10_strikes_114, e_X10_strikes_117, e_X10_strikes_118, e_X10_strikes_121, e_X10_strikes_124, e_X10_strikes_125, e_X10_strikes_128, e_X10_strikes_129, e_X10_strikes_132, e_X10_strikes_133, e_X10_strikes_136, e_X10_strikes_137, e_X10_strikes_140, e_X10_strikes_142, e_X10_strikes_143, e_X10_strikes_146, e_X10_strikes_147, e_X10_strikes_148, e_X10_strikes_151, e_X10_strikes_154, e_X10_strikes_156, ob_0, rk_0_4, rk_0_3, ob_10, ob_13, rk_0_2, rk_0_10, rk_0_1, ob_3, kcl_i, kcl_r, kcl_l, kcl_0, kcl_n, true_and, and_true]
        by_cases q2 : (Ns i f m n (x + 1)).1 21 = i 96 21
        · simp only [q2, if_true]
        · simp only [q2, if_false]; rfl
    · cases kfi (fun x => ¬ (Ns i f m n (x + 1)).1 21 = i 96 21) 99 0 with
      | some y => rfl
      | none =>
        refine e_X10_strikes_13.trans ?_
        simp only [e_X10_strikes_0, e_X10_strikes_1, e_X10_strikes_4, e_X10_strikes_5, e_X10_strikes_8, e_X10_strikes_11, e_X10_strikes_12, e_X10_strikes_14, e_X10_strikes_16, e_X10_strikes_19, e_X10_strikes_20, e_X10_strikes_23, e_X10_strikes_24, e_X10_strikes_27, e_X10_strikes_28, e_X10_strikes_31, e_X10_strikes_34, e_X10_strikes_35, e_X10_strikes_36, e_X10_strikes_37, e_X10_strikes_40, e_X10_strikes_41, e_X10_strikes_44, e_X10_strikes_47, e_X10_strikes_50, e_X10_strikes_51, e_X10_strikes_52, e_X10_strikes_53, e_X10_strikes_56, e_X10_strikes_59, e_X10_strikes_61, e_X10_strikes_62, e_X10_strikes_63, e_X10_strikes_66, e_X10_strikes_68, e_X10_strikes_69, e_X10_strikes_70, e_X10_strikes_73, e_X10_strikes_74, e_X10_strikes_77, e_X10_strikes_78, e_X10_strikes_81, e_X10_strikes_84, e_X10_strikes_85, e_X10_strikes_86, e_X10_strikes_88, e_X10_strikes_89, e_X10_strikes_92, e_X10_strikes_93, e_X10_strikes_96, e_X10_strikes_97, e_X10_strikes_100, e_X10_strikes_101, e_X10_strikes_104, e_X10_strikes_107, e_X10_strikes_108, e_X10_strikes_111, e_X10_strikes_114, e_X10_strikes_117, e_X10_strikes_118, e_X10_strikes_121, e_X10_strikes_124, e_X10_strikes_125, e_X10_strikes_128, e_X10_strikes_129, e_X10_strikes_132, e_X10_strikes_133, e_X10_strikes_136, e_X10_strikes_137, e_X10_strikes_140, e_X10_strikes_142, e_X10_strikes_143, e_X10_strikes_146, e_X10_strikes_147, e_X10_strikes_148, e_X10_strikes_151, e_X10_strikes_154, e_X10_strikes_156, ob_0, rk_0_4, rk_0_3, ob_10, ob_13, rk_0_2, rk_0_10, rk_0_1, ob_3, kcl_i, kcl_r, kcl_l, kcl_0, kcl_n, true_and, and_true, show ((99 : Int32) < Int32.ofNat (99 + 1)) = True from eq_true (by decide), if_true]
  constructor
  · intro z hz sc d y nx hd L st cu su K
    refine kCA_of (d := d + 499) (v := some (.int _)) (fun K => ?_)
    rw [km_110]
    show kWP sc (d + 499) 110 0 [.ref 0, .retAddr 0, .retAddr 0, .retAddr 0, .retAddr 0] [] _ K = _
    rw [key, hz]
  · intro hz sc d y nx hd L st cu su K
    refine kCA_of (d := d + 499) (v := some (.int _)) (fun K => ?_)
    rw [km_110]
    show kWP sc (d + 499) 110 0 [.ref 0, .retAddr 0, .retAddr 0, .retAddr 0, .retAddr 0] [] _ K = _
    rw [key, hz]
/-- the reference's rows, struckMany 0 -/
def Y0 (i : Nat → Nat → Int32) : WM := uZ (u0 i) (kuf (u0 i).2.1 25 0)
def Ys (i : Nat → Nat → Int32) (m n2 x : Nat) : WM := rTs (i 93) (mCo i) (i 94) m (i 100) n2 x (Y0 i)
theorem m_strikes (h : RF m n2 (uPut i) N) : (∀ y, kfi (fun x => ¬ (Ys (uPut i) m n2 (x + 1)).2.1 25 ≤ 0) 99 0 = some y → CC 215 [.ref 91] i l f t sp (.int (Int32.ofNat (y + 1))) (vPut (mS (uPut i) 97 (Ys (uPut i) m n2 (y + 1))) 2) (tR l 0 [(if (Ys (uPut i) m n2 (y + 1)).2.1 27 < 0 then (-2 : Int32) else (Ys (uPut i) m n2 (y + 1)).2.1 27).toInt64, ((Ys (uPut i) m n2 (y + 1)).2.1 28).toInt64]) f t sp) ∧ (kfi (fun x => ¬ (Ys (uPut i) m n2 (x + 1)).2.1 25 ≤ 0) 99 0 = none → CC 215 [.ref 91] i l f t sp (.int (-2)) (mS (uPut i) 97 (Ys (uPut i) m n2 99)) l f t sp) := by
  obtain ⟨hm, h8, hn, hc, hle, hN⟩ := id h
  have key : ∀ (sc : Nat × (Nat → Int32)) (d cu su : Nat) (K : Option (Option Value) → kS → Prop), kWP sc (d + 499) 215 0 [.ref 91, .retAddr 0] [] ((120, cu, su), i, l, kR f t sp) K = match kfi (fun x => ¬ (Ys (uPut i) m n2 (x + 1)).2.1 25 ≤ 0) 99 0 with | some y => K (some (some (.int (Int32.ofNat (y + 1))))) ((120, cu, su), vPut (mS (uPut i) 97 (Ys (uPut i) m n2 (y + 1))) 2, tR l 0 [(if (Ys (uPut i) m n2 (y + 1)).2.1 27 < 0 then (-2 : Int32) else (Ys (uPut i) m n2 (y + 1)).2.1 27).toInt64, ((Ys (uPut i) m n2 (y + 1)).2.1 28).toInt64], kR f t sp) | none => K (some (some (.int (-2)))) ((120, cu, su), mS (uPut i) 97 (Ys (uPut i) m n2 99), l, kR f t sp) := by
    intro sc d cu su K
    simp only [e_X11_strikes_0, e_X11_strikes_1, e_X11_strikes_2, e_X11_strikes_5, e_X11_strikes_6, e_X11_strikes_9, e_X11_strikes_10, e_X11_strikes_11, e_X11_strikes_14, e_X11_strikes_15, e_X11_strikes_17, e_X11_strikes_19, e_X11_strikes_22, e_X11_strikes_23, e_X11_strikes_24, e_X11_strikes_27, e_X11_strikes_30, e_X11_strikes_31, e_X11_strikes_34, e_X11_strikes_37, e_X11_strikes_38, e_X11_strikes_39, e_X11_strikes_42, e_X11_strikes_43, e_X11_strikes_44, e_X11_strikes_47, e_X11_strikes_50, e_X11_strikes_51, e_X11_strikes_54, e_X11_strikes_55, e_X11_strikes_56, e_X11_strikes_59, e_X11_strikes_60, e_X11_strikes_63, e_X11_strikes_64, e_X11_strikes_65, e_X11_strikes_68, e_X11_strikes_71, e_X11_strikes_73, ob_91, rk_91_9, ar_97, kcl_i, kcl_r, kcl_l, kcl_0, kcl_n, true_and, and_true, uP_0, m_copies, mS_z b97 (show 25 ≤ 25 by decide) (show 25 < 29 by decide)]
    refine (k_find (P := fun x => kWP sc (d + 499) 215 16 [.ref 91, .int (Int32.ofNat (x + 1))] [] ((120, cu, su), mS (uPut i) 97 (Ys (uPut i) m n2 x), l, kR f t sp) K) (Q := fun y => K (some (some (.int (Int32.ofNat (y + 1))))) ((120, cu, su), vPut (mS (uPut i) 97 (Ys (uPut i) m n2 (y + 1))) 2, tR l 0 [(if (Ys (uPut i) m n2 (y + 1)).2.1 27 < 0 then (-2 : Int32) else (Ys (uPut i) m n2 (y + 1)).2.1 27).toInt64, ((Ys (uPut i) m n2 (y + 1)).2.1 28).toInt64], kR f t sp)) (p := fun x => ¬ (Ys (uPut i) m n2 (x + 1)).2.1 25 ≤ 0) (n := 99) ?_).trans ?_
    · intro x hx
      obtain ⟨N2, hN2⟩ := rTs_NR h (Y0 (uPut i)) rfl x
      have e : rTs ((uPut i) 93) (mCo (uPut i)) ((uPut i) 94) m ((uPut i) 100) n2 x (Y0 (uPut i)) = Ys (uPut i) m n2 x := rfl
      rw [e] at hN2
      have eT : rT ((uPut i) 93) (mCo (uPut i)) ((uPut i) 94) m ((uPut i) 100) n2 (Ys (uPut i) m n2 x) = Ys (uPut i) m n2 (x + 1) := rfl
      have z27 : ∀ k, vPut (mS (uPut i) 97 (Ys (uPut i) m n2 (x + 1))) k 91 27 = (Ys (uPut i) m n2 (x + 1)).2.1 27 := fun k => by rw [vP_f (by decide), mS_zr b97 (by decide) (by decide)]
      have z28 : ∀ k, vPut (mS (uPut i) 97 (Ys (uPut i) m n2 (x + 1))) k 91 28 = (Ys (uPut i) m n2 (x + 1)).2.1 28 := fun k => by rw [vP_f (by decide), mS_zr b97 (by decide) (by decide)]
      refine e_X11_strikes_16.trans ?_
      simp only [e_X11_strikes_0, e_X11_strikes_1, e_X11_strikes_2, e_X11_strikes_5, e_X11_strikes_6, e_X11_strikes_9, e_X11_strikes_10, e_X11_strikes_11, e_X11_strikes_14, e_X11_strikes_15, e_X11_strikes_17, e_X11_strikes_19, e_X11_strikes_22, e_X11_strikes_23, e_X11_strikes_24, e_X11_strikes_27, e_X11_strikes_30, e_X11_strikes_31, e_X11_strikes_34, e_X11_strikes_37, e_X11_strikes_38, e_X11_strikes_39, e_X11_strikes_42, e_X11_strikes_43, e_X11_strikes_44, e_X11_strikes_47, e_X11_strikes_50, e_X11_strikes_51, e_X11_strikes_54, e_X11_strikes_55, e_X11_strikes_56, e_X11_strikes_59, e_X11_strikes_60, e_X11_strikes_63, e_X11_strikes_64, e_X11_strikes_65, e_X11_strikes_68, e_X11_strikes_71, e_X11_strikes_73, ob_91, rk_91_9, ar_97, kcl_i, kcl_r, kcl_l, kcl_0, kcl_n, true_and, and_true, n99S hx, if_false, m_turn b97 hm h8 hn hc hN2, eT, mS_zr b97 (show 25 ≤ 25 by decide) (show 25 < 29 by decide)]
      by_cases q : (Ys (uPut i) m n2 (x + 1)).2.1 25 ≤ 0
      · simp only [q, if_true, not_true_eq_false, if_false, tn_s]
      · simp only [q, if_false, not_false_eq_true, if_true, vP_0, z27, z28, m_orNobody, m_enters (show 0 < 256 by decide), m_enters (show 0 + 1 < 256 by decide), e_X11_strikes_0, e_X11_strikes_1, e_X11_strikes_2, e_X11_strikes_5, e_X11_strikes_6, e_X11_strikes_9, e_X11_strikes_10, e_X11_strikes_11, e_X11_strikes_14, e_X11_strikes_15, e_X11_strikes_17, e_X11_strikes_19, e_X11_strikes_22, e_X11_strikes_23, e_X11_strikes_24, e_X11_strikes_27, e_X11_strikes_30, e_X11_strikes_31, e_X11_strikes_34, e_X11_strikes_37, e_X11_strikes_38, e_X11_strikes_39, e_X11_strikes_42, e_X11_strikes_43, e_X11_strikes_44, e_X11_strikes_47, e_X11_strikes_50, e_X11_strikes_51, e_X11_strikes_54, e_X11_strikes_55, e_X11_strikes_56, e_X11_strikes_59, e_X11_strikes_60, e_X11_strikes_63, e_X11_strikes_64, e_X11_strikes_65, e_X11_strikes_68, e_X11_strikes_71, e_X11_strikes_73, ob_91, rk_91_9, ar_97, kcl_i, kcl_r, kcl_l, kcl_0, kcl_n, true_and, and_true]
        rfl
    · cases kfi (fun x => ¬ (Ys (uPut i) m n2 (x + 1)).2.1 25 ≤ 0) 99 0 with
      | some y => rfl
      | none =>
        refine e_X11_strikes_16.trans ?_
        simp only [e_X11_strikes_0, e_X11_strikes_1, e_X11_strikes_2, e_X11_strikes_5, e_X11_strikes_6, e_X11_strikes_9, e_X11_strikes_10, e_X11_strikes_11, e_X11_strikes_14, e_X11_strikes_15, e_X11_strikes_17, e_X11_strikes_19, e_X11_strikes_22, e_X11_strikes_23, e_X11_strikes_24, e_X11_strikes_27, e_X11_strikes_30, e_X11_strikes_31, e_X11_strikes_34, e_X11_strikes_37, e_X11_strikes_38, e_X11_strikes_39, e_X11_strikes_42, e_X11_strikes_43, e_X11_strikes_44, e_X11_strikes_47, e_X11_strikes_50, e_X11_strikes_51, e_X11_strikes_54, e_X11_strikes_55, e_X11_strikes_56, e_X11_strikes_59, e_X11_strikes_60, e_X11_strikes_63, e_X11_strikes_64, e_X11_strikes_65, e_X11_strikes_68, e_X11_strikes_71, e_X11_strikes_73, ob_91, rk_91_9, ar_97, kcl_i, kcl_r, kcl_l, kcl_0, kcl_n, true_and, and_true, show ((99 : Int32) < Int32.ofNat (99 + 1)) = True from eq_true (by decide), if_true]
  constructor
  · intro z hz sc d y nx hd L st cu su K
    refine kCA_of (d := d + 499) (v := some (.int _)) (fun K => ?_)
    rw [km_215]
    show kWP sc (d + 499) 215 0 [.ref 91, .retAddr 0] [] _ K = _
    rw [key, hz]
  · intro hz sc d y nx hd L st cu su K
    refine kCA_of (d := d + 499) (v := some (.int _)) (fun K => ?_)
    rw [km_215]
    show kWP sc (d + 499) 215 0 [.ref 91, .retAddr 0] [] _ K = _
    rw [key, hz]
theorem Ys_NR (h : IV m i l f t sp) (hr : RR (i (f + 1)) n (i 100) n2) (ag : kAg kSc i i2) : ∀ x, NR m (Ns i f m n x).1 (Ys i2 m n2 x).1 ∧ (Ys i2 m n2 x).2.1 25 = (Ys i2 m n2 x).1 21 - i 96 21 ∧ nWho i f m n x = (rSpk (mCo i) (i 94) (Ys i2 m n2 x).1 m (i 100) n2 (Ys i2 m n2 x).2.2.1 (Ys i2 m n2 x).2.2.2).1 ∧ Ys i2 m n2 (x + 1) = rT (i 93) (mCo i) (i 94) m (i 100) n2 (Ys i2 m n2 x) := by
  obtain ⟨⟨h5, h91, h8, e9, hle, hp⟩, _, _, hN, _⟩ := h
  obtain ⟨c0, c1, c2, c3, c4⟩ := ag_cells ag
  intro x
  have R := S_rel (w := (nGet i 10, rGet i f)) (u := Y0 i2) (le := i 93) (co := i 8) (co2 := mCo i) (br := i 6) (br2 := i 94) (n := n) (n2 := n2) (acts := i (f + 1)) (code := i 100) (fun a ha => (hp a ha).2.2) (fun a ha => (hp a ha).1) (fun a => b8_mCo a) h8 hle hr (by show NR m (nGet i 10) (i2 96); rw [c4]; exact hN) x
  have R1 : NR m (Ns i f m n x).1 (rTs (i 93) (mCo i) (i 94) m (i 100) n2 x (Y0 i2)).1 := by
    have := R.1
    rw [← e9] at this ⊢
    exact this
  unfold Ys
  rw [c0, c1, c2, c3]
  have g1 : (Y0 i2).2.1 25 = 0 := rfl
  have g2 : (Y0 i2).1 21 = i 96 21 := by show i2 96 21 = _; rw [c4]
  refine ⟨R1, R.2.trans ?_, ?_, rfl⟩
  · rw [g1, g2, Int32.zero_add]
  · exact spk_eq (fun a ha => (hp a ha).2.2) (fun a ha => (hp a ha).1) h8 R1.1 hr
theorem Ys_21 (h : IV m i l f t sp) (hr : RR (i (f + 1)) n (i 100) n2) (ag : kAg kSc i i2) : ∀ x, ∃ c, c ≤ x ∧ (Ys i2 m n2 x).1 21 = i 96 21 + Int32.ofNat c := by
  have h8 := h.1.2.2.1
  obtain ⟨c0, c1, c2, c3, c4⟩ := ag_cells ag
  intro x
  induction x with
  | zero =>
    refine ⟨0, Nat.le_refl 0, ?_⟩
    show i2 96 21 = _
    rw [c4]; exact (Int32.add_zero _).symm
  | succ x ih =>
    obtain ⟨c, hc, e⟩ := ih
    have Y := Ys_NR h hr ag x
    have ok := @rSpk_ok m (Ys i2 m n2 x).1 (Ys i2 m n2 x).2.2.1 (Ys i2 m n2 x).2.2.2 (mCo i) (i 94) n2 (i 100) h8
    have T := z27_turn (le := i 93) (Z := (Ys i2 m n2 x).2.1) (fun a => b8_mCo (i := i) a) h8 Y.1 ok
    rw [Y.2.2.2]
    rcases T with T | ⟨T, _⟩
    · exact ⟨c, by omega, T.trans e⟩
    · refine ⟨c + 1, by omega, T.trans ?_⟩
      rw [e, Int32.add_assoc, tn_s]
theorem i_asc {a b : Int32} : a + b - a = b := by rw [Int32.add_comm, Int32.add_sub_cancel]
theorem J_strikes (h : IV m i l f t sp) : JJ 110 215 [] i l f t sp := by
  obtain ⟨⟨h5, h91, h8, e9, hle, hpp⟩, _⟩ := id h
  obtain ⟨n, n2, e2, h40, e19, hr, hf⟩ := IV_rule h
  have C := c_strikes h e2 h40 hf
  have eq : ∀ {i2 : Nat → Nat → Int32}, kAg kSc i i2 → kfi (fun x => ¬ (Ys i2 m n2 (x + 1)).2.1 25 ≤ 0) 99 0 = kfi (fun x => ¬ (Ns i f m n (x + 1)).1 21 = i 96 21) 99 0 := by
    intro i2 ag
    apply kfi_congr
    intro x _ hx
    have Y := Ys_NR h hr ag (x + 1)
    obtain ⟨c, hc, e⟩ := Ys_21 h hr ag (x + 1)
    rw [Y.2.1, Y.1.1.1 21 (by decide), e, i_asc, le0_nat (by omega), Classical.not_not]
    constructor
    · intro q z
      have : Int32.ofNat c = 0 := by rw [← @i_asc (i 96 21) (Int32.ofNat c), z, Int32.sub_self]
      rw [tn_z (by omega)] at this; omega
    · intro q
      apply Classical.byContradiction
      intro z
      have : c = 0 := by omega
      subst this
      exact q (Int32.add_zero _)
  cases hk : kfi (fun x => ¬ (Ns i f m n (x + 1)).1 21 = i 96 21) 99 0 with
  | some z =>
    have ag : kAg kSc i (uPut (wPut (gS i f (Ns i f m n (z + 1))) 2)) := ag_uu (ag_w (ag_gS hf))
    refine JJ_q h (Int32.ofNat (z + 1)) 2 (gS i f (Ns i f m n (z + 1))) (mS (uPut (wPut (gS i f (Ns i f m n (z + 1))) 2)) 97 (Ys (uPut (wPut (gS i f (Ns i f m n (z + 1))) 2)) m n2 (z + 1))) [(pNob (nPay i f m n z)).toInt64, (nSaid i f m n z).toInt64] rfl (by decide) (ag_gS hf) (ag_mS (ag_uu ag_r)) rfl (C.1 z hk) ?_
    have W := (m_strikes (i := wPut (gS i f (Ns i f m n (z + 1))) 2) (l := tC l 0 [(pNob (nPay i f m n z)).toInt64, (nSaid i f m n z).toInt64]) (f := f) (t := t) (sp := sp) (RF_of h e19 hr ag)).1 z ((eq ag).trans hk)
    have Y := Ys_NR h hr ag z
    have Y1 := Ys_NR h hr ag (z + 1)
    have hz := kfi_some hk
    generalize hG : uPut (wPut (gS i f (Ns i f m n (z + 1))) 2) = i2 at W Y Y1 ag
    have ok := @rSpk_ok m (Ys i2 m n2 z).1 (Ys i2 m n2 z).2.2.1 (Ys i2 m n2 z).2.2.2 (mCo i) (i 94) n2 (i 100) h8
    have T := z27_turn (le := i 93) (Z := (Ys i2 m n2 z).2.1) (fun a => b8_mCo (i := i) a) h8 Y.1 ok
    -- before z nothing struck
    have hno : (Ys i2 m n2 z).1 21 = i 96 21 := by
      by_cases z0 : z = 0
      · subst z0
        show i2 96 21 = _
        rw [(ag_cells ag).2.2.2.2]
      · have hb : ∀ {p : Nat → Prop} [DecidablePred p] {k x y : Nat}, kfi p k x = some y → ∀ q, x ≤ q → q < y → ¬ p q := by
          intro p _ k
          induction k with
          | zero => intro x y e; cases e
          | succ k ih =>
            intro x y e q h1 h2
            rw [kfi] at e
            by_cases w : p x
            · rw [if_pos w] at e; cases e; omega
            · rw [if_neg w] at e
              by_cases e3 : q = x
              · subst e3; exact w
              · exact ih e q (by omega) h2
        have := hb hk (z - 1) (Nat.zero_le _) (by omega)
        rw [show z - 1 + 1 = z by omega, Classical.not_not] at this
        rw [← Y.1.1.1 21 (by decide)]; exact this
    rcases T with T | ⟨T1, T2, T3⟩
    · exfalso
      apply hz.2.2
      rw [Y1.1.1.1 21 (by decide), Y.2.2.2]
      exact T.trans hno
    · have eW := Y.2.2.1
      have p1 : (Ys i2 m n2 (z + 1)).2.1 27 = nPay i f m n z := by
        rw [Y.2.2.2]
        refine T2.trans ?_
        unfold nPay
        rw [← eW, Y.1.1.1 18 (by decide)]
      have p2 : (Ys i2 m n2 (z + 1)).2.1 28 = nSaid i f m n z := by
        rw [Y.2.2.2]
        refine T3.trans ?_
        unfold nSaid
        rw [← eW, Y.1.1.1 17 (by decide), Y.1.1.1 18 (by decide)]
        rw [← eW] at ok
        rcases ok with e | ⟨a, ha, e, _⟩
        · rw [e, if_pos rfl, if_pos rfl]
        · rw [e, pSay_c (co := i 8) (co2 := mCo i) (fun a ha => (hpp a ha).2.2) h8 ha]
      have p3 : (if (Ys i2 m n2 (z + 1)).2.1 27 < 0 then (-2 : Int32) else (Ys i2 m n2 (z + 1)).2.1 27) = pNob (nPay i f m n z) := by
        rw [p1]
        apply nob_eq (m := m) ?_ h8
        unfold nPay
        rw [← eW] at ok
        rcases ok with e | ⟨a, ha, e, _⟩
        · rw [e, if_pos rfl, Y.1.1.1 18 (by decide)]; exact Y.1.1.2.2.2.1
        · rw [e, if_neg (m1_ne (by omega))]; exact Or.inr ⟨a, ha, rfl⟩
      rw [p3, p2] at W
      exact W
  | none =>
    have ag : kAg kSc i (uPut (gS i f (Ns i f m n 99))) := ag_uu (ag_gS hf)
    refine JJ_n h (-2) (gS i f (Ns i f m n 99)) (mS (uPut (gS i f (Ns i f m n 99))) 97 (Ys (uPut (gS i f (Ns i f m n 99))) m n2 99)) (ag_gS hf) (ag_mS (ag_uu ag_r)) ?_ ?_ (C.2 hk) ?_
    · show gS i f (Ns i f m n 99) 3 1 = i 3 1
      rw [gS_lo hf (by decide)]
    · show gS i f (Ns i f m n 99) 91 1 = i 91 1
      unfold gS
      rw [rP_hi hf (by decide), nP_hi c13 (by decide)]
    · exact (m_strikes (i := gS i f (Ns i f m n 99)) (l := l) (f := f) (t := t) (sp := sp) (RF_of h e19 hr ag)).2 ((eq ag).trans hk)
end TC
