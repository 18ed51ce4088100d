/-! sign, end, lengths -/
section TC
variable {sc : Nat × (Nat → Int32)} {d y nx : Nat} {hd : List (Int × Nat)} {L st : List Value} {S : kS} {cu su : Nat} {i : Nat → Nat → Int32} {l : Nat → Nat → Int64} {f t c b m : Nat} {sp : Nat → Nat} {K : Option (Option Value) → kS → Prop}
variable {N M Z S1 Q A : Nat → Int32} {i1 i2 i3 : Nat → Nat → Int32} {l2 : Nat → Nat → Int64} {n n2 k x a o g : Nat} {v r p q : Int32} {zs zs2 : List Int64}
theorem ush_nat : ∀ z, z < 32 → ((Int32.ofNat z).toUInt32 &&& Int32.toUInt32 31).toBitVec % 32 = BitVec.ofNat 32 z := by decide +kernel
theorem tb_ushr {z j : Nat} (hz : z < 32) : tb ((v.toUInt32 >>> ((Int32.ofNat z).toUInt32 &&& Int32.toUInt32 31)).toInt32) j = tb v (z + j) := by
  unfold tb
  show (v.toUInt32 >>> ((Int32.ofNat z).toUInt32 &&& Int32.toUInt32 31)).toBitVec.getLsbD j = _
  rw [UInt32.toBitVec_shiftRight, ush_nat z hz, BitVec.ushiftRight_eq', BitVec.toNat_ofNat, Nat.mod_eq_of_lt (by omega), BitVec.getLsbD_ushiftRight]
  rfl
theorem tb_255 : ∀ j, j < 32 → tb 255 j = decide (j < 8) := by decide +kernel
theorem byte_eq {z : Nat} (hz : z ≤ 24) : (v.toUInt32 >>> ((Int32.ofNat z).toUInt32 &&& Int32.toUInt32 31)).toInt32 &&& 255 = (v >>> (Int32.ofNat z &&& 31)) &&& 255 := by
  apply tb_ext
  intro j hj
  rw [tb_and, tb_and, tb_255 j hj, tb_ushr (by omega)]
  by_cases q : j < 8
  · rw [tb_shr (by omega) (by omega)]
  · simp [q]
theorem b8_255 : b8 (v &&& 255) := by
  intro j h1 h2
  rw [tb_and, tb_255 j h2]
  have : ¬ j < 8 := by omega
  simp [this]
theorem chr_nat : ∀ c, c < 256 → kchar ((Int32.ofNat c).toUInt32 % 65536).toInt32 = Int32.ofNat c := by decide +kernel
theorem qS_eq {z : Nat} (hz : z ≤ 24) : ∃ c, c < 256 ∧ (v >>> (Int32.ofNat z &&& 31)) &&& 255 = Int32.ofNat c ∧ kchar (qSign v (Int32.ofNat z)) = Int32.ofNat c := by
  obtain ⟨c, hc, e⟩ := b8_nat (@b8_255 (v >>> (Int32.ofNat z &&& 31)))
  refine ⟨c, hc, e, ?_⟩
  unfold qSign
  rw [byte_eq hz, e]
  exact chr_nat c hc
/-- a call that changes no more than THE TEXT, beside what questions may -/
def kSt (c k : Nat) : Bool := kSc c k || (c == 1 && k == 1) || c == 2 || c == 98 || (c == 91 && k == 11)
theorem st_sc {c k : Nat} (h : kSt c k = false) : kSc c k = false := by
  unfold kSt at h
  cases e : kSc c k
  · rfl
  · rw [e] at h; simp at h
theorem ag_sct (h : kAg kSc i i2) : kAg kSt i i2 := fun c k hq => h c k (st_sc hq)
theorem st_night {c : Nat} (h1 : 16 ≤ c) (h2 : c < 77) (k : Nat) : kSt c k = false := by
  have e1 : (c == 3) = false := by simp; omega
  have e2 : decide (c ≤ 15) = false := decide_eq_false (by omega)
  have e3 : decide (77 ≤ c) = false := decide_eq_false (by omega)
  have e4 : (c == 85) = false := by simp; omega
  have e5 : (c == 88) = false := by simp; omega
  have e6 : (c == 87) = false := by simp; omega
  have e7 : (c == 90) = false := by simp; omega
  have e8 : (c == 91) = false := by simp; omega
  have e9 : (c == 97) = false := by simp; omega
  have e10 : (c == 99) = false := by simp; omega
  have e11 : decide (101 ≤ c) = false := decide_eq_false (by omega)
  have e12 : decide (105 ≤ c) = false := decide_eq_false (by omega)
  have e13 : (c == 115) = false := by simp; omega
  have e14 : (c == 1) = false := by simp; omega
  have e15 : (c == 2) = false := by simp; omega
  have e16 : (c == 98) = false := by simp; omega
  unfold kSt kSc
  rw [e1, e2, e3, e4, e5, e6, e7, e8, e9, e10, e11, e12, e13, e14, e15, e16]
  simp
theorem kIV_t (h : IV m i l f t sp) (ag : kAg kSt i i2) (hX : IX (i2 1 1) (i2 91 11) (i2 2) (i2 98)) (hW : IW (i2 3 1) (i2 91 1) (l2 4) (l2 92)) : IV m i2 l2 f t sp := by
  obtain ⟨hP, _, _, hN, hU, hS, hK, hH, hR, hF⟩ := h
  have rr : ∀ c, (∀ k, kSt c k = false) → i2 c = i c := fun c hc => ag_row ag hc
  have nn : ∀ c, 20 ≤ c → c < 74 → i2 c = i c := fun c c1 c2 => rr c (fun k => st_night (by omega) (by omega) k)
  refine ⟨?_, hX, hW, ?_, ?_, hS, ?_, ?_, ?_, hF⟩
  · rw [rr 5 (fun _ => rfl), ag 91 3 rfl, rr 6 (fun _ => rfl), rr 7 (fun _ => rfl), rr 8 (fun _ => rfl), rr 9 (fun _ => rfl), rr 93 (fun _ => rfl), rr 94 (fun _ => rfl), rr 95 (fun _ => rfl)]; exact hP
  · rw [nGet_c (i := i) (c := 10) (rr 10 (fun _ => rfl)) (rr 11 (fun _ => rfl)) (rr 12 (fun _ => rfl)), rr 96 (fun _ => rfl)]; exact hN
  · rw [rr 16 (fun _ => rfl), ag 91 23 rfl, rr 104 (fun _ => rfl)]
    exact IU_c hS hU nn
  · rw [ag 91 4 rfl, rr 19 (fun _ => rfl), rr 116 (fun _ => rfl), rr 117 (fun _ => rfl), rr 118 (fun _ => rfl)]
    exact IK_c hK nn
  · rw [rr 74 (fun _ => rfl), ag 91 39 rfl, rr 75 (fun _ => rfl), rr 76 (fun _ => rfl), rr 113 (fun _ => rfl), rr 114 (fun _ => rfl)]; exact hH
  · refine IR_c hF ?_ (ag 85 2 rfl) (ag 88 2 rfl) (rr 86 (fun _ => rfl)) (rr 89 (fun _ => rfl))
    rw [ag 91 19 rfl, rr 100 (fun _ => rfl)]; exact hR
def sB (v : Int32) (k : Nat) : Int32 := (v >>> (Int32.ofNat (24 - 8 * k) &&& 31)) &&& 255
theorem xGet_n {n : Nat} (h : i 1 1 = Int32.ofNat n) (hn : n < 100000) : (xGet i).1 = n := by
  unfold xGet
  dsimp only
  rw [h]
  show (Int32.ofNat n).toBitVec.toNat = n
  rw [Int32.toBitVec_ofNat', BitVec.toNat_ofNat, Nat.mod_eq_of_lt (by omega)]
theorem J_sign (h : IV m i l f t sp) (v : Int32) : JJ 95 169 [.int v] i l f t sp := by
  obtain ⟨hP, ⟨n, h80, x1, x2, x3⟩, hW, hN, hU, hS, hK, hH, hR, hF⟩ := id h
  have g1 := xGet_n x1 (by omega)
  have hX80 : (xGet i).1 ≤ 80 := by omega
  have C : CC 95 [.ref 0, .int v] i l f t sp (.int (if (xGet i).1 ≤ 76 then Int32.ofNat (qAdd (xGet i) v).1 else -1)) (xPut i (qAdd (xGet i) v)) l f t sp := by
    intro sc d y nx hd L st cu su K
    have P := fun (y nx : Nat) (L st : List Value) (hd : List (Int × Nat)) (K : Option (Option Value) → kS → Prop) => c_xadd (sc := sc) (d := d + 497) (y := y) (nx := nx) (hd := hd) (L := L) (st := st) (cu := cu) (su := su) (i := i) (l := l) (f := f) (t := t) (sp := sp) (K := K) (X := xGet i) (v := v) hX80
    rw [xP_g] at P
    refine kCA_of (d := d + 499) (v := some (.int _)) (fun K => ?_)
    rw [km_95]
    show kWP sc (d + 499) 95 0 [.ref 0, .int v] [] _ K = _
    simp only [e_X10_sign_0, e_X10_sign_1, e_X10_sign_4, e_X10_sign_5, e_X10_sign_8, ob_0, rk_0_0, ob_1, kcl_i, kcl_r, kcl_l, kcl_0, kcl_n, true_and, and_true, P]
  by_cases q : n ≤ 76
  · have q' : (xGet i).1 ≤ 76 := by omega
    obtain ⟨c0, b0, d0, f0⟩ := @qS_eq v 24 (by omega)
    obtain ⟨c1, b1, d1, f1⟩ := @qS_eq v 16 (by omega)
    obtain ⟨c2, b2, d2, f2⟩ := @qS_eq v 8 (by omega)
    obtain ⟨c3, b3, d3, f3⟩ := @qS_eq v 0 (by omega)
    have pu : ∀ (X : Nat × (Nat → Int32)) (u : Int32), X.1 < 80 → qPut X u = (X.1 + 1, kuf X.2 X.1 (kchar u)) := fun X u hX => by unfold qPut; rw [if_neg (by omega)]
    have eA : qAdd (xGet i) v = (n + 4, kuf (kuf (kuf (kuf (i 2) n (Int32.ofNat c0)) (n + 1) (Int32.ofNat c1)) (n + 2) (Int32.ofNat c2)) (n + 3) (Int32.ofNat c3)) := by
      have g2 : (xGet i).2 = i 2 := rfl
      unfold qAdd
      rw [if_pos q', pu (xGet i) _ (by omega), pu ((xGet i).1 + 1, _) _ (by show (xGet i).1 + 1 < 80; omega)]
      dsimp only
      rw [pu ((xGet i).1 + 1 + 1, _) _ (by show (xGet i).1 + 1 + 1 < 80; omega)]
      dsimp only
      rw [pu ((xGet i).1 + 1 + 1 + 1, _) _ (by show (xGet i).1 + 1 + 1 + 1 < 80; omega)]
      dsimp only
      rw [g1, g2, show (24 : Int32) = Int32.ofNat 24 from rfl, show (16 : Int32) = Int32.ofNat 16 from rfl, show (8 : Int32) = Int32.ofNat 8 from rfl, show (0 : Int32) = Int32.ofNat 0 from rfl, f0, f1, f2, f3]
    rw [if_pos q', eA] at C
    have hiC : ∀ c, 3 ≤ c → xPut i (n + 4, kuf (kuf (kuf (kuf (i 2) n (Int32.ofNat c0)) (n + 1) (Int32.ofNat c1)) (n + 2) (Int32.ofNat c2)) (n + 3) (Int32.ofNat c3)) c = i c := fun c hc => xP_hi hc
    have xs : ∀ x, x < 80 → xPut i (n + 4, kuf (kuf (kuf (kuf (i 2) n (Int32.ofNat c0)) (n + 1) (Int32.ofNat c1)) (n + 2) (Int32.ofNat c2)) (n + 3) (Int32.ofNat c3)) 2 x = kuf (kuf (kuf (kuf (i 2) n (Int32.ofNat c0)) (n + 1) (Int32.ofNat c1)) (n + 2) (Int32.ofNat c2)) (n + 3) (Int32.ofNat c3) x := fun x hx => xP_s hx
    have xn : xPut i (n + 4, kuf (kuf (kuf (kuf (i 2) n (Int32.ofNat c0)) (n + 1) (Int32.ofNat c1)) (n + 2) (Int32.ofNat c2)) (n + 3) (Int32.ofNat c3)) 1 1 = Int32.ofNat (n + 4) := xP_n
    have agC : kAg kSt i (xPut i (n + 4, kuf (kuf (kuf (kuf (i 2) n (Int32.ofNat c0)) (n + 1) (Int32.ofNat c1)) (n + 2) (Int32.ofNat c2)) (n + 3) (Int32.ofNat c3))) := by
      intro c k hq
      unfold xPut
      by_cases z1 : c = 1 ∧ k = 1
      · rw [z1.1, z1.2] at hq; exact absurd hq (by decide)
      · rw [if_neg z1]
        by_cases z2 : c = 2 ∧ k < 80
        · have : kSt 2 k = true := rfl
          rw [z2.1, this] at hq; exact absurd hq (by decide)
        · rw [if_neg z2]
    generalize hX1 : xPut i (n + 4, kuf (kuf (kuf (kuf (i 2) n (Int32.ofNat c0)) (n + 1) (Int32.ofNat c1)) (n + 2) (Int32.ofNat c2)) (n + 3) (Int32.ofNat c3)) = X at C hiC xs xn agC
    have W : CC 169 [.ref 91, .int v] X l f t sp (.int (Int32.ofNat (n + 4))) (kupi (aPut (uPut X) 98 80 (kuf (kuf (kuf (kuf (i 98) n (Int32.ofNat c0)) (n + 1) (Int32.ofNat c1)) (n + 2) (Int32.ofNat c2)) (n + 3) (Int32.ofNat c3))) 91 11 (Int32.ofNat (n + 4))) l f t sp := by
      intro sc d y nx hd L st cu su K
      have t1 : uPut X 91 11 = Int32.ofNat n := by rw [uP_f (by decide), hiC 91 (by decide)]; exact x2
      have t2 : (Int32.ofNat n ≤ 76) = True := by rw [show (76 : Int32) = Int32.ofNat 76 from rfl, tn_le (by omega) (by decide)]; exact eq_true q
      refine kCA_of (d := d + 499) (v := some (.int _)) (fun K => ?_)
      rw [km_169]
      show kWP sc (d + 499) 169 0 [.ref 91, .int v, .retAddr 0] [] _ K = _
      simp only [e_X11_sign_0, e_X11_sign_1, e_X11_sign_2, e_X11_sign_5, e_X11_sign_6, e_X11_sign_9, e_X11_sign_11, e_X11_sign_14, e_X11_sign_15, e_X11_sign_16, e_X11_sign_17, e_X11_sign_19, e_X11_sign_20, e_X11_sign_23, e_X11_sign_24, e_X11_sign_27, e_X11_sign_28, e_X11_sign_31, e_X11_sign_32, e_X11_sign_33, e_X11_sign_34, e_X11_sign_36, e_X11_sign_38, e_X11_sign_39, e_X11_sign_40, e_X11_sign_41, e_X11_sign_42, e_X11_sign_45, e_X11_sign_46, e_X11_sign_47, e_X11_sign_50, e_X11_sign_53, e_X11_sign_54, e_X11_sign_55, e_X11_sign_58, e_X11_sign_59, e_X11_sign_60, e_X11_sign_63, e_X11_sign_64, e_X11_sign_67, ob_91, rk_91_10, ar_98, kcl_i, kcl_r, kcl_l, kcl_0, kcl_n, true_and, and_true, uP_0, t1, t2, if_true]
      have R := k_for (P := fun z (A : Nat → Int32) => kWP sc (d + 499) 169 18 [.ref 91, .int v, .int (Int32.ofNat z)] [] ((120, cu, su), aPut (uPut X) 98 80 A, l, kR f t sp) K) (n := 4) (g := fun z A => kuf A (n + z) (sB v z)) ?_ (uPut X 98)
      · rw [aP_g] at R
        refine R.trans ?_
        refine e_X11_sign_18.trans ?_
        have e98 : uPut X 98 = i 98 := (uP_o (by decide)).trans (hiC 98 (by decide))
        have eK : kfo (fun z A => kuf A (n + z) (sB v z)) 4 (uPut X 98) = kuf (kuf (kuf (kuf (i 98) n (Int32.ofNat c0)) (n + 1) (Int32.ofNat c1)) (n + 2) (Int32.ofNat c2)) (n + 3) (Int32.ofNat c3) := by
          rw [e98, ← d0, ← d1, ← d2, ← d3]; rfl
        have t4 : Int32.ofNat n + 4 = Int32.ofNat (n + 4) := (Int32.ofNat_add n 4).symm
        simp only [e_X11_sign_0, e_X11_sign_1, e_X11_sign_2, e_X11_sign_5, e_X11_sign_6, e_X11_sign_9, e_X11_sign_11, e_X11_sign_14, e_X11_sign_15, e_X11_sign_16, e_X11_sign_17, e_X11_sign_19, e_X11_sign_20, e_X11_sign_23, e_X11_sign_24, e_X11_sign_27, e_X11_sign_28, e_X11_sign_31, e_X11_sign_32, e_X11_sign_33, e_X11_sign_34, e_X11_sign_36, e_X11_sign_38, e_X11_sign_39, e_X11_sign_40, e_X11_sign_41, e_X11_sign_42, e_X11_sign_45, e_X11_sign_46, e_X11_sign_47, e_X11_sign_50, e_X11_sign_53, e_X11_sign_54, e_X11_sign_55, e_X11_sign_58, e_X11_sign_59, e_X11_sign_60, e_X11_sign_63, e_X11_sign_64, e_X11_sign_67, ob_91, rk_91_10, ar_98, kcl_i, kcl_r, kcl_l, kcl_0, kcl_n, true_and, and_true, show ((4 : Int32) ≤ Int32.ofNat 4) = True from eq_true (by decide), if_true, aP_o (show 91 ≠ 98 by decide), t1, t4, eK, kupi_s]
      · intro z A hz
        have c1 : ((4 : Int32) ≤ Int32.ofNat z) = False := jpF (n := 4) hz (by decide)
        have c2 : Int32.ofNat n + Int32.ofNat z = Int32.ofNat (n + z) := (Int32.ofNat_add n z).symm
        have c3 : (24 : Int32) - 8 * Int32.ofNat z = Int32.ofNat (24 - 8 * z) := by
          rw [show (8 : Int32) = Int32.ofNat 8 from rfl, ← Int32.ofNat_mul]; exact sub_nat (a := 24) (by omega)
        refine e_X11_sign_18.trans ?_
        simp only [e_X11_sign_0, e_X11_sign_1, e_X11_sign_2, e_X11_sign_5, e_X11_sign_6, e_X11_sign_9, e_X11_sign_11, e_X11_sign_14, e_X11_sign_15, e_X11_sign_16, e_X11_sign_17, e_X11_sign_19, e_X11_sign_20, e_X11_sign_23, e_X11_sign_24, e_X11_sign_27, e_X11_sign_28, e_X11_sign_31, e_X11_sign_32, e_X11_sign_33, e_X11_sign_34, e_X11_sign_36, e_X11_sign_38, e_X11_sign_39, e_X11_sign_40, e_X11_sign_41, e_X11_sign_42, e_X11_sign_45, e_X11_sign_46, e_X11_sign_47, e_X11_sign_50, e_X11_sign_53, e_X11_sign_54, e_X11_sign_55, e_X11_sign_58, e_X11_sign_59, e_X11_sign_60, e_X11_sign_63, e_X11_sign_64, e_X11_sign_67, ob_91, rk_91_10, ar_98, kcl_i, kcl_r, kcl_l, kcl_0, kcl_n, true_and, and_true, c1, if_false, aP_o (show 91 ≠ 98 by decide), t1, c2, c3, kin80 (show n + z < 80 by omega), cl_n (show n + z < 100000 by omega), aW_s (show n + z < 80 by omega), tn_s]
        rfl
    refine ⟨_, _, _, f, t, sp, _, _, m, C, W, ?_⟩
    have ap : ∀ {c : Nat}, c ≠ 91 → c ≠ 98 → kupi (aPut (uPut X) 98 80 (kuf (kuf (kuf (kuf (i 98) n (Int32.ofNat c0)) (n + 1) (Int32.ofNat c1)) (n + 2) (Int32.ofNat c2)) (n + 3) (Int32.ofNat c3))) 91 11 (Int32.ofNat (n + 4)) c = X c := fun c1 c2 => by rw [kupi_cf c1, aP_o c2, uP_o c1]
    refine kIV_t h (ag_u (ag_a (ag_u agC rfl) (fun _ _ => rfl)) rfl) ?_ ?_
    · rw [ap (c := 1) (by decide) (by decide), ap (c := 2) (by decide) (by decide), kupi_s, kupi_cf (show 98 ≠ 91 by decide), xn]
      refine ⟨n + 4, by omega, rfl, rfl, fun x hx => ?_⟩
      rw [xs x (by omega), aP_s (by omega)]
      unfold kuf
      by_cases z3 : x = n + 3
      · rw [if_pos z3, if_pos z3]; exact ⟨rfl, c3, b3, rfl⟩
      · rw [if_neg z3, if_neg z3]
        by_cases z2 : x = n + 2
        · rw [if_pos z2, if_pos z2]; exact ⟨rfl, c2, b2, rfl⟩
        · rw [if_neg z2, if_neg z2]
          by_cases z1 : x = n + 1
          · rw [if_pos z1, if_pos z1]; exact ⟨rfl, c1, b1, rfl⟩
          · rw [if_neg z1, if_neg z1]
            by_cases z0 : x = n
            · rw [if_pos z0, if_pos z0]; exact ⟨rfl, c0, b0, rfl⟩
            · rw [if_neg z0, if_neg z0]; exact x3 x (by omega)
    · rw [ap (by decide) (by decide), hiC 3 (by decide), kupi_k (by decide), aP_o (by decide), uP_f (by decide), hiC 91 (by decide)]; exact hW
  · have q' : ¬ (xGet i).1 ≤ 76 := by omega
    have eA : qAdd (xGet i) v = xGet i := by unfold qAdd; rw [if_neg q']
    rw [if_neg q', eA, xP_g] at C
    refine JJ_n h (-1) i (uPut i) ag_r (ag_uu ag_r) rfl rfl C ?_
    intro sc d y nx hd L st cu su K
    have t1 : uPut i 91 11 = Int32.ofNat n := x2
    have t2 : (Int32.ofNat n ≤ 76) = False := by rw [show (76 : Int32) = Int32.ofNat 76 from rfl, tn_le (by omega) (by decide)]; exact eq_false q
    refine kCA_of (d := d + 499) (v := some (.int _)) (fun K => ?_)
    rw [km_169]
    show kWP sc (d + 499) 169 0 [.ref 91, .int v, .retAddr 0] [] _ K = _
    simp only [e_X11_sign_0, e_X11_sign_1, e_X11_sign_2, e_X11_sign_5, e_X11_sign_6, e_X11_sign_9, e_X11_sign_11, e_X11_sign_14, e_X11_sign_15, e_X11_sign_16, e_X11_sign_17, e_X11_sign_19, e_X11_sign_20, e_X11_sign_23, e_X11_sign_24, e_X11_sign_27, e_X11_sign_28, e_X11_sign_31, e_X11_sign_32, e_X11_sign_33, e_X11_sign_34, e_X11_sign_36, e_X11_sign_38, e_X11_sign_39, e_X11_sign_40, e_X11_sign_41, e_X11_sign_42, e_X11_sign_45, e_X11_sign_46, e_X11_sign_47, e_X11_sign_50, e_X11_sign_53, e_X11_sign_54, e_X11_sign_55, e_X11_sign_58, e_X11_sign_59, e_X11_sign_60, e_X11_sign_63, e_X11_sign_64, e_X11_sign_67, ob_91, rk_91_10, ar_98, kcl_i, kcl_r, kcl_l, kcl_0, kcl_n, true_and, and_true, uP_0, t1, t2, if_false]
theorem J_end (h : IV m i l f t sp) (p : Int32) : JJ 96 170 [.int p] i l f t sp := by
  obtain ⟨hP, ⟨n, h80, x1, x2, x3⟩, hW, hN, hU, hS, hK, hH, hR, hF⟩ := id h
  have C : CC 96 [.ref 0, .int p] i l f t sp (.int (kb (¬ p < 0 ∧ p ≤ i 1 1))) (if ¬ p < 0 ∧ p ≤ i 1 1 then kupi i 1 1 p else i) l f t sp := by
    intro sc d y nx hd L st cu su K
    refine kCA_of (d := d + 499) (v := some (.int _)) (fun K => ?_)
    rw [km_96]
    show kWP sc (d + 499) 96 0 [.ref 0, .int p] [] _ K = _
    simp only [e_X10_end_0, e_X10_end_1, e_X10_end_4, e_X10_end_5, e_X10_end_8, ob_0, rk_0_0, ob_1, kcl_i, kcl_r, kcl_l, kcl_0, kcl_n, true_and, and_true, c_cut, kb_ok]
  rw [x1] at C
  by_cases q : ¬ p < 0 ∧ p ≤ Int32.ofNat n
  · obtain ⟨k, hk, rfl⟩ := tn_exle (m := n) (by omega) (Int32.not_lt.1 q.1) q.2
    rw [if_pos q, kb_t q] at C
    have q2 : ¬ Int32.ofNat k < 0 ∧ ¬ Int32.ofNat n < Int32.ofNat k := ⟨q.1, Int32.not_lt.2 q.2⟩
    have W : CC 170 [.ref 91, .int (Int32.ofNat k)] (kupi i 1 1 (Int32.ofNat k)) l f t sp (.int 1) (kupi (uPut (kupi i 1 1 (Int32.ofNat k))) 91 11 (Int32.ofNat k)) l f t sp := by
      intro sc d y nx hd L st cu su K
      have t1 : uPut (kupi i 1 1 (Int32.ofNat k)) 91 11 = Int32.ofNat n := x2
      refine kCA_of (d := d + 499) (v := some (.int _)) (fun K => ?_)
      rw [km_170]
      show kWP sc (d + 499) 170 0 [.ref 91, .int (Int32.ofNat k)] [] _ K = _
      simp only [e_X11_end_0, e_X11_end_1, e_X11_end_2, e_X11_end_5, e_X11_end_6, e_X11_end_7, e_X11_end_8, e_X11_end_9, e_X11_end_12, e_X11_end_13, e_X11_end_16, e_X11_end_19, e_X11_end_20, e_X11_end_21, e_X11_end_22, e_X11_end_23, e_X11_end_26, e_X11_end_27, ob_91, kcl_i, kcl_r, kcl_l, kcl_0, kcl_n, true_and, and_true, uP_0, t1, l0, m_in, m_inI, kb_0, q2, not_true_eq_false, not_false_eq_true, and_self, if_false, kbool_1]
    refine ⟨_, _, _, f, t, sp, _, _, m, C, W, ?_⟩
    refine kIV_t h (ag_u (ag_u (ag_u ag_r rfl) rfl) rfl) ⟨k, by omega, rfl, rfl, fun x hx => x3 x (by omega)⟩ hW
  · rw [if_neg q, kb_f q] at C
    have q2 : ¬ (¬ p < 0 ∧ ¬ Int32.ofNat n < p) := fun e => q ⟨e.1, Int32.not_lt.1 e.2⟩
    refine JJ_n h 0 i (uPut i) ag_r (ag_uu ag_r) rfl rfl C ?_
    intro sc d y nx hd L st cu su K
    have t1 : uPut i 91 11 = Int32.ofNat n := x2
    refine kCA_of (d := d + 499) (v := some (.int _)) (fun K => ?_)
    rw [km_170]
    show kWP sc (d + 499) 170 0 [.ref 91, .int p] [] _ K = _
    simp only [e_X11_end_0, e_X11_end_1, e_X11_end_2, e_X11_end_5, e_X11_end_6, e_X11_end_7, e_X11_end_8, e_X11_end_9, e_X11_end_12, e_X11_end_13, e_X11_end_16, e_X11_end_19, e_X11_end_20, e_X11_end_21, e_X11_end_22, e_X11_end_23, e_X11_end_26, e_X11_end_27, ob_91, kcl_i, kcl_r, kcl_l, kcl_0, kcl_n, true_and, and_true, uP_0, t1, l0, m_in, m_inI, kb_0, q2, not_false_eq_true, if_true, kbool_0]
end TC
