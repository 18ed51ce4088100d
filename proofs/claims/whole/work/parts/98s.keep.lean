/-! keep, again, count, sheet -/
section TC
variable {sc : Nat × (Nat → Int32)} {d y nx : Nat} {hd : List (Int × Nat)} {L st : List Value} {S : kS} {cu su : Nat} {i : Nat → Nat → Int32} {l : Nat → Nat → Int64} {f t c b m : Nat} {sp : Nat → Nat} {K : Option (Option Value) → kS → Prop}
variable {N M Z S1 Q A : Nat → Int32} {i1 i2 i3 : Nat → Nat → Int32} {l2 : Nat → Nat → Int64} {n n2 k x : Nat} {v r : Int32} {zs zs2 : List Int64} {le co br acts code co2 br2 : Nat → Int32} {s : Nat × (Nat → Int32)} {w : WN} {u : WM} {sp2 : Nat → Nat}
theorem IU_c65 {a b : Int32} {r104 : Nat → Int32} (hS : IS sp) (h : IU m a b (fun j => nGet i (sp j)) r104) (e : ∀ c, 20 ≤ c → c < 65 → i2 c = i c) : IU m a b (fun j => nGet i2 (sp j)) r104 := by
  obtain ⟨n, h1, h2, h3, h4⟩ := h
  refine ⟨n, h1, h2, h3, fun j hj => ?_⟩
  have w := hS.1 j (by omega)
  have h62 := kNc_all (P := fun c => c < 65 → c ≤ 62) (by decide) w.1 w.2.2
  show NR m (nGet i2 (sp j)) _
  rw [nGet_c (e _ (by omega) (by omega)) (e _ (by omega) (by omega)) (e _ (by omega) (by omega))]; exact h4 j hj
theorem l2' : (2 : Int64) = (2 : Int32).toInt64 := by decide
theorem two_lt3 {p : Int32} : 2 < p ↔ ¬ p < 3 := by
  rw [Int32.lt_iff_toInt_lt, Int32.lt_iff_toInt_lt, show (2 : Int32).toInt = 2 from by decide, show (3 : Int32).toInt = 3 from by decide]; omega
theorem kin3 {a : Nat} (h : a < 3) : kin (Int32.ofNat a) 3 = True := by rw [tn_kin (by omega)]; exact eq_true h
theorem kin75 {a : Nat} (h : a < 75) : kin (Int32.ofNat a) 75 = True := by rw [tn_kin (by omega)]; exact eq_true h
theorem J_keep (h : IV m i l f t sp) (p : Int32) : JJ 133 251 [.int p] i l f t sp := by
  obtain ⟨⟨h5, h91, h8, e9, hle, hp⟩, hX, hW, hN, hU, hS, hK, hH, hR, hF⟩ := id h
  have C : CC 133 [.ref 0, .int p] i l f t sp (.int (kb (¬ p < 0 ∧ p < 3))) (if ¬ p < 0 ∧ p < 3 then kupi (nPut i (65 + 3 * p.toNatClampNeg) (nGet i 10)) 19 p.toNatClampNeg 1 else i) l f t sp := by
    intro sc d y nx hd L st cu su K
    refine kCA_of (d := d + 499) (v := some (.int _)) (fun K => ?_)
    rw [km_133]
    show kWP sc (d + 499) 133 0 [.ref 0, .int p] [] _ K = _
    simp only [e_X10_keep_0, e_X10_keep_1, e_X10_keep_4, e_X10_keep_5, e_X10_keep_6, e_X10_keep_9, e_X10_keep_12, ob_0, rk_0_5, rk_0_3, ob_16, kcl_i, kcl_r, kcl_l, kcl_0, kcl_n, true_and, and_true, c_keepUnder, kb_ok]
  by_cases q : ¬ p < 0 ∧ p < 3
  · obtain ⟨a, ha, rfl⟩ := tn_ex (m := 3) (by decide) (Int32.not_lt.1 q.1) q.2
    rw [if_pos q, kb_t q, tn_cl (by omega)] at C
    have q2 : ¬ Int32.ofNat a < 0 ∧ ¬ 2 < Int32.ofNat a := ⟨q.1, fun z => two_lt3.1 z q.2⟩
    have kc := kNc_18 ha
    have h65 : 65 ≤ 65 + 3 * a ∧ 65 + 3 * a ≤ 71 := by omega
    have hiC : ∀ c, 74 ≤ c → kupi (nPut i (65 + 3 * a) (nGet i 10)) 19 a 1 c = i c := fun c hc => by rw [kupi_cf (by omega), nP_hi kc hc]
    have loC : ∀ c, c < 65 → c ≠ 19 → kupi (nPut i (65 + 3 * a) (nGet i 10)) 19 a 1 c = i c := fun c hc h19 => by rw [kupi_cf h19, nP_o (by omega) (by omega) (by omega)]
    generalize hX1 : kupi (nPut i (65 + 3 * a) (nGet i 10)) 19 a 1 = X at C hiC loC
    obtain ⟨ch, hc1, hc2, hc3⟩ := id hK
    have W : CC 251 [.ref 91, .int (Int32.ofNat a)] X l f t sp (.int 1) (aPut (kupi (kupi (uPut X) 116 a 1) 117 a (i 91 4)) 118 75 (pbA a (i 118) (i 96))) l f t sp := by
      intro sc d y nx hd L st cu su K
      have e4 : kupi (uPut X) 116 a 1 91 4 = i 91 4 := by rw [kupi_c (by decide), uP_f (by decide), hiC 91 (by decide)]
      refine kCA_of (d := d + 499) (v := some (.int _)) (fun K => ?_)
      rw [km_251]
      show kWP sc (d + 499) 251 0 [.ref 91, .int (Int32.ofNat a), .retAddr 0] [] _ K = _
      simp only [e_X11_keep_0, e_X11_keep_1, e_X11_keep_2, e_X11_keep_5, e_X11_keep_6, e_X11_keep_7, e_X11_keep_8, e_X11_keep_11, e_X11_keep_14, e_X11_keep_17, e_X11_keep_18, e_X11_keep_19, e_X11_keep_20, e_X11_keep_23, e_X11_keep_24, e_X11_keep_25, e_X11_keep_26, e_X11_keep_27, e_X11_keep_30, e_X11_keep_31, e_X11_keep_32, e_X11_keep_35, e_X11_keep_36, e_X11_keep_37, e_X11_keep_39, e_X11_keep_41, e_X11_keep_44, e_X11_keep_45, e_X11_keep_48, e_X11_keep_50, e_X11_keep_51, e_X11_keep_52, e_X11_keep_53, e_X11_keep_54, e_X11_keep_55, e_X11_keep_58, e_X11_keep_59, e_X11_keep_60, e_X11_keep_61, e_X11_keep_64, e_X11_keep_67, e_X11_keep_68, ob_91, rk_91_44, ar_116, rk_91_45, ar_117, rk_91_46, ar_118, rk_91_8, ar_96, kcl_i, kcl_r, kcl_l, kcl_0, kcl_n, true_and, and_true, uP_0, l0, l2', m_in, m_inI, kb_0, q2, not_true_eq_false, not_false_eq_true, and_self, if_false, kin3 ha, cl_n (show a < 100000 by omega), kbool1, e4]
      have R := k_for (P := fun z (A : Nat → Int32) => kWP sc (d + 499) 251 38 [.ref 91, .int (Int32.ofNat a), .int (Int32.ofNat z)] [] ((120, cu, su), aPut (kupi (kupi (uPut X) 116 a 1) 117 a (i 91 4)) 118 75 A, l, kR f t sp) K) (n := 25) (g := fun z A => kuf A (25 * a + z) (i 96 z)) ?_ (i 118)
      · have e0 : aPut (kupi (kupi (uPut X) 116 a 1) 117 a (i 91 4)) 118 75 (i 118) = kupi (kupi (uPut X) 116 a 1) 117 a (i 91 4) := by
          have := @aP_g (kupi (kupi (uPut X) 116 a 1) 117 a (i 91 4)) 118 75
          rw [kupi_cf (by decide), kupi_cf (by decide), uP_o (by decide), hiC 118 (by decide)] at this; exact this
        rw [e0] at R
        refine R.trans ?_
        refine e_X11_keep_38.trans ?_
        simp only [e_X11_keep_0, e_X11_keep_1, e_X11_keep_2, e_X11_keep_5, e_X11_keep_6, e_X11_keep_7, e_X11_keep_8, e_X11_keep_11, e_X11_keep_14, e_X11_keep_17, e_X11_keep_18, e_X11_keep_19, e_X11_keep_20, e_X11_keep_23, e_X11_keep_24, e_X11_keep_25, e_X11_keep_26, e_X11_keep_27, e_X11_keep_30, e_X11_keep_31, e_X11_keep_32, e_X11_keep_35, e_X11_keep_36, e_X11_keep_37, e_X11_keep_39, e_X11_keep_41, e_X11_keep_44, e_X11_keep_45, e_X11_keep_48, e_X11_keep_50, e_X11_keep_51, e_X11_keep_52, e_X11_keep_53, e_X11_keep_54, e_X11_keep_55, e_X11_keep_58, e_X11_keep_59, e_X11_keep_60, e_X11_keep_61, e_X11_keep_64, e_X11_keep_67, e_X11_keep_68, ob_91, rk_91_44, ar_116, rk_91_45, ar_117, rk_91_46, ar_118, rk_91_8, ar_96, kcl_i, kcl_r, kcl_l, kcl_0, kcl_n, true_and, and_true, n25T, if_true, kbool_1]
        rw [aP_c (A2 := pbA a (i 118) (i 96)) (fun j _ => pb_fold 25 (Nat.le_refl _) j)]
      · intro z A hz
        have e96 : kupi (kupi (uPut X) 116 a 1) 117 a (i 91 4) 96 = i 96 := by rw [kupi_cf (by decide), kupi_cf (by decide), u96, hiC 96 (by decide)]
        refine e_X11_keep_38.trans ?_
        simp only [e_X11_keep_0, e_X11_keep_1, e_X11_keep_2, e_X11_keep_5, e_X11_keep_6, e_X11_keep_7, e_X11_keep_8, e_X11_keep_11, e_X11_keep_14, e_X11_keep_17, e_X11_keep_18, e_X11_keep_19, e_X11_keep_20, e_X11_keep_23, e_X11_keep_24, e_X11_keep_25, e_X11_keep_26, e_X11_keep_27, e_X11_keep_30, e_X11_keep_31, e_X11_keep_32, e_X11_keep_35, e_X11_keep_36, e_X11_keep_37, e_X11_keep_39, e_X11_keep_41, e_X11_keep_44, e_X11_keep_45, e_X11_keep_48, e_X11_keep_50, e_X11_keep_51, e_X11_keep_52, e_X11_keep_53, e_X11_keep_54, e_X11_keep_55, e_X11_keep_58, e_X11_keep_59, e_X11_keep_60, e_X11_keep_61, e_X11_keep_64, e_X11_keep_67, e_X11_keep_68, ob_91, rk_91_44, ar_116, rk_91_45, ar_117, rk_91_46, ar_118, rk_91_8, ar_96, kcl_i, kcl_r, kcl_l, kcl_0, kcl_n, true_and, and_true, n25F hz, if_false, aP_o (show 96 ≠ 118 by decide), e96, mul25, kin25 hz, kin75 (show 25 * a + z < 75 by omega), cl_n (show z < 100000 by omega), cl_n (show 25 * a + z < 100000 by omega), aW_s (show 25 * a + z < 75 by omega), tn_s]
    refine ⟨_, _, _, f, t, sp, _, _, m, C, W, ?_⟩
    have ap : ∀ {c : Nat}, c ≠ 118 → c ≠ 117 → c ≠ 116 → c ≠ 91 → aPut (kupi (kupi (uPut X) 116 a 1) 117 a (i 91 4)) 118 75 (pbA a (i 118) (i 96)) c = X c := fun c1 c2 c3 c4 => by rw [aP_o c1, kupi_cf c2, kupi_cf c3, uP_o c4]
    have a91 : ∀ {j : Nat}, j ≠ 0 → aPut (kupi (kupi (uPut X) 116 a 1) 117 a (i 91 4)) 118 75 (pbA a (i 118) (i 96)) 91 j = i 91 j := fun hj => by rw [aP_o (by decide), kupi_c (by decide), kupi_c (by decide), uP_f hj, hiC 91 (by decide)]
    refine ⟨?_, ?_, ?_, ?_, ?_, hS, ?_, ?_, ?_, hF⟩
    · rw [ap (c := 5) (by decide) (by decide) (by decide) (by decide), ap (c := 6) (by decide) (by decide) (by decide) (by decide), ap (c := 7) (by decide) (by decide) (by decide) (by decide), ap (c := 8) (by decide) (by decide) (by decide) (by decide), ap (c := 9) (by decide) (by decide) (by decide) (by decide), ap (c := 93) (by decide) (by decide) (by decide) (by decide), ap (c := 94) (by decide) (by decide) (by decide) (by decide), ap (c := 95) (by decide) (by decide) (by decide) (by decide), a91 (by decide), loC 5 (by decide) (by decide), loC 6 (by decide) (by decide), loC 7 (by decide) (by decide), loC 8 (by decide) (by decide), loC 9 (by decide) (by decide), hiC 93 (by decide), hiC 94 (by decide), hiC 95 (by decide)]
      exact ⟨h5, h91, h8, e9, hle, hp⟩
    · rw [ap (c := 1) (by decide) (by decide) (by decide) (by decide), ap (c := 2) (by decide) (by decide) (by decide) (by decide), ap (c := 98) (by decide) (by decide) (by decide) (by decide), a91 (by decide), loC 1 (by decide) (by decide), loC 2 (by decide) (by decide), hiC 98 (by decide)]
      exact hX
    · rw [ap (c := 3) (by decide) (by decide) (by decide) (by decide), a91 (by decide), loC 3 (by decide) (by decide)]; exact hW
    · rw [ap (c := 96) (by decide) (by decide) (by decide) (by decide), hiC 96 (by decide), nGet_c (i := i) (c := 10) ((ap (by decide) (by decide) (by decide) (by decide)).trans (loC 10 (by decide) (by decide))) ((ap (by decide) (by decide) (by decide) (by decide)).trans (loC 11 (by decide) (by decide))) ((ap (by decide) (by decide) (by decide) (by decide)).trans (loC 12 (by decide) (by decide)))]
      exact hN
    · rw [ap (c := 16) (by decide) (by decide) (by decide) (by decide), ap (c := 104) (by decide) (by decide) (by decide) (by decide), a91 (by decide), loC 16 (by decide) (by decide), hiC 104 (by decide)]
      exact IU_c65 hS hU (fun c c1 c2 => (ap (by omega) (by omega) (by omega) (by omega)).trans (loC c (by omega) (by omega)))
    · rw [a91 (by decide), ap (c := 19) (by decide) (by decide) (by decide) (by decide)]
      refine ⟨ch, hc1, hc2, fun j hj => ?_⟩
      have w := hc3 j hj
      have w4 : i 19 j = 1 → NR m (nGet i (65 + 3 * j)) (fun k => i 118 (25 * j + k)) := w.2.2.2
      have e116 : aPut (kupi (kupi (uPut X) 116 a 1) 117 a (i 91 4)) 118 75 (pbA a (i 118) (i 96)) 116 j = if j = a then 1 else i 116 j := by
        rw [aP_o (by decide), kupi_c (by decide)]
        unfold kupi
        by_cases e : j = a
        · rw [if_pos ⟨rfl, e⟩, if_pos e]
        · rw [if_neg (fun z => e z.2), if_neg e, uP_o (by decide), hiC 116 (by decide)]
      have e117 : aPut (kupi (kupi (uPut X) 116 a 1) 117 a (i 91 4)) 118 75 (pbA a (i 118) (i 96)) 117 j = if j = a then Int32.ofNat ch else i 117 j := by
        rw [aP_o (by decide)]
        by_cases e : j = a
        · rw [if_pos e, e, kupi_s]; exact hc2
        · rw [if_neg e, kupi_k e, kupi_c (by decide), uP_o (by decide), hiC 117 (by decide)]
      have e19 : X 19 j = if j = a then 1 else i 19 j := by
        rw [← hX1]
        by_cases e : j = a
        · rw [if_pos e, e, kupi_s]
        · rw [if_neg e, kupi_k e, nP_o (by omega) (by omega) (by omega)]
      have eN : nGet (aPut (kupi (kupi (uPut X) 116 a 1) 117 a (i 91 4)) 118 75 (pbA a (i 118) (i 96))) (65 + 3 * j) = if j = a then nGet i 10 else nGet i (65 + 3 * j) := by
        rw [nGet_c (i := X) (ap (by omega) (by omega) (by omega) (by omega)) (ap (by omega) (by omega) (by omega) (by omega)) (ap (by omega) (by omega) (by omega) (by omega)), ← hX1, nGet_c (i := nPut i (65 + 3 * a) (nGet i 10)) (kupi_cf (by omega)) (kupi_cf (by omega)) (kupi_cf (by omega))]
        by_cases e : j = a
        · rw [if_pos e, e, nG_nP rfl]
        · rw [if_neg e, nG_o (kNc_18 hj) kc (by omega)]
      rw [e116, e117, e19]
      show _ ∧ _ ∧ _ ∧ (_ → NR m (nGet _ (65 + 3 * j)) _)
      rw [eN]
      by_cases e : j = a
      · subst e
        rw [if_pos rfl, if_pos rfl, if_pos rfl, if_pos rfl]
        refine ⟨Or.inr rfl, ⟨ch, Nat.le_refl _, rfl⟩, by rw [if_pos ⟨rfl, rfl⟩], fun _ => NR_c hN (fun z hz => ?_)⟩
        show aPut _ 118 75 _ 118 (25 * j + z) = _
        rw [aP_s (by omega)]
        unfold pbA
        rw [if_pos (by omega), show 25 * j + z - 25 * j = z by omega]
      · rw [if_neg e, if_neg e, if_neg e, if_neg e]
        refine ⟨w.1, w.2.1, w.2.2.1, fun z0 => NR_c (w4 z0) (fun z hz => ?_)⟩
        show aPut _ 118 75 _ 118 (25 * j + z) = _
        rw [aP_s (by omega)]
        unfold pbA
        rw [if_neg (by omega)]
    · rw [ap (c := 74) (by decide) (by decide) (by decide) (by decide), ap (c := 75) (by decide) (by decide) (by decide) (by decide), ap (c := 76) (by decide) (by decide) (by decide) (by decide), ap (c := 113) (by decide) (by decide) (by decide) (by decide), ap (c := 114) (by decide) (by decide) (by decide) (by decide), a91 (by decide), hiC 74 (by decide), hiC 75 (by decide), hiC 76 (by decide), hiC 113 (by decide), hiC 114 (by decide)]
      exact hH
    · have c : ∀ c, 77 ≤ c → c < 91 → aPut (kupi (kupi (uPut X) 116 a 1) 117 a (i 91 4)) 118 75 (pbA a (i 118) (i 96)) c = i c := fun c c1 c2 => (ap (by omega) (by omega) (by omega) (by omega)).trans (hiC c (by omega))
      refine IR_c hF ?_ (by rw [c 85 (by decide) (by decide)]) (by rw [c 88 (by decide) (by decide)]) (c 86 (by decide) (by decide)) (c 89 (by decide) (by decide))
      rw [a91 (by decide), ap (c := 100) (by decide) (by decide) (by decide) (by decide), hiC 100 (by decide)]; exact hR
  · rw [if_neg q, kb_f q] at C
    have q2 : ¬ (¬ p < 0 ∧ ¬ 2 < p) := fun e => q ⟨e.1, Classical.byContradiction fun z => e.2 (two_lt3.2 z)⟩
    refine JJ_n h 0 i (uPut i) ag_r (ag_uu ag_r) rfl rfl C ?_
    intro sc d y nx hd L st cu su K
    refine kCA_of (d := d + 499) (v := some (.int _)) (fun K => ?_)
    rw [km_251]
    show kWP sc (d + 499) 251 0 [.ref 91, .int p, .retAddr 0] [] _ K = _
    simp only [e_X11_keep_0, e_X11_keep_1, e_X11_keep_2, e_X11_keep_5, e_X11_keep_6, e_X11_keep_7, e_X11_keep_8, e_X11_keep_11, e_X11_keep_14, e_X11_keep_17, e_X11_keep_18, e_X11_keep_19, e_X11_keep_20, e_X11_keep_23, e_X11_keep_24, e_X11_keep_25, e_X11_keep_26, e_X11_keep_27, e_X11_keep_30, e_X11_keep_31, e_X11_keep_32, e_X11_keep_35, e_X11_keep_36, e_X11_keep_37, e_X11_keep_39, e_X11_keep_41, e_X11_keep_44, e_X11_keep_45, e_X11_keep_48, e_X11_keep_50, e_X11_keep_51, e_X11_keep_52, e_X11_keep_53, e_X11_keep_54, e_X11_keep_55, e_X11_keep_58, e_X11_keep_59, e_X11_keep_60, e_X11_keep_61, e_X11_keep_64, e_X11_keep_67, e_X11_keep_68, ob_91, rk_91_44, ar_116, rk_91_45, ar_117, rk_91_46, ar_118, rk_91_8, ar_96, kcl_i, kcl_r, kcl_l, kcl_0, kcl_n, true_and, and_true, uP_0, l0, l2', m_in, m_inI, kb_0, q2, not_false_eq_true, if_true, kbool_0]
theorem J_again (h : IV m i l f t sp) (p : Int32) : JJ 134 252 [.int p] i l f t sp := by
  obtain ⟨⟨h5, h91, h8, e9, hle, hp⟩, hX, hW, hN, hU, hS, hK, hH, hR, hF⟩ := id h
  obtain ⟨ch, hc1, hc2, hc3⟩ := id hK
  have C : CC 134 [.ref 0, .int p] i l f t sp (.int (kb ((¬ p < 0 ∧ ¬ 3 ≤ p) ∧ ¬ i 19 p.toNatClampNeg = 0))) (if (¬ p < 0 ∧ ¬ 3 ≤ p) ∧ ¬ i 19 p.toNatClampNeg = 0 then kupi (nPut i 10 (nGet i (65 + 3 * p.toNatClampNeg))) 16 1 0 else i) l f t sp := by
    intro sc d y nx hd L st cu su K
    refine kCA_of (d := d + 499) (v := some (.int _)) (fun K => ?_)
    rw [km_134]
    show kWP sc (d + 499) 134 0 [.ref 0, .int p] [] _ K = _
    simp only [e_X10_again_0, e_X10_again_1, e_X10_again_4, e_X10_again_5, e_X10_again_6, e_X10_again_9, e_X10_again_12, ob_0, rk_0_5, rk_0_3, ob_16, kcl_i, kcl_r, kcl_l, kcl_0, kcl_n, true_and, and_true, c_takeAgain, kb_ok]
  by_cases q0 : ¬ p < 0 ∧ ¬ 3 ≤ p
  · obtain ⟨a, ha, rfl⟩ := tn_ex (m := 3) (by decide) (Int32.not_lt.1 q0.1) (Int32.not_le.1 q0.2)
    have q2 : ¬ Int32.ofNat a < 0 ∧ ¬ 2 < Int32.ofNat a := ⟨q0.1, fun z => two_lt3.1 z (Int32.not_le.1 q0.2)⟩
    rw [tn_cl (by omega)] at C
    have w := hc3 a ha
    by_cases q1 : i 19 a = 0
    · have qn : ¬ ((¬ Int32.ofNat a < 0 ∧ ¬ 3 ≤ Int32.ofNat a) ∧ ¬ i 19 a = 0) := fun z => z.2 q1
      rw [if_neg qn, kb_f qn] at C
      have qq : ¬ (i 116 a = 1 ∧ i 117 a = Int32.ofNat ch) := fun z => by
        rw [w.2.2.1, if_pos z] at q1; exact absurd q1 (by decide)
      refine JJ_n h 0 i (uPut i) ag_r (ag_uu ag_r) rfl rfl C ?_
      intro sc d y nx hd L st cu su K
      have e116 : uPut i 116 = i 116 := uP_o (by decide)
      have e117 : uPut i 117 = i 117 := uP_o (by decide)
      have e4 : uPut i 91 4 = Int32.ofNat ch := hc2
      refine kCA_of (d := d + 499) (v := some (.int _)) (fun K => ?_)
      rw [km_252]
      show kWP sc (d + 499) 252 0 [.ref 91, .int (Int32.ofNat a), .retAddr 0] [] _ K = _
      simp only [e_X11_again_0, e_X11_again_1, e_X11_again_2, e_X11_again_5, e_X11_again_6, e_X11_again_7, e_X11_again_8, e_X11_again_11, e_X11_again_14, e_X11_again_17, e_X11_again_18, e_X11_again_21, e_X11_again_22, e_X11_again_23, e_X11_again_26, e_X11_again_27, e_X11_again_30, e_X11_again_31, e_X11_again_32, e_X11_again_33, e_X11_again_36, e_X11_again_39, e_X11_again_40, e_X11_again_41, e_X11_again_42, e_X11_again_44, e_X11_again_46, e_X11_again_49, e_X11_again_50, e_X11_again_53, e_X11_again_54, e_X11_again_55, e_X11_again_58, e_X11_again_60, e_X11_again_61, e_X11_again_62, e_X11_again_63, e_X11_again_64, e_X11_again_65, e_X11_again_66, e_X11_again_69, e_X11_again_72, e_X11_again_73, e_X11_again_74, e_X11_again_77, e_X11_again_78, ob_91, rk_91_44, ar_116, rk_91_45, ar_117, rk_91_8, ar_96, rk_91_46, ar_118, kcl_i, kcl_r, kcl_l, kcl_0, kcl_n, true_and, and_true, uP_0, l0, l2', m_in, m_inI, kb_0, q2, not_true_eq_false, not_false_eq_true, and_self, if_false, kin3 ha, cl_n (show a < 100000 by omega), e116, e117, e4, kbool_0]
      rcases w.1 with z | z
      · simp only [z, if_true]
      · have z2 : ¬ i 117 a = Int32.ofNat ch := fun e => qq ⟨z, e⟩
        simp only [z, z10, z2, if_false]
    · have qp : (¬ Int32.ofNat a < 0 ∧ ¬ 3 ≤ Int32.ofNat a) ∧ ¬ i 19 a = 0 := ⟨q0, q1⟩
      rw [if_pos qp, kb_t qp] at C
      have qq : i 116 a = 1 ∧ i 117 a = Int32.ofNat ch := Classical.byContradiction fun z => by
        rw [w.2.2.1, if_neg z] at q1; exact q1 rfl
      have one : i 19 a = 1 := by rw [w.2.2.1, if_pos qq]
      have kc := kNc_18 ha
      have hiC : ∀ c, 17 ≤ c → kupi (nPut i 10 (nGet i (65 + 3 * a))) 16 1 0 c = i c := fun c hc => by rw [kupi_cf (by omega), nP_o (by omega) (by omega) (by omega)]
      generalize hX1 : kupi (nPut i 10 (nGet i (65 + 3 * a))) 16 1 0 = X at C hiC
      have W : CC 252 [.ref 91, .int (Int32.ofNat a)] X l f t sp (.int 1) (kupi (aPut (uPut X) 96 25 (fun z => i 118 (25 * a + z))) 91 23 0) l f t sp := by
        intro sc d y nx hd L st cu su K
        have e116 : uPut X 116 = i 116 := (uP_o (by decide)).trans (hiC 116 (by decide))
        have e117 : uPut X 117 = i 117 := (uP_o (by decide)).trans (hiC 117 (by decide))
        have e4 : uPut X 91 4 = Int32.ofNat ch := by rw [uP_f (by decide), hiC 91 (by decide)]; exact hc2
        refine kCA_of (d := d + 499) (v := some (.int _)) (fun K => ?_)
        rw [km_252]
        show kWP sc (d + 499) 252 0 [.ref 91, .int (Int32.ofNat a), .retAddr 0] [] _ K = _
        simp only [e_X11_again_0, e_X11_again_1, e_X11_again_2, e_X11_again_5, e_X11_again_6, e_X11_again_7, e_X11_again_8, e_X11_again_11, e_X11_again_14, e_X11_again_17, e_X11_again_18, e_X11_again_21, e_X11_again_22, e_X11_again_23, e_X11_again_26, e_X11_again_27, e_X11_again_30, e_X11_again_31, e_X11_again_32, e_X11_again_33, e_X11_again_36, e_X11_again_39, e_X11_again_40, e_X11_again_41, e_X11_again_42, e_X11_again_44, e_X11_again_46, e_X11_again_49, e_X11_again_50, e_X11_again_53, e_X11_again_54, e_X11_again_55, e_X11_again_58, e_X11_again_60, e_X11_again_61, e_X11_again_62, e_X11_again_63, e_X11_again_64, e_X11_again_65, e_X11_again_66, e_X11_again_69, e_X11_again_72, e_X11_again_73, e_X11_again_74, e_X11_again_77, e_X11_again_78, ob_91, rk_91_44, ar_116, rk_91_45, ar_117, rk_91_8, ar_96, rk_91_46, ar_118, kcl_i, kcl_r, kcl_l, kcl_0, kcl_n, true_and, and_true, uP_0, l0, l2', m_in, m_inI, kb_0, q2, not_true_eq_false, not_false_eq_true, and_self, if_false, if_true, kin3 ha, cl_n (show a < 100000 by omega), e116, e117, e4, qq.1, qq.2, z10]
        have R := k_for (P := fun z (A : Nat → Int32) => kWP sc (d + 499) 252 43 [.ref 91, .int (Int32.ofNat a), .int (Int32.ofNat z)] [] ((120, cu, su), aPut (uPut X) 96 25 A, l, kR f t sp) K) (n := 25) (g := fun z A => kuf A z (i 118 (25 * a + z))) ?_ (uPut X 96)
        · rw [aP_g] at R
          refine R.trans ?_
          refine e_X11_again_43.trans ?_
          simp only [e_X11_again_0, e_X11_again_1, e_X11_again_2, e_X11_again_5, e_X11_again_6, e_X11_again_7, e_X11_again_8, e_X11_again_11, e_X11_again_14, e_X11_again_17, e_X11_again_18, e_X11_again_21, e_X11_again_22, e_X11_again_23, e_X11_again_26, e_X11_again_27, e_X11_again_30, e_X11_again_31, e_X11_again_32, e_X11_again_33, e_X11_again_36, e_X11_again_39, e_X11_again_40, e_X11_again_41, e_X11_again_42, e_X11_again_44, e_X11_again_46, e_X11_again_49, e_X11_again_50, e_X11_again_53, e_X11_again_54, e_X11_again_55, e_X11_again_58, e_X11_again_60, e_X11_again_61, e_X11_again_62, e_X11_again_63, e_X11_again_64, e_X11_again_65, e_X11_again_66, e_X11_again_69, e_X11_again_72, e_X11_again_73, e_X11_again_74, e_X11_again_77, e_X11_again_78, ob_91, rk_91_44, ar_116, rk_91_45, ar_117, rk_91_8, ar_96, rk_91_46, ar_118, kcl_i, kcl_r, kcl_l, kcl_0, kcl_n, true_and, and_true, n25T, if_true, kbool_1]
          rw [aP_c (A2 := fun z => i 118 (25 * a + z)) (fun j hj => by rw [kfo_kuf, if_pos hj])]
        · intro z A hz
          have e118 : uPut X 118 = i 118 := (uP_o (by decide)).trans (hiC 118 (by decide))
          refine e_X11_again_43.trans ?_
          simp only [e_X11_again_0, e_X11_again_1, e_X11_again_2, e_X11_again_5, e_X11_again_6, e_X11_again_7, e_X11_again_8, e_X11_again_11, e_X11_again_14, e_X11_again_17, e_X11_again_18, e_X11_again_21, e_X11_again_22, e_X11_again_23, e_X11_again_26, e_X11_again_27, e_X11_again_30, e_X11_again_31, e_X11_again_32, e_X11_again_33, e_X11_again_36, e_X11_again_39, e_X11_again_40, e_X11_again_41, e_X11_again_42, e_X11_again_44, e_X11_again_46, e_X11_again_49, e_X11_again_50, e_X11_again_53, e_X11_again_54, e_X11_again_55, e_X11_again_58, e_X11_again_60, e_X11_again_61, e_X11_again_62, e_X11_again_63, e_X11_again_64, e_X11_again_65, e_X11_again_66, e_X11_again_69, e_X11_again_72, e_X11_again_73, e_X11_again_74, e_X11_again_77, e_X11_again_78, ob_91, rk_91_44, ar_116, rk_91_45, ar_117, rk_91_8, ar_96, rk_91_46, ar_118, kcl_i, kcl_r, kcl_l, kcl_0, kcl_n, true_and, and_true, n25F hz, if_false, aP_o (show 118 ≠ 96 by decide), e118, mul25, kin25 hz, kin75 (show 25 * a + z < 75 by omega), cl_n (show z < 100000 by omega), cl_n (show 25 * a + z < 100000 by omega), aW_s hz, tn_s]
      refine ⟨_, _, _, f, t, sp, _, _, m, C, W, ?_⟩
      have agC : kAg kSd i X := by rw [← hX1]; exact ag_u (ag_n10 ag_r) rfl
      have ap : ∀ {c : Nat}, c ≠ 91 → c ≠ 96 → kupi (aPut (uPut X) 96 25 (fun z => i 118 (25 * a + z))) 91 23 0 c = X c := fun c1 c2 => by rw [kupi_cf c1, aP_o c2, uP_o c1]
      refine kIV_d h (ag_u (ag_a (ag_u agC rfl) (fun _ _ => rfl)) rfl) ?_ ?_ ?_ hS
      · have e3 : X 3 = i 3 := by rw [← hX1, kupi_cf (by decide), nP_lo c10 (by decide)]
        rw [ap (by decide) (by decide), e3, kupi_k (by decide), aP_o (by decide), uP_f (by decide), hiC 91 (by decide)]; exact hW
      · have e10 : nGet (kupi (aPut (uPut X) 96 25 (fun z => i 118 (25 * a + z))) 91 23 0) 10 = nGet (nPut i 10 (nGet i (65 + 3 * a))) 10 := by
          rw [nGet_c (i := X) (ap (by decide) (by decide)) (ap (by decide) (by decide)) (ap (by decide) (by decide)), ← hX1]
          exact nGet_c (kupi_cf (by decide)) (kupi_cf (by decide)) (kupi_cf (by decide))
        rw [e10]
        have w4 : NR m (nGet i (65 + 3 * a)) (fun k => i 118 (25 * a + k)) := w.2.2.2 one
        refine NR_e w4 ?_
        intro j hj
        rw [kupi_cf (by decide)]
        exact aP_s hj
      · refine ⟨0, by decide, ?_, ?_, fun j hj => absurd hj (Nat.not_lt_zero j)⟩
        · rw [ap (by decide) (by decide), ← hX1]; exact kupi_s
        · exact kupi_s
  · have qn : ¬ ((¬ p < 0 ∧ ¬ 3 ≤ p) ∧ ¬ i 19 p.toNatClampNeg = 0) := fun z => q0 z.1
    rw [if_neg qn, kb_f qn] at C
    have q2 : ¬ (¬ p < 0 ∧ ¬ 2 < p) := fun e => q0 ⟨e.1, fun z => e.2 (two_lt3.2 (Int32.not_lt.2 z))⟩
    refine JJ_n h 0 i (uPut i) ag_r (ag_uu ag_r) rfl rfl C ?_
    intro sc d y nx hd L st cu su K
    refine kCA_of (d := d + 499) (v := some (.int _)) (fun K => ?_)
    rw [km_252]
    show kWP sc (d + 499) 252 0 [.ref 91, .int p, .retAddr 0] [] _ K = _
    simp only [e_X11_again_0, e_X11_again_1, e_X11_again_2, e_X11_again_5, e_X11_again_6, e_X11_again_7, e_X11_again_8, e_X11_again_11, e_X11_again_14, e_X11_again_17, e_X11_again_18, e_X11_again_21, e_X11_again_22, e_X11_again_23, e_X11_again_26, e_X11_again_27, e_X11_again_30, e_X11_again_31, e_X11_again_32, e_X11_again_33, e_X11_again_36, e_X11_again_39, e_X11_again_40, e_X11_again_41, e_X11_again_42, e_X11_again_44, e_X11_again_46, e_X11_again_49, e_X11_again_50, e_X11_again_53, e_X11_again_54, e_X11_again_55, e_X11_again_58, e_X11_again_60, e_X11_again_61, e_X11_again_62, e_X11_again_63, e_X11_again_64, e_X11_again_65, e_X11_again_66, e_X11_again_69, e_X11_again_72, e_X11_again_73, e_X11_again_74, e_X11_again_77, e_X11_again_78, ob_91, rk_91_44, ar_116, rk_91_45, ar_117, rk_91_8, ar_96, rk_91_46, ar_118, kcl_i, kcl_r, kcl_l, kcl_0, kcl_n, true_and, and_true, uP_0, l0, l2', m_in, m_inI, kb_0, q2, not_false_eq_true, if_true, kbool_0]
end TC
