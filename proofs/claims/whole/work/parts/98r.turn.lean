/-! turn, midnight, undo -/
section TC
variable {sc : Nat × (Nat → Int32)} {d y nx : Nat} {hd : List (Int × Nat)} {L st : List Value} {S : kS} {cu su : Nat} {i : Nat → Nat → Int32} {l : Nat → Nat → Int64} {f t c b m : Nat} {sp : Nat → Nat} {K : Option (Option Value) → kS → Prop}
variable {N M Z S1 Q A : Nat → Int32} {i1 i2 i3 : Nat → Nat → Int32} {l2 : Nat → Nat → Int64} {n n2 k x : Nat} {v r : Int32} {zs zs2 : List Int64} {le co br acts code co2 br2 : Nat → Int32} {s : Nat × (Nat → Int32)} {w : WN} {u : WM} {sp2 : Nat → Nat}
theorem u104 : uPut i 104 = i 104 := uP_o (by decide)
/-- what the reference's jB shows of its own cells -/
theorem jB_cells : mCo (jB i k) = mCo i ∧ jB i k 93 = i 93 ∧ jB i k 94 = i 94 ∧ jB i k 100 = i 100 ∧ jB i k 96 = i 96 ∧ jB i k 102 = i 102 ∧ jB i k 103 = i 103 := ⟨jB_co, jB_o (by decide) (by decide), jB_o (by decide) (by decide), jB_o (by decide) (by decide), jB_o (by decide) (by decide), jB_o (by decide) (by decide), jB_o (by decide) (by decide)⟩
theorem jB_104 {j : Nat} (hj : j < 400) : jB i k 104 j = pbA k (i 104) (i 96) j := by unfold jB; exact aP_s hj
theorem IU_fin {a b : Int32} {Ns : Nat → Nat → Int32} {r : Nat → Int32} {X : Nat → Nat → Int32} (h : IU m a b Ns (if k = 15 then shA r else r)) (e : ∀ j, j < 400 → X 104 j = r j) : IU m a b Ns (aD X k 104) := by
  refine IU_r h ?_
  intro j hj
  rw [aD_104 (by omega)]
  by_cases k15 : k = 15
  · rw [if_pos k15, if_pos k15]; unfold shA; rw [if_pos hj, if_pos hj]; exact e _ (by omega)
  · rw [if_neg k15, if_neg k15]; exact e _ (by omega)
theorem nW_20 {v : Int32} : kupi i 10 3 v = nPut i 10 (kuf (nGet i 10) 20 v) := by
  have := @nW_3 i 10 (nGet i 10) v
  rw [nP_g] at this; exact this
theorem J_midnight (h : IV m i l f t sp) (v : Int32) : JJ 105 208 [.int v] i l f t sp := by
  obtain ⟨⟨h5, h91, h8, e9, hle, hp⟩, hX, hW, hN, hU, hS, hK, hH, hR, hF⟩ := id h
  obtain ⟨k, h15, k1, k2, hsp, hne, _⟩ := IV_undo h
  have hNow := IV_now h
  obtain ⟨hN0, x, y, hx, hy, hxy, hy60⟩ := id hN
  have eI : (¬ v < i 96 19 + 1 ∧ ¬ 60 < v) ↔ (¬ v < 1 ∧ ¬ 60 < v ∧ i 10 2 < v) := by
    rw [hNow.2.2.1, hx, tn_s]
    have a1 : (Int32.ofNat (x + 1)).toInt = x + 1 := by rw [Int32.toInt_ofNat_of_lt (by omega)]; rfl
    have a2 : (Int32.ofNat x).toInt = x := Int32.toInt_ofNat_of_lt (by omega)
    rw [Int32.lt_iff_toInt_lt, Int32.lt_iff_toInt_lt, Int32.lt_iff_toInt_lt, Int32.lt_iff_toInt_lt, a1, a2, show (1 : Int32).toInt = 1 from by decide]
    omega
  by_cases h0 : ¬ v < 1 ∧ ¬ 60 < v ∧ i 10 2 < v
  · obtain ⟨z, hz, rfl⟩ := tn_exle (m := 60) (by decide) (Int32.le_trans (by decide) (Int32.not_lt.1 h0.1)) (Int32.not_lt.1 h0.2.1)
    have hxz : x < z := by
      have := h0.2.2
      rw [hNow.2.2.1, hx, tn_lt (by omega) (by omega)] at this; exact this
    have hI := eI.2 h0
    have C : CC 105 [.ref 0, .int (Int32.ofNat z)] i l f t sp (.int (i 96 20)) (nPut (pRem i sp k 10) 10 (kuf (nGet i 10) 20 (Int32.ofNat z))) l f t (pR k sp) := by
      intro sc d y nx hd L st cu su K
      have e3 : pRem i sp k 10 10 = i 10 := rem_lo hS h15 (by decide)
      have eN := @nW_20 (pRem i sp k 10) (Int32.ofNat z)
      rw [rem_now hS h15] at eN
      refine kCA_of (d := d + 499) (v := some (.int _)) (fun K => ?_)
      rw [km_105]
      show kWP sc (d + 499) 105 0 [.ref 0, .int (Int32.ofNat z), .retAddr 0] [] _ K = _
      simp only [e_X10_midnight_0, e_X10_midnight_1, e_X10_midnight_2, e_X10_midnight_5, e_X10_midnight_6, e_X10_midnight_8, e_X10_midnight_11, e_X10_midnight_12, e_X10_midnight_13, e_X10_midnight_16, e_X10_midnight_19, e_X10_midnight_22, e_X10_midnight_23, e_X10_midnight_24, e_X10_midnight_25, e_X10_midnight_28, e_X10_midnight_29, e_X10_midnight_32, e_X10_midnight_35, e_X10_midnight_36, e_X10_midnight_39, e_X10_midnight_42, e_X10_midnight_43, e_X10_midnight_44, e_X10_midnight_47, e_X10_midnight_48, e_X10_midnight_51, e_X10_midnight_52, ob_0, rk_0_3, ob_10, ob_13, rk_0_5, ob_16, kcl_i, kcl_r, kcl_l, kcl_0, kcl_n, true_and, and_true, h0.1, h0.2.1, h0.2.2, if_true, if_false, c_remember c10 hsp hne k1 h15, e3, hNow.2.2.2.1, eN]
    have hiC : ∀ c, 74 ≤ c → nPut (pRem i sp k 10) 10 (kuf (nGet i 10) 20 (Int32.ofNat z)) c = i c := fun c hc => by rw [nP_hi c10 hc, rem_hi hS h15 hc]
    generalize hX1 : nPut (pRem i sp k 10) 10 (kuf (nGet i 10) 20 (Int32.ofNat z)) = X at C hiC
    have W : CC 208 [.ref 91, .int (Int32.ofNat z)] X l f t (pR k sp) (.int (i 96 20)) (aD (kupi (jB X k) 96 20 (Int32.ofNat z)) k) l f t (pR k sp) := by
      intro sc d y nx hd L st cu su K
      have hk' : uPut X 91 23 = Int32.ofNat k := by rw [uP_f (by decide), hiC 91 (by decide)]; exact k2
      have eB : aPut (uPut X) 104 400 (pbA k (X 104) (X 96)) = jB X k := rfl
      have hkS : kupi (jB X k) 96 20 (Int32.ofNat z) 91 23 = Int32.ofNat k := by rw [kupi_c (by decide), jB_f (by decide), hiC 91 (by decide)]; exact k2
      have e96 : jB X k 96 = X 96 := jB_o (by decide) (by decide)
      refine kCA_of (d := d + 499) (v := some (.int _)) (fun K => ?_)
      rw [km_208]
      show kWP sc (d + 499) 208 0 [.ref 91, .int (Int32.ofNat z), .retAddr 0] [] _ K = _
      simp only [e_X11_midnight_0, e_X11_midnight_1, e_X11_midnight_2, e_X11_midnight_5, e_X11_midnight_6, e_X11_midnight_7, e_X11_midnight_8, e_X11_midnight_11, e_X11_midnight_13, e_X11_midnight_14, e_X11_midnight_15, e_X11_midnight_16, e_X11_midnight_17, e_X11_midnight_20, e_X11_midnight_23, e_X11_midnight_26, e_X11_midnight_27, e_X11_midnight_28, e_X11_midnight_29, e_X11_midnight_32, e_X11_midnight_33, e_X11_midnight_36, e_X11_midnight_38, e_X11_midnight_39, e_X11_midnight_40, e_X11_midnight_41, e_X11_midnight_44, e_X11_midnight_46, e_X11_midnight_47, e_X11_midnight_48, e_X11_midnight_49, e_X11_midnight_50, e_X11_midnight_53, ob_91, rk_91_8, ar_96, kcl_i, kcl_r, kcl_l, kcl_0, kcl_n, true_and, and_true, uP_0, u96, ki19, ni19, ki20, ni20, hiC 96 (by decide), l60, m_in, m_inI, kb_0, hI, not_true_eq_false, not_false_eq_true, and_self, if_false, m_putsBy hk' h15, u104]
      rw [← hiC 96 (by decide), eB]
      simp only [e_X11_midnight_0, e_X11_midnight_1, e_X11_midnight_2, e_X11_midnight_5, e_X11_midnight_6, e_X11_midnight_7, e_X11_midnight_8, e_X11_midnight_11, e_X11_midnight_13, e_X11_midnight_14, e_X11_midnight_15, e_X11_midnight_16, e_X11_midnight_17, e_X11_midnight_20, e_X11_midnight_23, e_X11_midnight_26, e_X11_midnight_27, e_X11_midnight_28, e_X11_midnight_29, e_X11_midnight_32, e_X11_midnight_33, e_X11_midnight_36, e_X11_midnight_38, e_X11_midnight_39, e_X11_midnight_40, e_X11_midnight_41, e_X11_midnight_44, e_X11_midnight_46, e_X11_midnight_47, e_X11_midnight_48, e_X11_midnight_49, e_X11_midnight_50, e_X11_midnight_53, ob_91, rk_91_8, ar_96, kcl_i, kcl_r, kcl_l, kcl_0, kcl_n, true_and, and_true, e96, ki20, ni20, m_adds hkS h15]
    refine ⟨_, _, _, f, t, pR k sp, _, _, m, C, W, ?_⟩
    have agC : kAg kSd i X := by rw [← hX1]; exact ag_n10 (ag_rem hS h15)
    refine kIV_d h (ag_aD (ag_u (ag_jB agC) rfl)) ?_ ?_ ?_ (IS_pR hS)
    · have e3 : X 3 = i 3 := by rw [← hX1, nP_lo c10 (by decide), rem_lo hS h15 (by decide)]
      rw [aD_o (by decide) (by decide), kupi_c (by decide), jB_o (by decide) (by decide), aD_f (by decide), kupi_c (by decide), jB_f (by decide), e3, hiC 91 (by decide)]; exact hW
    · have e10 : nGet (aD (kupi (jB X k) 96 20 (Int32.ofNat z)) k) 10 = nGet X 10 := by
        apply nGet_c
        · rw [aD_o (by decide) (by decide), kupi_cf (by decide), jB_o (by decide) (by decide)]
        · rw [aD_o (by decide) (by decide), kupi_cf (by decide), jB_o (by decide) (by decide)]
        · rw [aD_o (by decide) (by decide), kupi_cf (by decide), jB_o (by decide) (by decide)]
      rw [e10, ← hX1, aD_o (by decide) (by decide)]
      have G : NR m (kuf (nGet i 10) 20 (Int32.ofNat z)) (kuf (i 96) 20 (Int32.ofNat z)) := by
        refine ⟨NR0_kuf (by decide) hN0, x, z, ?_, kuf_s, hxz, hz⟩
        rw [kuf_n (by decide)]; exact hx
      refine NR_e G ?_
      intro j hj
      unfold kupi kuf
      rw [jB_o (by decide) (by decide), nP_hi c10 (by decide), rem_hi hS h15 (by decide)]
      by_cases q : j = 20
      · rw [if_pos ⟨rfl, q⟩, if_pos q]
      · rw [if_neg (fun e => q e.2), if_neg q]
    · have e16 : X 16 1 = Int32.ofNat (pK k + 1) := by rw [← hX1, nP_o (by decide) (by decide) (by decide), rem_16 hS h15]
      rw [aD_23, aD_o (show 16 ≠ 91 by decide) (by decide), kupi_c (by decide), jB_o (show 16 ≠ 91 by decide) (by decide), e16]
      refine IU_fin (r := pbA k (i 104) (i 96)) (IU_rem hS hU k1 k2 h15 c10 hN ?_) ?_
      · intro c c1 c2
        rw [aD_o (by omega) (by omega), kupi_cf (by omega), jB_o (by omega) (by omega), ← hX1, nP_o (by omega) (by omega) (by omega)]
      · intro j hj
        rw [kupi_c (by decide), jB_104 hj, hiC 104 (by decide), hiC 96 (by decide)]
  · refine JJ_n h (-1) i (uPut i) ag_r (ag_uu ag_r) rfl rfl ?_ ?_
    · intro sc d y nx hd L st cu su K
      refine kCA_of (d := d + 499) (v := some (.int _)) (fun K => ?_)
      rw [km_105]
      show kWP sc (d + 499) 105 0 [.ref 0, .int v, .retAddr 0] [] _ K = _
      simp only [e_X10_midnight_0, e_X10_midnight_1, e_X10_midnight_2, e_X10_midnight_5, e_X10_midnight_6, e_X10_midnight_8, e_X10_midnight_11, e_X10_midnight_12, e_X10_midnight_13, e_X10_midnight_16, e_X10_midnight_19, e_X10_midnight_22, e_X10_midnight_23, e_X10_midnight_24, e_X10_midnight_25, e_X10_midnight_28, e_X10_midnight_29, e_X10_midnight_32, e_X10_midnight_35, e_X10_midnight_36, e_X10_midnight_39, e_X10_midnight_42, e_X10_midnight_43, e_X10_midnight_44, e_X10_midnight_47, e_X10_midnight_48, e_X10_midnight_51, e_X10_midnight_52, ob_0, rk_0_3, ob_10, ob_13, rk_0_5, ob_16, kcl_i, kcl_r, kcl_l, kcl_0, kcl_n, true_and, and_true]
      by_cases q1 : v < 1
      · simp only [q1, if_true]
      by_cases q2 : 60 < v
      · simp only [q1, q2, if_true, if_false]
      have q3 : ¬ i 10 2 < v := fun e => h0 ⟨q1, q2, e⟩
      simp only [q1, q2, q3, if_false]
    · intro sc d y nx hd L st cu su K
      have hI : ¬ (¬ v < i 96 19 + 1 ∧ ¬ 60 < v) := fun e => h0 (eI.1 e)
      refine kCA_of (d := d + 499) (v := some (.int _)) (fun K => ?_)
      rw [km_208]
      show kWP sc (d + 499) 208 0 [.ref 91, .int v, .retAddr 0] [] _ K = _
      simp only [e_X11_midnight_0, e_X11_midnight_1, e_X11_midnight_2, e_X11_midnight_5, e_X11_midnight_6, e_X11_midnight_7, e_X11_midnight_8, e_X11_midnight_11, e_X11_midnight_13, e_X11_midnight_14, e_X11_midnight_15, e_X11_midnight_16, e_X11_midnight_17, e_X11_midnight_20, e_X11_midnight_23, e_X11_midnight_26, e_X11_midnight_27, e_X11_midnight_28, e_X11_midnight_29, e_X11_midnight_32, e_X11_midnight_33, e_X11_midnight_36, e_X11_midnight_38, e_X11_midnight_39, e_X11_midnight_40, e_X11_midnight_41, e_X11_midnight_44, e_X11_midnight_46, e_X11_midnight_47, e_X11_midnight_48, e_X11_midnight_49, e_X11_midnight_50, e_X11_midnight_53, ob_91, rk_91_8, ar_96, kcl_i, kcl_r, kcl_l, kcl_0, kcl_n, true_and, and_true, uP_0, u96, ki19, ni19, l60, m_in, m_inI, kb_0, hI, not_false_eq_true, if_true]
theorem J_undo (h : IV m i l f t sp) : JJ 107 197 [] i l f t sp := by
  obtain ⟨⟨h5, h91, h8, e9, hle, hp⟩, hX, hW, hN, hU, hS, hK, hH, hR, hF⟩ := id h
  obtain ⟨k, h15, k1, k2, hsp, hne, _⟩ := IV_undo h
  have C : CC 107 [.ref 0] i l f t sp (.int (if k = 0 then -1 else Int32.ofNat (k - 1))) (if k = 0 then i else nPut (kupi i 16 1 (Int32.ofNat (k - 1))) 10 (nGet i (sp (k - 1)))) l f t sp := by
    intro sc d y nx hd L st cu su K
    refine kCA_of (d := d + 499) (v := some (.int _)) (fun K => ?_)
    rw [km_107]
    show kWP sc (d + 499) 107 0 [.ref 0] [] _ K = _
    simp only [e_X10_undo_0, e_X10_undo_1, e_X10_undo_4, e_X10_undo_5, e_X10_undo_8, e_X10_undo_11, ob_0, rk_0_5, rk_0_3, ob_16, kcl_i, kcl_r, kcl_l, kcl_0, kcl_n, true_and, and_true, c_bringBack c10 hsp hne k1 h15]
  by_cases q : k = 0
  · rw [if_pos q, if_pos q] at C
    have k0 : (Int32.ofNat k = 0) = True := by rw [tn_z (by omega)]; exact eq_true q
    refine JJ_n h (-1) i (uPut i) ag_r (ag_uu ag_r) rfl rfl C ?_
    intro sc d y nx hd L st cu su K
    have k2' : uPut i 91 23 = Int32.ofNat k := k2
    refine kCA_of (d := d + 499) (v := some (.int _)) (fun K => ?_)
    rw [km_197]
    show kWP sc (d + 499) 197 0 [.ref 91, .retAddr 0] [] _ K = _
    simp only [e_X11_undo_0, e_X11_undo_1, e_X11_undo_2, e_X11_undo_5, e_X11_undo_6, e_X11_undo_9, e_X11_undo_12, e_X11_undo_13, e_X11_undo_14, e_X11_undo_15, e_X11_undo_16, e_X11_undo_19, e_X11_undo_20, e_X11_undo_21, e_X11_undo_24, e_X11_undo_25, e_X11_undo_27, e_X11_undo_29, e_X11_undo_32, e_X11_undo_33, e_X11_undo_36, e_X11_undo_37, e_X11_undo_38, e_X11_undo_41, e_X11_undo_43, e_X11_undo_44, e_X11_undo_47, e_X11_undo_48, e_X11_undo_49, e_X11_undo_50, e_X11_undo_51, e_X11_undo_52, e_X11_undo_55, e_X11_undo_58, e_X11_undo_59, e_X11_undo_62, ob_91, rk_91_8, ar_96, rk_91_24, ar_104, kcl_i, kcl_r, kcl_l, kcl_0, kcl_n, true_and, and_true, uP_0, k2', k0, if_true]
  · rw [if_neg q, if_neg q] at C
    have k0 : (Int32.ofNat k = 0) = False := by rw [tn_z (by omega)]; exact eq_false q
    have hiC : ∀ c, 74 ≤ c → nPut (kupi i 16 1 (Int32.ofNat (k - 1))) 10 (nGet i (sp (k - 1))) c = i c := fun c hc => by rw [nP_hi c10 hc, kupi_cf (by omega)]
    generalize hX1 : nPut (kupi i 16 1 (Int32.ofNat (k - 1))) 10 (nGet i (sp (k - 1))) = X at C hiC
    have W : CC 197 [.ref 91] X l f t sp (.int (Int32.ofNat (k - 1))) (aPut (kupi (uPut X) 91 23 (Int32.ofNat (k - 1))) 96 25 (fun z => i 104 (25 * (k - 1) + z))) l f t sp := by
      intro sc d y nx hd L st cu su K
      have k2' : uPut X 91 23 = Int32.ofNat k := by rw [uP_f (by decide), hiC 91 (by decide)]; exact k2
      refine kCA_of (d := d + 499) (v := some (.int _)) (fun K => ?_)
      rw [km_197]
      show kWP sc (d + 499) 197 0 [.ref 91, .retAddr 0] [] _ K = _
      simp only [e_X11_undo_0, e_X11_undo_1, e_X11_undo_2, e_X11_undo_5, e_X11_undo_6, e_X11_undo_9, e_X11_undo_12, e_X11_undo_13, e_X11_undo_14, e_X11_undo_15, e_X11_undo_16, e_X11_undo_19, e_X11_undo_20, e_X11_undo_21, e_X11_undo_24, e_X11_undo_25, e_X11_undo_27, e_X11_undo_29, e_X11_undo_32, e_X11_undo_33, e_X11_undo_36, e_X11_undo_37, e_X11_undo_38, e_X11_undo_41, e_X11_undo_43, e_X11_undo_44, e_X11_undo_47, e_X11_undo_48, e_X11_undo_49, e_X11_undo_50, e_X11_undo_51, e_X11_undo_52, e_X11_undo_55, e_X11_undo_58, e_X11_undo_59, e_X11_undo_62, ob_91, rk_91_8, ar_96, rk_91_24, ar_104, kcl_i, kcl_r, kcl_l, kcl_0, kcl_n, true_and, and_true, uP_0, k2', k0, if_false, tn_sub (show 0 < k by omega)]
      have R := k_for (P := fun z (A : Nat → Int32) => kWP sc (d + 499) 197 26 [.ref 91, .int (Int32.ofNat z)] [] ((120, cu, su), aPut (kupi (uPut X) 91 23 (Int32.ofNat (k - 1))) 96 25 A, l, kR f t sp) K) (n := 25) (g := fun z A => kuf A z (i 104 (25 * (k - 1) + z))) ?_ (X 96)
      · have e0 : aPut (kupi (uPut X) 91 23 (Int32.ofNat (k - 1))) 96 25 (X 96) = kupi (uPut X) 91 23 (Int32.ofNat (k - 1)) := by
          have := @aP_g (kupi (uPut X) 91 23 (Int32.ofNat (k - 1))) 96 25
          rw [kupi_cf (by decide), u96] at this; exact this
        rw [e0] at R
        refine R.trans ?_
        refine e_X11_undo_26.trans ?_
        simp only [e_X11_undo_0, e_X11_undo_1, e_X11_undo_2, e_X11_undo_5, e_X11_undo_6, e_X11_undo_9, e_X11_undo_12, e_X11_undo_13, e_X11_undo_14, e_X11_undo_15, e_X11_undo_16, e_X11_undo_19, e_X11_undo_20, e_X11_undo_21, e_X11_undo_24, e_X11_undo_25, e_X11_undo_27, e_X11_undo_29, e_X11_undo_32, e_X11_undo_33, e_X11_undo_36, e_X11_undo_37, e_X11_undo_38, e_X11_undo_41, e_X11_undo_43, e_X11_undo_44, e_X11_undo_47, e_X11_undo_48, e_X11_undo_49, e_X11_undo_50, e_X11_undo_51, e_X11_undo_52, e_X11_undo_55, e_X11_undo_58, e_X11_undo_59, e_X11_undo_62, ob_91, rk_91_8, ar_96, rk_91_24, ar_104, kcl_i, kcl_r, kcl_l, kcl_0, kcl_n, true_and, and_true, n25T, if_true, aP_o (show 91 ≠ 96 by decide), kupi_s]
        rw [aP_c (A2 := fun z => i 104 (25 * (k - 1) + z)) (fun j hj => by rw [kfo_kuf, if_pos hj])]
      · intro z A hz
        refine e_X11_undo_26.trans ?_
        simp only [e_X11_undo_0, e_X11_undo_1, e_X11_undo_2, e_X11_undo_5, e_X11_undo_6, e_X11_undo_9, e_X11_undo_12, e_X11_undo_13, e_X11_undo_14, e_X11_undo_15, e_X11_undo_16, e_X11_undo_19, e_X11_undo_20, e_X11_undo_21, e_X11_undo_24, e_X11_undo_25, e_X11_undo_27, e_X11_undo_29, e_X11_undo_32, e_X11_undo_33, e_X11_undo_36, e_X11_undo_37, e_X11_undo_38, e_X11_undo_41, e_X11_undo_43, e_X11_undo_44, e_X11_undo_47, e_X11_undo_48, e_X11_undo_49, e_X11_undo_50, e_X11_undo_51, e_X11_undo_52, e_X11_undo_55, e_X11_undo_58, e_X11_undo_59, e_X11_undo_62, ob_91, rk_91_8, ar_96, rk_91_24, ar_104, kcl_i, kcl_r, kcl_l, kcl_0, kcl_n, true_and, and_true, n25F hz, if_false, aP_o (show 91 ≠ 96 by decide), aP_o (show 104 ≠ 96 by decide), kupi_s, kupi_cf (show 104 ≠ 91 by decide), u104, hiC 104 (by decide), mul25, kin25 hz, kin400 (show 25 * (k - 1) + z < 400 by omega), cl_n (show z < 100000 by omega), cl_n (show 25 * (k - 1) + z < 100000 by omega), aW_s hz, tn_s]
    refine ⟨_, _, _, f, t, sp, _, _, m, C, W, ?_⟩
    have agC : kAg kSd i X := by rw [← hX1]; exact ag_n10 (ag_u ag_r rfl)
    have hap : ∀ {c : Nat}, c ≠ 96 → c ≠ 91 → aPut (kupi (uPut X) 91 23 (Int32.ofNat (k - 1))) 96 25 (fun z => i 104 (25 * (k - 1) + z)) c = X c := fun c1 c2 => by rw [aP_o c1, kupi_cf c2, uP_o c2]
    have hw := hS.1 (k - 1) (by omega)
    refine kIV_d h (ag_a (ag_u (ag_u agC rfl) rfl) (fun _ _ => rfl)) ?_ ?_ ?_ hS
    · have e3 : X 3 = i 3 := by rw [← hX1, nP_lo c10 (by decide), kupi_cf (by decide)]
      rw [hap (by decide) (by decide), e3, aP_o (by decide), kupi_k (by decide), uP_f (by decide), hiC 91 (by decide)]; exact hW
    · have e10 : nGet (aPut (kupi (uPut X) 91 23 (Int32.ofNat (k - 1))) 96 25 (fun z => i 104 (25 * (k - 1) + z))) 10 = nGet X 10 := nGet_c (hap (by decide) (by decide)) (hap (by decide) (by decide)) (hap (by decide) (by decide))
      rw [e10, ← hX1]
      obtain ⟨n, n1, n2, n3, n4⟩ := hU
      have en : k = n := by rw [k1, tn_eq (by omega) (by omega)] at n2; exact n2
      refine NR_e (n4 (k - 1) (by omega)) ?_
      intro j hj
      exact aP_s hj
    · rw [hap (c := 16) (by decide) (by decide), hap (c := 104) (by decide) (by decide), aP_o (show 91 ≠ 96 by decide), kupi_s, hiC 104 (by decide)]
      have e16 : X 16 1 = Int32.ofNat (k - 1) := by rw [← hX1, nP_o (by decide) (by decide) (by decide), kupi_s]
      rw [e16]
      obtain ⟨n, n1, n2, n3, n4⟩ := hU
      have en : k = n := by rw [k1, tn_eq (by omega) (by omega)] at n2; exact n2
      subst en
      refine ⟨k - 1, by omega, rfl, rfl, fun j hj => ?_⟩
      have wj := hS.1 j (by omega)
      show NR m (nGet (aPut (kupi (uPut X) 91 23 (Int32.ofNat (k - 1))) 96 25 (fun z => i 104 (25 * (k - 1) + z))) (sp j)) _
      have h62 := kNc_all (P := fun c => c < 65 → c ≤ 62) (by decide) wj.1 wj.2.2
      rw [nGet_c (i := X) (hap (by omega) (by omega)) (hap (by omega) (by omega)) (hap (by omega) (by omega)), ← hX1, nG_o wj.1 c10 (by omega), nGet_16 wj.1]
      exact n4 j (by omega)
theorem c_playN {n k : Nat} (hf : kRc b = true) (hm : i 5 0 = Int32.ofNat m) (h8 : m ≤ 8) (hn : i b 2 = Int32.ofNat n) (h40 : n ≤ 40) (hk : k < 100000) : kCA sc (d + 5) 12 [.ref 10, .ref 5, .ref b, .int (Int32.ofNat k)] y nx hd L st ((120, cu, su), i, l, kR f t sp) K = kWP sc (d + 5) y nx L (.int (qPlay (i 9) (i 8) (i 6) m (i (b + 1)) n k (nGet i 10)).2 :: st) ((120, cu, su), rPut (nPut i 10 (qPlay (i 9) (i 8) (i 6) m (i (b + 1)) n k (nGet i 10)).1) b (sPlay (i 9) (i 8) (i 6) m (i (b + 1)) n k (nGet i 10) (rGet i b)), l, kR f t sp) K := by
  have W := c_play (sc := sc) (d := d) (y := y) (nx := nx) (hd := hd) (L := L) (st := st) (cu := cu) (su := su) (i := i) (l := l) (f := f) (t := t) (sp := sp) (K := K) (N := nGet i 10) (s := rGet i b) hf c10 hm h8 hn h40 hk
  rw [nP_g, rP_g] at W
  exact W
theorem Us_gen (h : IV m i l f t sp) (hr : RR (i (f + 1)) n (i 100) n2) {j : Nat → Nat → Int32} (c0 : mCo j = mCo i) (c1 : j 93 = i 93) (c2 : j 94 = i 94) (c3 : j 100 = i 100) (c4 : j 96 = i 96) (s : Nat × (Nat → Int32)) : ∀ x, NR m (qTs (i 9) (i 8) (i 6) m (i (f + 1)) n x (nGet i 10, s)).1 (Us j m n2 x).1 ∧ (Us j m n2 x).2.1 25 = (Us j m n2 x).1 21 - i 96 21 ∧ (Us j m n2 x).2.1 26 = (qPlay (i 9) (i 8) (i 6) m (i (f + 1)) n x (nGet i 10)).2 := by
  obtain ⟨⟨h5, h91, h8, e9, hle, hp⟩, _, _, hN, _⟩ := h
  intro x
  have hNN : NR m ((nGet i 10, s) : WN).1 (U0 j).1 := by show NR m (nGet i 10) (j 96); rw [c4]; exact hN
  have R := S_rel (w := (nGet i 10, s)) (u := U0 j) (le := i 93) (co := i 8) (co2 := mCo i) (br := i 6) (br2 := i 94) (n := n) (n2 := n2) (acts := i (f + 1)) (code := i 100) (fun a ha => (hp a ha).2.2) (fun a ha => (hp a ha).1) (fun a => b8_mCo a) h8 hle hr hNN x
  have R2 := qPlay_sil (w := (nGet i 10, s)) (u := U0 j) (le := i 93) (co := i 8) (co2 := mCo i) (br := i 6) (br2 := i 94) (n := n) (n2 := n2) (acts := i (f + 1)) (code := i 100) (fun a ha => (hp a ha).2.2) (fun a ha => (hp a ha).1) (fun a => b8_mCo a) h8 hle hr hNN x
  unfold Us
  rw [c0, c1, c2, c3, e9]
  have g1 : (U0 j).2.1 25 = 0 := rfl
  have g2 : (U0 j).1 21 = i 96 21 := by show j 96 21 = _; rw [c4]
  have g3 : (U0 j).2.1 26 = 0 := rfl
  refine ⟨R.1, R.2.trans ?_, R2.trans ?_⟩
  · rw [g1, g2, Int32.zero_add]
  · rw [g3, Int32.zero_add]
theorem J_turn (h : IV m i l f t sp) (p : Int32) : JJ 104 207 [.int p] i l f t sp := by
  obtain ⟨⟨h5, h91, h8, e9, hle, hp⟩, hX, hW, hN, hU, hS, hK, hH, hR, hF⟩ := id h
  obtain ⟨k, h15, k1, k2, hsp, hne, _⟩ := IV_undo h
  obtain ⟨n, n2, e2, h40, e19, hr, hf⟩ := IV_rule h
  have hNow := IV_now h
  by_cases h0 : ¬ p < 0 ∧ ¬ 60 < p
  · obtain ⟨z, hz, rfl⟩ := tn_exle (m := 60) (by decide) (Int32.not_lt.1 h0.1) (Int32.not_lt.1 h0.2)
    have h60 : Int32.ofNat z ≤ 60 := Int32.not_lt.1 h0.2
    obtain ⟨q1, hq1⟩ : ∃ q1, q1 = qPlay (i 9) (i 8) (i 6) m (i (f + 1)) n z (nGet i 10) := ⟨_, rfl⟩
    have lo : ∀ {c : Nat}, c < 16 → pRem i sp k 10 c = i c := fun hc => rem_lo hS h15 hc
    have hi : ∀ {c : Nat}, 74 ≤ c → pRem i sp k 10 c = i c := fun hc => rem_hi hS h15 hc
    have f74 : 74 ≤ f := by rcases kRc_of hf with rfl | rfl <;> decide
    obtain ⟨s1, hs1⟩ : ∃ s1, s1 = sPlay (i 9) (i 8) (i 6) m (i (f + 1)) n z (nGet i 10) (rGet (pRem i sp k 10) f) := ⟨_, rfl⟩
    have C : CC 104 [.ref 0, .int (Int32.ofNat z)] i l f t sp (.int (pNob (q1.1 18))) (wPut (rPut (nPut (pRem i sp k 10) 10 q1.1) f s1) 2) (tC l 0 [(q1.1 21 - i 96 21).toInt64, q1.2.toInt64]) f t (pR k sp) := by
      intro sc d y nx hd L st cu su K
      have P := fun (y nx : Nat) (L st : List Value) (K : Option (Option Value) → kS → Prop) => c_playN (sc := sc) (d := d + 494) (y := y) (nx := nx) (hd := []) (L := L) (st := st) (cu := cu) (su := su) (i := pRem i sp k 10) (l := l) (f := f) (t := t) (sp := pR k sp) (K := K) (n := n) (m := m) (k := z) hf (by rw [lo (by decide)]; exact h5) h8 (by rw [hi f74]; exact e2) h40 (by omega)
      rw [lo (show 9 < 16 by decide), lo (show 8 < 16 by decide), lo (show 6 < 16 by decide), hi (show 74 ≤ f + 1 by omega), rem_now hS h15, ← hq1, ← hs1] at P
      have g4 : rPut (nPut (pRem i sp k 10) 10 q1.1) f s1 10 4 = q1.1 21 := by rw [rP_lo hf (by decide)]; exact nP_4
      have g1 : rPut (nPut (pRem i sp k 10) 10 q1.1) f s1 10 1 = q1.1 18 := by rw [rP_lo hf (by decide)]; exact nP_1
      refine kCA_of (d := d + 499) (v := some (.int _)) (fun K => ?_)
      rw [km_104]
      show kWP sc (d + 499) 104 0 [.ref 0, .int (Int32.ofNat z), .retAddr 0, .retAddr 0] [] _ K = _
      simp only [e_X10_turn_0, e_X10_turn_1, e_X10_turn_4, e_X10_turn_5, e_X10_turn_7, e_X10_turn_10, e_X10_turn_11, e_X10_turn_12, e_X10_turn_13, e_X10_turn_16, e_X10_turn_17, e_X10_turn_20, e_X10_turn_23, e_X10_turn_24, e_X10_turn_27, e_X10_turn_30, e_X10_turn_31, e_X10_turn_32, e_X10_turn_35, e_X10_turn_36, e_X10_turn_39, e_X10_turn_40, e_X10_turn_43, e_X10_turn_44, e_X10_turn_47, e_X10_turn_48, e_X10_turn_49, e_X10_turn_52, e_X10_turn_55, e_X10_turn_56, e_X10_turn_59, e_X10_turn_60, e_X10_turn_63, e_X10_turn_66, e_X10_turn_67, e_X10_turn_68, e_X10_turn_69, e_X10_turn_72, e_X10_turn_73, e_X10_turn_76, e_X10_turn_77, e_X10_turn_78, e_X10_turn_81, e_X10_turn_82, e_X10_turn_85, e_X10_turn_88, e_X10_turn_91, ob_0, rk_0_5, rk_0_3, ob_16, ob_10, ob_13, rk_0_2, rk_0_10, rk_0_1, ob_3, kcl_i, kcl_r, kcl_l, kcl_0, kcl_n, true_and, and_true, h0.1, h60, if_true, if_false, c_remember c10 hsp hne k1 h15, lo (show 10 < 16 by decide), hNow.2.2.2.2.1]
      rw [show d + 499 = d + 494 + 5 from rfl, P]
      simp only [e_X10_turn_0, e_X10_turn_1, e_X10_turn_4, e_X10_turn_5, e_X10_turn_7, e_X10_turn_10, e_X10_turn_11, e_X10_turn_12, e_X10_turn_13, e_X10_turn_16, e_X10_turn_17, e_X10_turn_20, e_X10_turn_23, e_X10_turn_24, e_X10_turn_27, e_X10_turn_30, e_X10_turn_31, e_X10_turn_32, e_X10_turn_35, e_X10_turn_36, e_X10_turn_39, e_X10_turn_40, e_X10_turn_43, e_X10_turn_44, e_X10_turn_47, e_X10_turn_48, e_X10_turn_49, e_X10_turn_52, e_X10_turn_55, e_X10_turn_56, e_X10_turn_59, e_X10_turn_60, e_X10_turn_63, e_X10_turn_66, e_X10_turn_67, e_X10_turn_68, e_X10_turn_69, e_X10_turn_72, e_X10_turn_73, e_X10_turn_76, e_X10_turn_77, e_X10_turn_78, e_X10_turn_81, e_X10_turn_82, e_X10_turn_85, e_X10_turn_88, e_X10_turn_91, ob_0, rk_0_5, rk_0_3, ob_16, ob_10, ob_13, rk_0_2, rk_0_10, rk_0_1, ob_3, kcl_i, kcl_r, kcl_l, kcl_0, kcl_n, true_and, and_true, c_start, w10, g4, g1, c_radd (show 0 < 128 by decide), c_radd (show 0 + 1 < 128 by decide), c_orNobody]
      rfl
    have hiC : ∀ c, 91 ≤ c → wPut (rPut (nPut (pRem i sp k 10) 10 q1.1) f s1) 2 c = i c := fun c hc => by rw [wP_o (by omega), rP_hi hf hc, nP_hi c10 (by omega), hi (by omega)]
    generalize hX1 : wPut (rPut (nPut (pRem i sp k 10) 10 q1.1) f s1) 2 = X at C hiC
    have coX : mCo X = mCo i := by unfold mCo; rw [hiC 93 (by decide), hiC 94 (by decide), hiC 95 (by decide)]
    have jc := @jB_cells X k
    rw [coX, hiC 93 (by decide), hiC 94 (by decide), hiC 100 (by decide), hiC 96 (by decide)] at jc
    have RFj : RF m n2 (jB X k) (nGet i 10) := by
      refine ⟨?_, h8, ?_, ?_, ?_, ?_⟩
      · rw [jB_f (by decide), hiC 91 (by decide)]; exact h91
      · rw [jB_f (by decide), hiC 91 (by decide)]; exact e19
      · rw [jc.2.2.2.1]; exact hr.1
      · rw [jc.2.1]; exact hle
      · rw [jc.2.2.2.2.1]; exact hN
    have G := Us_gen h hr jc.1 jc.2.1 jc.2.2.1 jc.2.2.2.1 jc.2.2.2.2.1 (rGet i f) z
    rw [← qPlay_T, ← hq1] at G
    obtain ⟨U, hUU⟩ : ∃ U, U = Us (jB X k) m n2 z := ⟨_, rfl⟩
    rw [← hUU] at G
    have W : ∀ l, CC 207 [.ref 91, .int (Int32.ofNat z)] X l f t (pR k sp) (.int (pNob (q1.1 18))) (aD (vPut (mS (jB X k) 96 U) 2) k) (tR l 0 [(q1.1 21 - i 96 21).toInt64, q1.2.toInt64]) f t (pR k sp) := by
      intro l sc d y nx hd L st cu su K
      have hk' : uPut X 91 23 = Int32.ofNat k := by rw [uP_f (by decide), hiC 91 (by decide)]; exact k2
      have eB : aPut (uPut X) 104 400 (pbA k (X 104) (X 96)) = jB X k := rfl
      have hkS : vPut (mS (jB X k) 96 U) 2 91 23 = Int32.ofNat k := by rw [vP_f (by decide), mS_f b96 (by decide), jB_f (by decide), hiC 91 (by decide)]; exact k2
      have P := fun (y nx : Nat) (L st : List Value) (K : Option (Option Value) → kS → Prop) => m_goesOn (sc := sc) (d := d + 492) (y := y) (nx := nx) (hd := []) (L := L) (st := st) (cu := cu) (su := su) (i := jB X k) (l := l) (f := f) (t := t) (sp := pR k sp) (K := K) (N := nGet i 10) (m := m) (n2 := n2) (k := z) (u := u0 (jB X k)) b96 RFj rfl (by omega)
      rw [mS_u0] at P
      have z25 : ∀ j, vPut (mS (jB X k) 96 U) j 91 25 = U.2.1 25 := fun j => by rw [vP_f (by decide), mS_zr b96 (by decide) (by decide)]
      have z26 : ∀ j, vPut (mS (jB X k) 96 U) j 91 26 = U.2.1 26 := fun j => by rw [vP_f (by decide), mS_zr b96 (by decide) (by decide)]
      have r18 : aD (vPut (mS (jB X k) 96 U) 2) k 96 18 = U.1 18 := by rw [aD_o (by decide) (by decide), v96, mS_r (by decide)]
      have eU : mS (jB X k) 96 (rTs (jB X k 93) (mCo (jB X k)) (jB X k 94) m (jB X k 100) n2 z (uZ (u0 (jB X k)) (kuf (kuf (u0 (jB X k)).2.1 25 0) 26 0))) = mS (jB X k) 96 U := by rw [hUU]; rfl
      rw [eU] at P
      refine kCA_of (d := d + 499) (v := some (.int _)) (fun K => ?_)
      rw [km_207]
      show kWP sc (d + 499) 207 0 [.ref 91, .int (Int32.ofNat z)] [] _ K = _
      simp only [e_X11_turn_0, e_X11_turn_1, e_X11_turn_2, e_X11_turn_5, e_X11_turn_6, e_X11_turn_7, e_X11_turn_8, e_X11_turn_11, e_X11_turn_14, e_X11_turn_17, e_X11_turn_18, e_X11_turn_19, e_X11_turn_20, e_X11_turn_23, e_X11_turn_24, e_X11_turn_25, e_X11_turn_28, e_X11_turn_29, e_X11_turn_32, e_X11_turn_33, e_X11_turn_34, e_X11_turn_37, e_X11_turn_38, e_X11_turn_39, e_X11_turn_42, e_X11_turn_43, e_X11_turn_46, e_X11_turn_47, e_X11_turn_48, e_X11_turn_51, e_X11_turn_52, e_X11_turn_55, e_X11_turn_56, e_X11_turn_57, e_X11_turn_60, e_X11_turn_61, e_X11_turn_62, e_X11_turn_65, e_X11_turn_67, e_X11_turn_68, e_X11_turn_71, ob_91, rk_91_8, ar_96, kcl_i, kcl_r, kcl_l, kcl_0, kcl_n, true_and, and_true, uP_0, l0, l60, m_in, m_inI, kb_0, h0, not_true_eq_false, not_false_eq_true, and_self, if_false, m_putsBy hk' h15, u104, u96, eB]
      rw [show d + 499 = d + 492 + 7 from rfl, P]
      simp only [e_X11_turn_0, e_X11_turn_1, e_X11_turn_2, e_X11_turn_5, e_X11_turn_6, e_X11_turn_7, e_X11_turn_8, e_X11_turn_11, e_X11_turn_14, e_X11_turn_17, e_X11_turn_18, e_X11_turn_19, e_X11_turn_20, e_X11_turn_23, e_X11_turn_24, e_X11_turn_25, e_X11_turn_28, e_X11_turn_29, e_X11_turn_32, e_X11_turn_33, e_X11_turn_34, e_X11_turn_37, e_X11_turn_38, e_X11_turn_39, e_X11_turn_42, e_X11_turn_43, e_X11_turn_46, e_X11_turn_47, e_X11_turn_48, e_X11_turn_51, e_X11_turn_52, e_X11_turn_55, e_X11_turn_56, e_X11_turn_57, e_X11_turn_60, e_X11_turn_61, e_X11_turn_62, e_X11_turn_65, e_X11_turn_67, e_X11_turn_68, e_X11_turn_71, ob_91, rk_91_8, ar_96, kcl_i, kcl_r, kcl_l, kcl_0, kcl_n, true_and, and_true, vP_0, z25, z26, m_enters (show 0 < 256 by decide), m_enters (show 0 + 1 < 256 by decide), m_adds hkS h15, r18, ki18, ni18, m_orNobody]
      rw [nob_eq G.1.1.2.2.2.1 h8, ← G.1.1.1 18 (by decide), G.2.1, G.2.2, ← G.1.1.1 21 (by decide)]
      rfl
    refine ⟨_, _, _, f, t, pR k sp, _, _, m, C, W _, ?_⟩
    have agC : kAg kSd i X := by
      rw [← hX1]
      refine ag_u ?_ rfl
      rcases kRc_of hf with rfl | rfl
      · exact ag_rl (ag_n10 (ag_rem hS h15)) rfl (fun _ _ => rfl)
      · exact ag_rl (ag_n10 (ag_rem hS h15)) rfl (fun _ _ => rfl)
    have ap : ∀ {c : Nat}, c ≠ 91 → c ≠ 104 → c ≠ 96 → c ≠ 102 → c ≠ 103 → aD (vPut (mS (jB X k) 96 U) 2) k c = X c := fun c1 c2 c3 c4 c5 => by rw [aD_o c1 c2, vP_o c1, mS_o c3 c1 c4 c5, jB_o c1 c2]
    have f85 : 85 ≤ f := by rcases kRc_of hf with rfl | rfl <;> decide
    refine kIV_d h (ag_aD (ag_u (ag_mS96 (ag_jB agC)) rfl)) ?_ ?_ ?_ (IS_pR hS)
    · rw [ap (by decide) (by decide) (by decide) (by decide) (by decide), aD_f (by decide), vP_n, ← hX1, wP_n]; exact IW_tell rfl (by decide)
    · have e10 : nGet (aD (vPut (mS (jB X k) 96 U) 2) k) 10 = nGet (nPut (pRem i sp k 10) 10 q1.1) 10 := by
        have o : ∀ c, 10 ≤ c → c ≤ 12 → aD (vPut (mS (jB X k) 96 U) 2) k c = nPut (pRem i sp k 10) 10 q1.1 c := fun c c1 c2 => by
          rw [ap (by omega) (by omega) (by omega) (by omega) (by omega), ← hX1, wP_o (by omega), rP_lo hf (by omega)]
        exact nGet_c (o 10 (by decide) (by decide)) (o 11 (by decide) (by decide)) (o 12 (by decide) (by decide))
      rw [e10, aD_o (by decide) (by decide), v96]
      exact NR_e G.1 (fun z hz => mS_r hz)
    · have e16 : X 16 1 = Int32.ofNat (pK k + 1) := by rw [← hX1, wP_o (by decide), rP_lo hf (by decide), nP_o (by decide) (by decide) (by decide), rem_16 hS h15]
      rw [aD_23, ap (by decide) (by decide) (by decide) (by decide) (by decide), e16]
      refine IU_fin (r := pbA k (i 104) (i 96)) (IU_rem hS hU k1 k2 h15 c10 hN ?_) ?_
      · intro c c1 c2
        rw [ap (by omega) (by omega) (by omega) (by omega) (by omega), ← hX1, wP_o (by omega), rP_lo hf (by omega), nP_o (by omega) (by omega) (by omega)]
      · intro j hj
        rw [vP_o (by decide), mS_o (by decide) (by decide) (by decide) (by decide), jB_104 hj, hiC 104 (by decide), hiC 96 (by decide)]
  · refine JJ_n h (-1) i (uPut i) ag_r (ag_uu ag_r) rfl rfl ?_ ?_
    · intro sc d y nx hd L st cu su K
      refine kCA_of (d := d + 499) (v := some (.int _)) (fun K => ?_)
      rw [km_104]
      show kWP sc (d + 499) 104 0 [.ref 0, .int p, .retAddr 0, .retAddr 0] [] _ K = _
      simp only [e_X10_turn_0, e_X10_turn_1, e_X10_turn_4, e_X10_turn_5, e_X10_turn_7, e_X10_turn_10, e_X10_turn_11, e_X10_turn_12, e_X10_turn_13, e_X10_turn_16, e_X10_turn_17, e_X10_turn_20, e_X10_turn_23, e_X10_turn_24, e_X10_turn_27, e_X10_turn_30, e_X10_turn_31, e_X10_turn_32, e_X10_turn_35, e_X10_turn_36, e_X10_turn_39, e_X10_turn_40, e_X10_turn_43, e_X10_turn_44, e_X10_turn_47, e_X10_turn_48, e_X10_turn_49, e_X10_turn_52, e_X10_turn_55, e_X10_turn_56, e_X10_turn_59, e_X10_turn_60, e_X10_turn_63, e_X10_turn_66, e_X10_turn_67, e_X10_turn_68, e_X10_turn_69, e_X10_turn_72, e_X10_turn_73, e_X10_turn_76, e_X10_turn_77, e_X10_turn_78, e_X10_turn_81, e_X10_turn_82, e_X10_turn_85, e_X10_turn_88, e_X10_turn_91, ob_0, rk_0_5, rk_0_3, ob_16, ob_10, ob_13, rk_0_2, rk_0_10, rk_0_1, ob_3, kcl_i, kcl_r, kcl_l, kcl_0, kcl_n, true_and, and_true]
      by_cases q1 : p < 0
      · simp only [q1, if_true]
      · have q2 : ¬ p ≤ 60 := fun e => h0 ⟨q1, Int32.not_lt.2 e⟩
        simp only [q1, q2, if_false]
    · intro sc d y nx hd L st cu su K
      refine kCA_of (d := d + 499) (v := some (.int _)) (fun K => ?_)
      rw [km_207]
      show kWP sc (d + 499) 207 0 [.ref 91, .int p] [] _ K = _
      simp only [e_X11_turn_0, e_X11_turn_1, e_X11_turn_2, e_X11_turn_5, e_X11_turn_6, e_X11_turn_7, e_X11_turn_8, e_X11_turn_11, e_X11_turn_14, e_X11_turn_17, e_X11_turn_18, e_X11_turn_19, e_X11_turn_20, e_X11_turn_23, e_X11_turn_24, e_X11_turn_25, e_X11_turn_28, e_X11_turn_29, e_X11_turn_32, e_X11_turn_33, e_X11_turn_34, e_X11_turn_37, e_X11_turn_38, e_X11_turn_39, e_X11_turn_42, e_X11_turn_43, e_X11_turn_46, e_X11_turn_47, e_X11_turn_48, e_X11_turn_51, e_X11_turn_52, e_X11_turn_55, e_X11_turn_56, e_X11_turn_57, e_X11_turn_60, e_X11_turn_61, e_X11_turn_62, e_X11_turn_65, e_X11_turn_67, e_X11_turn_68, e_X11_turn_71, ob_91, rk_91_8, ar_96, kcl_i, kcl_r, kcl_l, kcl_0, kcl_n, true_and, and_true, uP_0, l0, l60, m_in, m_inI, kb_0, h0, not_false_eq_true, if_true]
end TC
