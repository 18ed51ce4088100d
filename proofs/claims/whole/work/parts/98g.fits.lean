/-! who fits, what to ask -/
section TC
variable {sc : Nat × (Nat → Int32)} {d y nx : Nat} {hd : List (Int × Nat)} {L st : List Value} {S : kS} {cu su : Nat} {i : Nat → Nat → Int32} {l : Nat → Nat → Int64} {f t c b m : Nat} {sp : Nat → Nat} {K : Option (Option Value) → kS → Prop}
variable {N M Z S1 Q : Nat → Int32} {i1 i2 i3 : Nat → Nat → Int32} {l2 : Nat → Nat → Int64} {n k x : Nat} {v r : Int32} {zs zs2 : List Int64} {le : Nat → Int32}
theorem u91' {j : Nat} (h : j ≠ 0) : uPut i 91 j = i 91 j := uP_f h
theorem pFit_so {wa br spo pd had w v : Int32} {a : Nat} : pFit wa br spo pd had a w v = if w = 0 then kb ((wa >>> (v &&& 31)) &&& 1 = 1) else if w = 1 then kb (¬ br < v) else if w = 2 then kb (¬ v < spo) else if w = 3 then kb (kb ((had >>> (Int32.ofNat a &&& 31)) &&& 1 = 1) = v) else kb (pd = v) := by
  unfold pFit
  rw [kb_c (show ¬ (wa >>> (v &&& 31)) &&& 1 = 0 ↔ (wa >>> (v &&& 31)) &&& 1 = 1 from and_one_iff.symm), show kb ((had >>> (Int32.ofNat a &&& 31)) &&& 1 = 1) = (had >>> (Int32.ofNat a &&& 31)) &&& 1 from bit_kb.symm]
theorem m_isSo {a : Nat} {w v : Int32} (ha : a < 8) : kCA sc (d + 2) 241 [.ref 91, .int (Int32.ofNat a), .int w, .int v] y nx hd L st ((120, cu, su), i, l, kR f t sp) K = kWP sc (d + 2) y nx L (.int (pFit (i 95 a) (i 94 a) (i 96 a) (i 96 (8 + a)) (i 96 16) a w v) :: st) ((120, cu, su), i, l, kR f t sp) K := by
  refine kCA_of (d := d + 1) (v := some (.int (pFit (i 95 a) (i 94 a) (i 96 a) (i 96 (8 + a)) (i 96 16) a w v))) (S2 := ((120, cu, su), i, l, kR f t sp)) (fun K => ?_)
  rw [km_241]
  show kWP sc (d + 1) 241 0 [.ref 91, .int (Int32.ofNat a), .int w, .int v] [] ((120, cu, su), i, l, kR f t sp) K = K (some (some (.int (pFit (i 95 a) (i 94 a) (i 96 a) (i 96 (8 + a)) (i 96 16) a w v)))) ((120, cu, su), i, l, kR f t sp)
  rw [pFit_so]
  simp only [e_X11_isSo_0, e_X11_isSo_1, e_X11_isSo_32, e_X11_isSo_33, e_X11_isSo_36, e_X11_isSo_37, e_X11_isSo_38, e_X11_isSo_39, e_X11_isSo_42, e_X11_isSo_43, e_X11_isSo_44, e_X11_isSo_47, e_X11_isSo_48, e_X11_isSo_49, e_X11_isSo_50, e_X11_isSo_53, e_X11_isSo_54, e_X11_isSo_57, e_X11_isSo_58, e_X11_isSo_59, e_X11_isSo_60, e_X11_isSo_63, e_X11_isSo_64, e_X11_isSo_65, e_X11_isSo_66, e_X11_isSo_69, e_X11_isSo_70, e_X11_isSo_73, e_X11_isSo_74, e_X11_isSo_75, e_X11_isSo_76, e_X11_isSo_79, e_X11_isSo_81, e_X11_isSo_82, e_X11_isSo_83, e_X11_isSo_86, e_X11_isSo_89, e_X11_isSo_90, e_X11_isSo_93, e_X11_isSo_94, e_X11_isSo_97, e_X11_isSo_98, e_X11_isSo_99, e_X11_isSo_100, e_X11_isSo_103, e_X11_isSo_105, e_X11_isSo_106, e_X11_isSo_107, e_X11_isSo_108, e_X11_isSo_109, e_X11_isSo_112, e_X11_isSo_113, e_X11_isSo_116, e_X11_isSo_117, ob_91, rk_91_7, ar_95, rk_91_6, ar_94, rk_91_8, ar_96, kcl_i, kcl_r, kcl_l, kcl_0, kcl_n, true_and, and_true, kin8 ha, kin25 (show a < 25 by omega), kin25 (show 8 + a < 25 by omega), cl_n (show a < 100000 by omega), cl_n (show 8 + a < 100000 by omega), tn_8, ki16, ni16, m_has, m_flag, m_flagkb, kb_ok, kbool_0, kbool_1]
  by_cases k0 : w = 0
  · simp [k0]
  by_cases k1 : w = 1
  · simp only [k1]
    by_cases q1 : i 94 a < v <;> simp [kb, q1]
  by_cases k2 : w = 2
  · simp only [k2]
    by_cases q1 : v < i 96 a <;> simp [kb, q1]
  by_cases k3 : w = 3
  · simp only [k3]
    by_cases q : kb ((i 96 16 >>> (Int32.ofNat a &&& 31)) &&& 1 = 1) = v
    · rw [kb_t q, if_pos q]; simp
    · rw [kb_f q, if_neg q]; simp
  simp only [k0, k1, k2, k3, if_false]
  by_cases q1 : i 96 (8 + a) = v <;> simp [kb, q1]
theorem pFits_fold {F : Nat → Int32} : kfo (fun x s => if s = 0 then 0 else if F x = 0 then 0 else (1 : Int32)) n 1 = pFits F n := by
  unfold pFits
  cases e : kfi (fun x => F x = 0) n 0 with
  | some y =>
    have hy := kfi_some e
    have : ∀ k, k ≤ n → y < k → kfo (fun x s => if s = 0 then 0 else if F x = 0 then 0 else (1 : Int32)) k 1 = 0 := by
      intro k
      induction k with
      | zero => intro _ h; omega
      | succ k ih =>
        intro h1 h2
        show (if kfo _ k 1 = 0 then 0 else if F k = 0 then 0 else (1 : Int32)) = 0
        by_cases q : y < k
        · rw [ih (by omega) q, if_pos rfl]
        · have : k = y := by omega
          subst this
          rw [if_pos hy.2.2]; split <;> rfl
    exact this n (Nat.le_refl n) (by omega)
  | none =>
    have hn := kfi_none e
    have : ∀ k, k ≤ n → kfo (fun x s => if s = 0 then 0 else if F x = 0 then 0 else (1 : Int32)) k 1 = 1 := by
      intro k
      induction k with
      | zero => intro _; rfl
      | succ k ih =>
        intro h1
        show (if kfo _ k 1 = 0 then 0 else if F k = 0 then 0 else (1 : Int32)) = 1
        rw [ih (by omega), if_neg (by decide), if_neg (hn k (Nat.zero_le k) (by omega))]
    exact this n (Nat.le_refl n)
def mFit (i : Nat → Nat → Int32) (n a : Nat) : Int32 := pFits (fun x => pFit (i 95 a) (i 94 a) (i 96 a) (i 96 (8 + a)) (i 96 16) a (i 113 x) (i 114 x)) n
def mFitting (i : Nat → Nat → Int32) (n m : Nat) : Int32 := pFitting (mFit i n) m
theorem m_fitting {n : Nat} (hm : i 91 3 = Int32.ofNat m) (h8 : m ≤ 8) (hn : i 91 39 = Int32.ofNat n) (h12 : n ≤ 12) : kCA sc (d + 3) 242 [.ref 91] y nx hd L st ((120, cu, su), i, l, kR f t sp) K = kWP sc (d + 3) y nx L (.int (mFitting i n m) :: st) ((120, cu, su), i, l, kR f t sp) K := by
  refine kCA_of (d := d + 2) (v := some (.int (mFitting i n m))) (S2 := ((120, cu, su), i, l, kR f t sp)) (fun K => ?_)
  rw [km_242]
  show kWP sc (d + 2) 242 0 [.ref 91, .retAddr 0, .retAddr 0, .retAddr 0, .retAddr 0] [] ((120, cu, su), i, l, kR f t sp) K = K (some (some (.int (mFitting i n m)))) ((120, cu, su), i, l, kR f t sp)
  simp only [e_X11_fitting_0, e_X11_fitting_1, e_X11_fitting_2, e_X11_fitting_3, e_X11_fitting_5, e_X11_fitting_6, e_X11_fitting_9, e_X11_fitting_12, e_X11_fitting_13, e_X11_fitting_14, e_X11_fitting_15, e_X11_fitting_19, e_X11_fitting_20, e_X11_fitting_23, e_X11_fitting_26, e_X11_fitting_27, e_X11_fitting_30, e_X11_fitting_31, e_X11_fitting_32, e_X11_fitting_33, e_X11_fitting_36, e_X11_fitting_38, e_X11_fitting_39, e_X11_fitting_40, e_X11_fitting_43, e_X11_fitting_45, e_X11_fitting_46, e_X11_fitting_49, e_X11_fitting_52, e_X11_fitting_53, e_X11_fitting_56, e_X11_fitting_57, e_X11_fitting_58, e_X11_fitting_61, e_X11_fitting_64, e_X11_fitting_65, e_X11_fitting_66, e_X11_fitting_69, e_X11_fitting_70, e_X11_fitting_71, e_X11_fitting_72, e_X11_fitting_75, e_X11_fitting_76, e_X11_fitting_77, e_X11_fitting_78, e_X11_fitting_81, e_X11_fitting_84, e_X11_fitting_85, ob_91, rk_91_40, ar_113, rk_91_41, ar_114, kcl_i, kcl_r, kcl_l, kcl_0, kcl_n, true_and, and_true]
  have E := k_lq (n := m) (Q := fun x (w : Int32 × Value × Value) => kWP sc (d + 2) 242 4 [.ref 91, .int w.1, .int (Int32.ofNat x), w.2.1, w.2.2] [] ((120, cu, su), i, l, kR f t sp) K) (I := fun x w => w.1 = kfo (fun x b => if mFit i n x = 0 then b else b ||| (1 <<< (Int32.ofNat x &&& 31))) x 0) (b0 := (0, .retAddr 0, .retAddr 0)) ?_ rfl
  · obtain ⟨⟨w, v5, v6⟩, hw, e⟩ := E
    have hw' : w = mFitting i n m := hw
    refine e.trans ?_
    refine e_X11_fitting_4.trans ?_
    simp only [e_X11_fitting_0, e_X11_fitting_1, e_X11_fitting_2, e_X11_fitting_3, e_X11_fitting_5, e_X11_fitting_6, e_X11_fitting_9, e_X11_fitting_12, e_X11_fitting_13, e_X11_fitting_14, e_X11_fitting_15, e_X11_fitting_19, e_X11_fitting_20, e_X11_fitting_23, e_X11_fitting_26, e_X11_fitting_27, e_X11_fitting_30, e_X11_fitting_31, e_X11_fitting_32, e_X11_fitting_33, e_X11_fitting_36, e_X11_fitting_38, e_X11_fitting_39, e_X11_fitting_40, e_X11_fitting_43, e_X11_fitting_45, e_X11_fitting_46, e_X11_fitting_49, e_X11_fitting_52, e_X11_fitting_53, e_X11_fitting_56, e_X11_fitting_57, e_X11_fitting_58, e_X11_fitting_61, e_X11_fitting_64, e_X11_fitting_65, e_X11_fitting_66, e_X11_fitting_69, e_X11_fitting_70, e_X11_fitting_71, e_X11_fitting_72, e_X11_fitting_75, e_X11_fitting_76, e_X11_fitting_77, e_X11_fitting_78, e_X11_fitting_81, e_X11_fitting_84, e_X11_fitting_85, ob_91, rk_91_40, ar_113, rk_91_41, ar_114, kcl_i, kcl_r, kcl_l, kcl_0, kcl_n, true_and, and_true, hm, Int32.le_refl, if_true]
    rw [hw']
  · intro x ⟨w, v5, v6⟩ hx hI
    have hI' : w = kfo (fun x b => if mFit i n x = 0 then b else b ||| (1 <<< (Int32.ofNat x &&& 31))) x 0 := hI
    refine ⟨(if mFit i n x = 0 then w else w ||| (1 <<< (Int32.ofNat x &&& 31)), .int (mFit i n x), .int (Int32.ofNat n)), ?_, ?_⟩
    · show (if mFit i n x = 0 then w else w ||| (1 <<< (Int32.ofNat x &&& 31))) = (if mFit i n x = 0 then kfo (fun x b => if mFit i n x = 0 then b else b ||| (1 <<< (Int32.ofNat x &&& 31))) x 0 else kfo (fun x b => if mFit i n x = 0 then b else b ||| (1 <<< (Int32.ofNat x &&& 31))) x 0 ||| (1 <<< (Int32.ofNat x &&& 31)))
      rw [hI']
    · refine e_X11_fitting_4.trans ?_
      simp only [e_X11_fitting_0, e_X11_fitting_1, e_X11_fitting_2, e_X11_fitting_3, e_X11_fitting_5, e_X11_fitting_6, e_X11_fitting_9, e_X11_fitting_12, e_X11_fitting_13, e_X11_fitting_14, e_X11_fitting_15, e_X11_fitting_19, e_X11_fitting_20, e_X11_fitting_23, e_X11_fitting_26, e_X11_fitting_27, e_X11_fitting_30, e_X11_fitting_31, e_X11_fitting_32, e_X11_fitting_33, e_X11_fitting_36, e_X11_fitting_38, e_X11_fitting_39, e_X11_fitting_40, e_X11_fitting_43, e_X11_fitting_45, e_X11_fitting_46, e_X11_fitting_49, e_X11_fitting_52, e_X11_fitting_53, e_X11_fitting_56, e_X11_fitting_57, e_X11_fitting_58, e_X11_fitting_61, e_X11_fitting_64, e_X11_fitting_65, e_X11_fitting_66, e_X11_fitting_69, e_X11_fitting_70, e_X11_fitting_71, e_X11_fitting_72, e_X11_fitting_75, e_X11_fitting_76, e_X11_fitting_77, e_X11_fitting_78, e_X11_fitting_81, e_X11_fitting_84, e_X11_fitting_85, ob_91, rk_91_40, ar_113, rk_91_41, ar_114, kcl_i, kcl_r, kcl_l, kcl_0, kcl_n, true_and, and_true, hm, jpF hx (by omega), if_false]
      refine (k_for (P := fun z (s : Int32) => kWP sc (d + 2) 242 17 [.ref 91, .int w, .int (Int32.ofNat x), .int s, .int (Int32.ofNat z)] [] ((120, cu, su), i, l, kR f t sp) K) (n := n) (g := fun z s => if s = 0 then 0 else if pFit (i 95 x) (i 94 x) (i 96 x) (i 96 (8 + x)) (i 96 16) x (i 113 z) (i 114 z) = 0 then 0 else 1) ?_ 1).trans ?_
      · intro z s hz
        have c2 : kin (Int32.ofNat z) 12 = True := by rw [tn_kin (by omega)]; exact eq_true (by omega)
        refine e_X11_fitting_17.trans ?_
        simp only [e_X11_fitting_0, e_X11_fitting_1, e_X11_fitting_2, e_X11_fitting_3, e_X11_fitting_5, e_X11_fitting_6, e_X11_fitting_9, e_X11_fitting_12, e_X11_fitting_13, e_X11_fitting_14, e_X11_fitting_15, e_X11_fitting_19, e_X11_fitting_20, e_X11_fitting_23, e_X11_fitting_26, e_X11_fitting_27, e_X11_fitting_30, e_X11_fitting_31, e_X11_fitting_32, e_X11_fitting_33, e_X11_fitting_36, e_X11_fitting_38, e_X11_fitting_39, e_X11_fitting_40, e_X11_fitting_43, e_X11_fitting_45, e_X11_fitting_46, e_X11_fitting_49, e_X11_fitting_52, e_X11_fitting_53, e_X11_fitting_56, e_X11_fitting_57, e_X11_fitting_58, e_X11_fitting_61, e_X11_fitting_64, e_X11_fitting_65, e_X11_fitting_66, e_X11_fitting_69, e_X11_fitting_70, e_X11_fitting_71, e_X11_fitting_72, e_X11_fitting_75, e_X11_fitting_76, e_X11_fitting_77, e_X11_fitting_78, e_X11_fitting_81, e_X11_fitting_84, e_X11_fitting_85, ob_91, rk_91_40, ar_113, rk_91_41, ar_114, kcl_i, kcl_r, kcl_l, kcl_0, kcl_n, true_and, and_true, hn, jpF hz (by omega), if_false, c2, cl_n (show z < 100000 by omega), m_isSo (show x < 8 by omega), tn_s]
        by_cases q1 : s = 0
        · simp only [q1, if_true]
        · by_cases q2 : pFit (i 95 x) (i 94 x) (i 96 x) (i 96 (8 + x)) (i 96 16) x (i 113 z) (i 114 z) = 0
          · simp only [q1, q2, if_true, if_false]
          · simp only [q1, q2, if_false]
      · rw [pFits_fold]
        refine e_X11_fitting_17.trans ?_
        simp only [e_X11_fitting_0, e_X11_fitting_1, e_X11_fitting_2, e_X11_fitting_3, e_X11_fitting_5, e_X11_fitting_6, e_X11_fitting_9, e_X11_fitting_12, e_X11_fitting_13, e_X11_fitting_14, e_X11_fitting_15, e_X11_fitting_19, e_X11_fitting_20, e_X11_fitting_23, e_X11_fitting_26, e_X11_fitting_27, e_X11_fitting_30, e_X11_fitting_31, e_X11_fitting_32, e_X11_fitting_33, e_X11_fitting_36, e_X11_fitting_38, e_X11_fitting_39, e_X11_fitting_40, e_X11_fitting_43, e_X11_fitting_45, e_X11_fitting_46, e_X11_fitting_49, e_X11_fitting_52, e_X11_fitting_53, e_X11_fitting_56, e_X11_fitting_57, e_X11_fitting_58, e_X11_fitting_61, e_X11_fitting_64, e_X11_fitting_65, e_X11_fitting_66, e_X11_fitting_69, e_X11_fitting_70, e_X11_fitting_71, e_X11_fitting_72, e_X11_fitting_75, e_X11_fitting_76, e_X11_fitting_77, e_X11_fitting_78, e_X11_fitting_81, e_X11_fitting_84, e_X11_fitting_85, ob_91, rk_91_40, ar_113, rk_91_41, ar_114, kcl_i, kcl_r, kcl_l, kcl_0, kcl_n, true_and, and_true, hn, Int32.le_refl, if_true, tn_s]
        have eF : pFits (fun z => pFit (i 95 x) (i 94 x) (i 96 x) (i 96 (8 + x)) (i 96 16) x (i 113 z) (i 114 z)) n = mFit i n x := rfl
        simp only [eF]
        by_cases q : mFit i n x = 0
        · simp only [q, if_true, or_0]
        · simp only [q, if_false]
theorem fit_eq (h : IV m i l f t sp) (h12 : n ≤ 12) (hh : ∀ x, x < n → i 75 x = i 113 x ∧ i 76 x = i 114 x) : pFitting (fun a => pFits (fun x => pFit (i 7 a) (i 6 a) (i 11 a) (i 12 a) (i 10 5) a (i 75 x) (i 76 x)) n) m = mFitting i n m := by
  obtain ⟨⟨h5, h91, h8, e9, hle, hp⟩, _⟩ := id h
  have hN := IV_now h
  unfold mFitting pFitting
  apply kfo_congr
  intro a ha b
  have : pFits (fun x => pFit (i 7 a) (i 6 a) (i 11 a) (i 12 a) (i 10 5) a (i 75 x) (i 76 x)) n = mFit i n a := by
    unfold mFit
    rw [← pFits_fold, ← pFits_fold]
    apply kfo_congr
    intro x hx s
    rw [(hp a ha).1, (hp a ha).2.1, hN.2.2.2.2.2.1, hN.2.2.2.2.2.2.1 a (by omega), hN.2.2.2.2.2.2.2 a (by omega), (hh x hx).1, (hh x hx).2]
  show (if pFits (fun x => pFit (i 7 a) (i 6 a) (i 11 a) (i 12 a) (i 10 5) a (i 75 x) (i 76 x)) n = 0 then b else b ||| (1 <<< (Int32.ofNat a &&& 31))) = _
  rw [this]
theorem mFitting_w : mFitting (wPut i k) n m = mFitting i n m := rfl
theorem J_fits (h : IV m i l f t sp) : JJ 128 243 [] i l f t sp := by
  obtain ⟨⟨h5, h91, h8, e9, hle, hp⟩, hX, hW, hN, hU, hS, hK, hH, hR, hF⟩ := id h
  obtain ⟨n, h12, e74, e91, hh⟩ := hH
  have hf := fit_eq h h12 hh
  refine JJ_q h (mFitting i n m) 1 i (uPut (wPut i 1)) [(pBC (mFitting i n m)).toInt64] rfl (by decide) ag_r (ag_uu ag_r) rfl ?_ ?_
  · intro sc d y nx hd L st cu su K
    refine kCA_of (d := d + 499) (v := some (.int _)) (fun K => ?_)
    rw [km_128]
    show kWP sc (d + 499) 128 0 [.ref 0, .retAddr 0] [] _ K = _
    simp only [e_X10_fits_0, e_X10_fits_1, e_X10_fits_4, e_X10_fits_5, e_X10_fits_8, e_X10_fits_9, e_X10_fits_12, e_X10_fits_15, e_X10_fits_16, e_X10_fits_17, e_X10_fits_20, e_X10_fits_23, e_X10_fits_24, e_X10_fits_27, e_X10_fits_28, e_X10_fits_31, e_X10_fits_32, e_X10_fits_35, e_X10_fits_36, ob_0, rk_0_6, rk_0_2, rk_0_3, ob_74, rk_0_1, ob_3, kcl_i, kcl_r, kcl_l, kcl_0, kcl_n, true_and, and_true, c_fitting (show kNc 10 = true by decide) h5 h8 e74 h12, hf, c_start, c_bitCount, c_radd (show 0 < 128 by decide)]
    rfl
  · intro sc d y nx hd L st cu su K
    have h91' : uPut (wPut i 1) 91 3 = Int32.ofNat m := h91
    have e91' : uPut (wPut i 1) 91 39 = Int32.ofNat n := e91
    refine kCA_of (d := d + 499) (v := some (.int _)) (fun K => ?_)
    rw [km_243]
    show kWP sc (d + 499) 243 0 [.ref 91, .retAddr 0] [] _ K = _
    simp only [e_X11_fits_0, e_X11_fits_1, e_X11_fits_2, e_X11_fits_5, e_X11_fits_6, e_X11_fits_9, e_X11_fits_10, e_X11_fits_11, e_X11_fits_12, e_X11_fits_15, e_X11_fits_16, e_X11_fits_17, e_X11_fits_20, e_X11_fits_21, e_X11_fits_24, e_X11_fits_25, ob_91, kcl_i, kcl_r, kcl_l, kcl_0, kcl_n, true_and, and_true, uP_0, m_fitting h91' h8 e91' h12, vP_0, c_bitCount, m_enters (show 0 < 256 by decide)]
    rfl
/-- bits counted one by one -/
theorem pBC_sum : ∀ n, n < 256 → pBC (Int32.ofNat n) = kfo (fun a s => s + pBit (Int32.ofNat n) a) 8 0 := by decide +kernel
theorem pBC_8 : ∀ n, n < 256 → ∃ k, k ≤ 8 ∧ pBC (Int32.ofNat n) = Int32.ofNat k := by decide +kernel
def pYes (bits : Int32) (wa : Nat → Int32) (t m : Nat) : Int32 := kfo (fun a s => s + kb ((bits >>> (Int32.ofNat a &&& 31)) &&& 1 = 1 ∧ (wa a >>> (Int32.ofNat t &&& 31)) &&& 1 = 1)) m 0
theorem tb_fit {F : Nat → Int32} {k : Nat} (hk : k ≤ 8) (hx : x < 32) : tb (pFitting F k) x = (decide (x < k) && !decide (F x = 0)) := by
  induction k with
  | zero => simp [pFitting, kfo, tb_0]
  | succ k ih =>
    have e0 : pFitting F (k + 1) = if F k = 0 then pFitting F k else pFitting F k ||| (1 <<< (Int32.ofNat k &&& 31)) := rfl
    rw [e0]
    by_cases q : F k = 0
    · rw [if_pos q, ih (by omega)]
      by_cases e : x = k
      · subst e; simp [q]
      · have : decide (x < k + 1) = decide (x < k) := by
          by_cases z : x < k
          · simp [z]; omega
          · have : ¬ x < k + 1 := by omega
            simp [z, this]
        rw [this]
    · rw [if_neg q, tb_or, ih (by omega), tb_one k (by omega) x hx]
      by_cases e : x = k
      · subst e; simp [q]
      · have : decide (x < k + 1) = decide (x < k) := by
          by_cases z : x < k
          · simp [z]; omega
          · have : ¬ x < k + 1 := by omega
            simp [z, this]
        rw [this]; simp [e]
theorem b8_fit {F : Nat → Int32} (h8 : m ≤ 8) : b8 (pFitting F m) := by
  intro x h1 h2
  rw [tb_fit h8 h2]
  have : ¬ x < m := by omega
  simp [this]
theorem sh_one {b : Int32} (h : b = 0 ∨ b = 1) {k : Nat} : b <<< (Int32.ofNat k &&& 31) = if b = 0 then (0 : Int32) else 1 <<< (Int32.ofNat k &&& 31) := by
  rcases h with rfl | rfl
  · rw [if_pos rfl]; apply Int32.toBitVec.inj; rw [Int32.toBitVec_shiftLeft]; simp
  · rw [if_neg (by decide)]
theorem want_fit {wa : Nat → Int32} {t : Nat} : pWant wa (Int32.ofNat t) m = pFitting (fun a => (wa a >>> (Int32.ofNat t &&& 31)) &&& 1) m := by
  unfold pWant pFitting
  apply kfo_congr
  intro a ha b
  rw [sh_one (and_one _)]
  split
  · exact or_0
  · rfl
theorem yes_eq {F : Nat → Int32} {wa : Nat → Int32} {t : Nat} (h8 : m ≤ 8) (ht : t < 32) : pBC (pFitting F m &&& pWant wa (Int32.ofNat t) m) = pYes (pFitting F m) wa t m := by
  rw [want_fit]
  obtain ⟨n, hn, e⟩ := b8_nat (b8_and (w := pFitting (fun a => (wa a >>> (Int32.ofNat t &&& 31)) &&& 1) m) (@b8_fit m F h8))
  rw [e, pBC_sum n hn, ← e]
  have h0 := kfo_tail (g := fun a s => s + pBit (pFitting F m &&& pFitting (fun a => (wa a >>> (Int32.ofNat t &&& 31)) &&& 1) m) a) (n := m) (a := 0) (8 - m) (fun x b h1 h2 => by
    have : pBit (pFitting F m &&& pFitting (fun a => (wa a >>> (Int32.ofNat t &&& 31)) &&& 1) m) x = 0 := by
      rw [pBit_0 (by omega), tb_and, tb_fit h8 (by omega)]
      have : ¬ x < m := by omega
      simp [this]
    rw [this, Int32.add_zero])
  rw [show m + (8 - m) = 8 by omega] at h0
  rw [h0]
  unfold pYes
  apply kfo_congr
  intro a ha s
  congr 1
  have e1 : ((pFitting F m >>> (Int32.ofNat a &&& 31)) &&& 1 = 1) = (tb (pFitting F m) a = true) := pBit_1 (by omega)
  have e2 := @pBit_1 (wa a) t ht
  have e3 := @pBit_0 (wa a) t ht
  have e2' : ((wa a >>> (Int32.ofNat t &&& 31)) &&& 1 = 1) = (tb (wa a) t = true) := e2
  have e3' : ((wa a >>> (Int32.ofNat t &&& 31)) &&& 1 = 0) = (tb (wa a) t = false) := e3
  rw [pBit_tb (by omega), tb_and, tb_fit (F := fun a => (wa a >>> (Int32.ofNat t &&& 31)) &&& 1) h8 (by omega)]
  unfold kb
  simp only [e1, e2', e3', decide_eq_true ha, Bool.true_and]
  cases tb (pFitting F m) a <;> cases tb (wa a) t <;> simp
def pLeft (B y : Int32) : Int32 := if y < B - y then B - y else y
def gAsk (L : Nat → Int32) (x : Nat) (w : Int32 × Int32) : Int32 × Int32 := if L x < w.2 then (Int32.ofNat x, L x) else w
theorem left_8 : ∀ B, B ≤ 8 → ∀ y, y ≤ 8 → pLeft (Int32.ofNat B) (Int32.ofNat y) < 9 := by decide +kernel
theorem pYes_8 {F : Nat → Int32} {wa : Nat → Int32} {t : Nat} (h8 : m ≤ 8) (ht : t < 32) : pLeft (pBC (pFitting F m)) (pYes (pFitting F m) wa t m) < 9 := by
  rw [← yes_eq h8 ht]
  obtain ⟨n, hn, e⟩ := b8_nat (b8_and (w := pWant wa (Int32.ofNat t) m) (@b8_fit m F h8))
  obtain ⟨n2, hn2, e2⟩ := b8_nat (@b8_fit m F h8)
  rw [e, e2]
  obtain ⟨k, hk, e3⟩ := pBC_8 n hn
  obtain ⟨k2, hk2, e4⟩ := pBC_8 n2 hn2
  rw [e3, e4]
  exact left_8 k2 hk2 k hk
theorem ask_eq {L : Nat → Int32} (h : L 0 < 9) : kfo (gAsk L) 8 (0, 9) = kfo (gAsk L) 8 (-1, 1000000) := by
  rw [kfo_shift (n := 7), kfo_shift (n := 7)]
  have e1 : gAsk L 0 (0, 9) = (Int32.ofNat 0, L 0) := by unfold gAsk; rw [if_pos h]
  have e2 : gAsk L 0 (-1, 1000000) = (Int32.ofNat 0, L 0) := by unfold gAsk; rw [if_pos (Int32.lt_trans h (by decide))]
  rw [e1, e2]
theorem J_ask (h : IV m i l f t sp) : JJ 129 244 [] i l f t sp := by
  obtain ⟨⟨h5, h91, h8, e9, hle, hp⟩, hX, hW, hN, hU, hS, hK, hH, hR, hF⟩ := id h
  obtain ⟨n, h12, e74, e91, hh⟩ := hH
  have hf := fit_eq h h12 hh
  generalize hB : mFitting i n m = B at hf
  have hB' : pFitting (mFit i n) m = B := hB
  by_cases q0 : B = 0
  · refine JJ_n h (-2) i (uPut i) ag_r (ag_uu ag_r) rfl rfl ?_ ?_
    · intro sc d y nx hd L st cu su K
      refine kCA_of (d := d + 499) (v := some (.int _)) (fun K => ?_)
      rw [km_129]
      show kWP sc (d + 499) 129 0 [.ref 0, .retAddr 0, .retAddr 0, .retAddr 0, .retAddr 0, .retAddr 0, .retAddr 0] [] _ K = _
      simp only [e_X10_ask_0, e_X10_ask_1, e_X10_ask_4, e_X10_ask_5, e_X10_ask_8, e_X10_ask_9, e_X10_ask_12, e_X10_ask_15, e_X10_ask_16, e_X10_ask_17, e_X10_ask_20, e_X10_ask_22, e_X10_ask_23, e_X10_ask_24, e_X10_ask_25, e_X10_ask_27, e_X10_ask_28, e_X10_ask_29, e_X10_ask_33, e_X10_ask_35, e_X10_ask_38, e_X10_ask_39, e_X10_ask_40, e_X10_ask_43, e_X10_ask_45, e_X10_ask_48, e_X10_ask_49, e_X10_ask_52, e_X10_ask_54, e_X10_ask_56, e_X10_ask_57, e_X10_ask_60, e_X10_ask_62, e_X10_ask_63, e_X10_ask_66, e_X10_ask_68, e_X10_ask_70, e_X10_ask_71, e_X10_ask_74, e_X10_ask_76, e_X10_ask_77, e_X10_ask_79, e_X10_ask_80, e_X10_ask_83, e_X10_ask_86, e_X10_ask_87, e_X10_ask_90, e_X10_ask_93, e_X10_ask_94, e_X10_ask_97, e_X10_ask_98, e_X10_ask_99, e_X10_ask_102, e_X10_ask_103, ob_0, rk_0_6, rk_0_2, rk_0_3, ob_74, ob_5, rk_0_1, ob_3, kcl_i, kcl_r, kcl_l, kcl_0, kcl_n, true_and, and_true, c_fitting (show kNc 10 = true by decide) h5 h8 e74 h12, hf, q0, if_true]
    · intro sc d y nx hd L st cu su K
      have h91' : uPut i 91 3 = Int32.ofNat m := h91
      have e91' : uPut i 91 39 = Int32.ofNat n := e91
      have hB2 : mFitting (uPut i) n m = B := hB
      refine kCA_of (d := d + 499) (v := some (.int _)) (fun K => ?_)
      rw [km_244]
      show kWP sc (d + 499) 244 0 [.ref 91, .retAddr 0, .retAddr 0, .retAddr 0, .retAddr 0, .retAddr 0, .retAddr 0] [] _ K = _
      simp only [e_X11_ask_0, e_X11_ask_1, e_X11_ask_2, e_X11_ask_5, e_X11_ask_6, e_X11_ask_9, e_X11_ask_10, e_X11_ask_11, e_X11_ask_14, e_X11_ask_16, e_X11_ask_17, e_X11_ask_18, e_X11_ask_19, e_X11_ask_22, e_X11_ask_23, e_X11_ask_24, e_X11_ask_28, e_X11_ask_30, e_X11_ask_33, e_X11_ask_34, e_X11_ask_36, e_X11_ask_37, e_X11_ask_41, e_X11_ask_42, e_X11_ask_45, e_X11_ask_48, e_X11_ask_50, e_X11_ask_51, e_X11_ask_53, e_X11_ask_56, e_X11_ask_59, e_X11_ask_60, e_X11_ask_63, e_X11_ask_65, e_X11_ask_66, e_X11_ask_68, e_X11_ask_71, e_X11_ask_74, e_X11_ask_75, e_X11_ask_78, e_X11_ask_79, e_X11_ask_82, e_X11_ask_83, e_X11_ask_85, e_X11_ask_88, e_X11_ask_91, e_X11_ask_93, e_X11_ask_94, e_X11_ask_97, e_X11_ask_99, e_X11_ask_100, e_X11_ask_103, e_X11_ask_105, e_X11_ask_107, e_X11_ask_108, e_X11_ask_111, e_X11_ask_113, e_X11_ask_116, e_X11_ask_117, e_X11_ask_118, e_X11_ask_119, e_X11_ask_121, e_X11_ask_124, e_X11_ask_125, e_X11_ask_128, e_X11_ask_131, e_X11_ask_132, e_X11_ask_133, e_X11_ask_136, e_X11_ask_137, e_X11_ask_138, e_X11_ask_139, e_X11_ask_142, e_X11_ask_143, ob_91, rk_91_7, ar_95, kcl_i, kcl_r, kcl_l, kcl_0, kcl_n, true_and, and_true, uP_0, m_fitting h91' h8 e91' h12, hB2, q0, if_true]
  · have hw : ∀ t, t < 8 → pBC (B &&& pWant (i 7) (Int32.ofNat t) m) = pYes B (i 95) t m := by
      intro t ht
      rw [← hB', ← yes_eq h8 (by omega)]
      have : pWant (i 7) (Int32.ofNat t) m = pWant (i 95) (Int32.ofNat t) m := kfo_congr (fun x hx b => by rw [(hp x hx).2.1])
      rw [this]
    have hE := ask_eq (L := fun t => pLeft (pBC B) (pYes B (i 95) t m)) (by rw [← hB']; exact pYes_8 h8 (by decide))
    generalize hA : kfo (gAsk (fun t => pLeft (pBC B) (pYes B (i 95) t m))) 8 (-1, 1000000) = A at hE
    refine JJ_q h A.1 1 i (uPut (wPut i 1)) [A.2.toInt64] rfl (by decide) ag_r (ag_uu ag_r) rfl ?_ ?_
    · intro sc d y nx hd L st cu su K
      refine kCA_of (d := d + 499) (v := some (.int _)) (fun K => ?_)
      rw [km_129]
      show kWP sc (d + 499) 129 0 [.ref 0, .retAddr 0, .retAddr 0, .retAddr 0, .retAddr 0, .retAddr 0, .retAddr 0] [] _ K = _
      simp only [e_X10_ask_0, e_X10_ask_1, e_X10_ask_4, e_X10_ask_5, e_X10_ask_8, e_X10_ask_9, e_X10_ask_12, e_X10_ask_15, e_X10_ask_16, e_X10_ask_17, e_X10_ask_20, e_X10_ask_22, e_X10_ask_23, e_X10_ask_24, e_X10_ask_25, e_X10_ask_27, e_X10_ask_28, e_X10_ask_29, e_X10_ask_33, e_X10_ask_35, e_X10_ask_38, e_X10_ask_39, e_X10_ask_40, e_X10_ask_43, e_X10_ask_45, e_X10_ask_48, e_X10_ask_49, e_X10_ask_52, e_X10_ask_54, e_X10_ask_56, e_X10_ask_57, e_X10_ask_60, e_X10_ask_62, e_X10_ask_63, e_X10_ask_66, e_X10_ask_68, e_X10_ask_70, e_X10_ask_71, e_X10_ask_74, e_X10_ask_76, e_X10_ask_77, e_X10_ask_79, e_X10_ask_80, e_X10_ask_83, e_X10_ask_86, e_X10_ask_87, e_X10_ask_90, e_X10_ask_93, e_X10_ask_94, e_X10_ask_97, e_X10_ask_98, e_X10_ask_99, e_X10_ask_102, e_X10_ask_103, ob_0, rk_0_6, rk_0_2, rk_0_3, ob_74, ob_5, rk_0_1, ob_3, kcl_i, kcl_r, kcl_l, kcl_0, kcl_n, true_and, and_true, c_fitting (show kNc 10 = true by decide) h5 h8 e74 h12, hf, q0, if_false]
      have E := k_lq (n := 8) (Q := fun x (w : (Int32 × Int32) × Value × Value) => kWP sc (d + 499) 129 31 [.ref 0, .int B, .int w.1.1, .int w.1.2, .int (Int32.ofNat x), w.2.1, w.2.2] [] ((120, cu, su), i, l, kR f t sp) K) (I := fun x w => w.1 = kfo (gAsk (fun t => pLeft (pBC B) (pYes B (i 95) t m))) x (0, 9)) (b0 := ((0, 9), .retAddr 0, .retAddr 0)) ?_ rfl
      · obtain ⟨⟨w, v5, v6⟩, hw, e⟩ := E
        have hw' : w = A := hw.trans hE
        refine e.trans ?_
        refine e_X10_ask_31.trans ?_
        simp only [e_X10_ask_0, e_X10_ask_1, e_X10_ask_4, e_X10_ask_5, e_X10_ask_8, e_X10_ask_9, e_X10_ask_12, e_X10_ask_15, e_X10_ask_16, e_X10_ask_17, e_X10_ask_20, e_X10_ask_22, e_X10_ask_23, e_X10_ask_24, e_X10_ask_25, e_X10_ask_27, e_X10_ask_28, e_X10_ask_29, e_X10_ask_33, e_X10_ask_35, e_X10_ask_38, e_X10_ask_39, e_X10_ask_40, e_X10_ask_43, e_X10_ask_45, e_X10_ask_48, e_X10_ask_49, e_X10_ask_52, e_X10_ask_54, e_X10_ask_56, e_X10_ask_57, e_X10_ask_60, e_X10_ask_62, e_X10_ask_63, e_X10_ask_66, e_X10_ask_68, e_X10_ask_70, e_X10_ask_71, e_X10_ask_74, e_X10_ask_76, e_X10_ask_77, e_X10_ask_79, e_X10_ask_80, e_X10_ask_83, e_X10_ask_86, e_X10_ask_87, e_X10_ask_90, e_X10_ask_93, e_X10_ask_94, e_X10_ask_97, e_X10_ask_98, e_X10_ask_99, e_X10_ask_102, e_X10_ask_103, ob_0, rk_0_6, rk_0_2, rk_0_3, ob_74, ob_5, rk_0_1, ob_3, kcl_i, kcl_r, kcl_l, kcl_0, kcl_n, true_and, and_true, jp88, if_true, c_start, c_radd (show 0 < 128 by decide)]
        rw [hw']; rfl
      · intro x ⟨w, v5, v6⟩ hx hI
        refine ⟨(gAsk (fun t => pLeft (pBC B) (pYes B (i 95) t m)) x w, .int (pYes B (i 95) x m), .int (pLeft (pBC B) (pYes B (i 95) x m))), ?_, ?_⟩
        · have hI' : w = kfo (gAsk (fun t => pLeft (pBC B) (pYes B (i 95) t m))) x (0, 9) := hI
          rw [hI']; rfl
        · refine e_X10_ask_31.trans ?_
          simp only [e_X10_ask_0, e_X10_ask_1, e_X10_ask_4, e_X10_ask_5, e_X10_ask_8, e_X10_ask_9, e_X10_ask_12, e_X10_ask_15, e_X10_ask_16, e_X10_ask_17, e_X10_ask_20, e_X10_ask_22, e_X10_ask_23, e_X10_ask_24, e_X10_ask_25, e_X10_ask_27, e_X10_ask_28, e_X10_ask_29, e_X10_ask_33, e_X10_ask_35, e_X10_ask_38, e_X10_ask_39, e_X10_ask_40, e_X10_ask_43, e_X10_ask_45, e_X10_ask_48, e_X10_ask_49, e_X10_ask_52, e_X10_ask_54, e_X10_ask_56, e_X10_ask_57, e_X10_ask_60, e_X10_ask_62, e_X10_ask_63, e_X10_ask_66, e_X10_ask_68, e_X10_ask_70, e_X10_ask_71, e_X10_ask_74, e_X10_ask_76, e_X10_ask_77, e_X10_ask_79, e_X10_ask_80, e_X10_ask_83, e_X10_ask_86, e_X10_ask_87, e_X10_ask_90, e_X10_ask_93, e_X10_ask_94, e_X10_ask_97, e_X10_ask_98, e_X10_ask_99, e_X10_ask_102, e_X10_ask_103, ob_0, rk_0_6, rk_0_2, rk_0_3, ob_74, ob_5, rk_0_1, ob_3, kcl_i, kcl_r, kcl_l, kcl_0, kcl_n, true_and, and_true, jp8 hx, if_false, c_wanting h5 h8, c_bitCount, hw x hx, tn_s]
          show (if w.2 ≤ pLeft (pBC B) (pYes B (i 95) x m) then _ else _) = _
          unfold gAsk
          by_cases q : pLeft (pBC B) (pYes B (i 95) x m) < w.2
          · have q' : ¬ w.2 ≤ pLeft (pBC B) (pYes B (i 95) x m) := Int32.not_le.2 q
            simp only [q, q', if_true, if_false]; rfl
          · have q' : w.2 ≤ pLeft (pBC B) (pYes B (i 95) x m) := Int32.not_lt.1 q
            simp only [q, q', if_true, if_false]; rfl
    · intro sc d y nx hd L st cu su K
      have h91' : uPut (wPut i 1) 91 3 = Int32.ofNat m := h91
      have e91' : uPut (wPut i 1) 91 39 = Int32.ofNat n := e91
      have hB2 : mFitting (uPut (wPut i 1)) n m = B := hB
      refine kCA_of (d := d + 499) (v := some (.int _)) (fun K => ?_)
      rw [km_244]
      show kWP sc (d + 499) 244 0 [.ref 91, .retAddr 0, .retAddr 0, .retAddr 0, .retAddr 0, .retAddr 0, .retAddr 0] [] _ K = _
      simp only [e_X11_ask_0, e_X11_ask_1, e_X11_ask_2, e_X11_ask_5, e_X11_ask_6, e_X11_ask_9, e_X11_ask_10, e_X11_ask_11, e_X11_ask_14, e_X11_ask_16, e_X11_ask_17, e_X11_ask_18, e_X11_ask_19, e_X11_ask_22, e_X11_ask_23, e_X11_ask_24, e_X11_ask_28, e_X11_ask_30, e_X11_ask_33, e_X11_ask_34, e_X11_ask_36, e_X11_ask_37, e_X11_ask_41, e_X11_ask_42, e_X11_ask_45, e_X11_ask_48, e_X11_ask_50, e_X11_ask_51, e_X11_ask_53, e_X11_ask_56, e_X11_ask_59, e_X11_ask_60, e_X11_ask_63, e_X11_ask_65, e_X11_ask_66, e_X11_ask_68, e_X11_ask_71, e_X11_ask_74, e_X11_ask_75, e_X11_ask_78, e_X11_ask_79, e_X11_ask_82, e_X11_ask_83, e_X11_ask_85, e_X11_ask_88, e_X11_ask_91, e_X11_ask_93, e_X11_ask_94, e_X11_ask_97, e_X11_ask_99, e_X11_ask_100, e_X11_ask_103, e_X11_ask_105, e_X11_ask_107, e_X11_ask_108, e_X11_ask_111, e_X11_ask_113, e_X11_ask_116, e_X11_ask_117, e_X11_ask_118, e_X11_ask_119, e_X11_ask_121, e_X11_ask_124, e_X11_ask_125, e_X11_ask_128, e_X11_ask_131, e_X11_ask_132, e_X11_ask_133, e_X11_ask_136, e_X11_ask_137, e_X11_ask_138, e_X11_ask_139, e_X11_ask_142, e_X11_ask_143, ob_91, rk_91_7, ar_95, kcl_i, kcl_r, kcl_l, kcl_0, kcl_n, true_and, and_true, uP_0, m_fitting h91' h8 e91' h12, hB2, q0, if_false]
      have E := k_lq (n := 8) (Q := fun x (w : (Int32 × Int32) × Value × Value) => kWP sc (d + 499) 244 26 [.ref 91, .int B, .int w.1.1, .int w.1.2, .int (Int32.ofNat x), w.2.1, w.2.2] [] ((120, cu, su), uPut (wPut i 1), tC l 0 [A.2.toInt64], kR f t sp) K) (I := fun x w => w.1 = kfo (gAsk (fun t => pLeft (pBC B) (pYes B (i 95) t m))) x (-1, 1000000)) (b0 := ((-1, 1000000), .retAddr 0, .retAddr 0)) ?_ rfl
      · obtain ⟨⟨w, v5, v6⟩, hw, e⟩ := E
        have hw' : w = A := hw.trans hA
        refine e.trans ?_
        refine e_X11_ask_26.trans ?_
        simp only [e_X11_ask_0, e_X11_ask_1, e_X11_ask_2, e_X11_ask_5, e_X11_ask_6, e_X11_ask_9, e_X11_ask_10, e_X11_ask_11, e_X11_ask_14, e_X11_ask_16, e_X11_ask_17, e_X11_ask_18, e_X11_ask_19, e_X11_ask_22, e_X11_ask_23, e_X11_ask_24, e_X11_ask_28, e_X11_ask_30, e_X11_ask_33, e_X11_ask_34, e_X11_ask_36, e_X11_ask_37, e_X11_ask_41, e_X11_ask_42, e_X11_ask_45, e_X11_ask_48, e_X11_ask_50, e_X11_ask_51, e_X11_ask_53, e_X11_ask_56, e_X11_ask_59, e_X11_ask_60, e_X11_ask_63, e_X11_ask_65, e_X11_ask_66, e_X11_ask_68, e_X11_ask_71, e_X11_ask_74, e_X11_ask_75, e_X11_ask_78, e_X11_ask_79, e_X11_ask_82, e_X11_ask_83, e_X11_ask_85, e_X11_ask_88, e_X11_ask_91, e_X11_ask_93, e_X11_ask_94, e_X11_ask_97, e_X11_ask_99, e_X11_ask_100, e_X11_ask_103, e_X11_ask_105, e_X11_ask_107, e_X11_ask_108, e_X11_ask_111, e_X11_ask_113, e_X11_ask_116, e_X11_ask_117, e_X11_ask_118, e_X11_ask_119, e_X11_ask_121, e_X11_ask_124, e_X11_ask_125, e_X11_ask_128, e_X11_ask_131, e_X11_ask_132, e_X11_ask_133, e_X11_ask_136, e_X11_ask_137, e_X11_ask_138, e_X11_ask_139, e_X11_ask_142, e_X11_ask_143, ob_91, rk_91_7, ar_95, kcl_i, kcl_r, kcl_l, kcl_0, kcl_n, true_and, and_true, jp88, if_true, vP_0, m_enters (show 0 < 256 by decide)]
        rw [hw']; rfl
      · intro x ⟨w, v5, v6⟩ hx hI
        refine ⟨(gAsk (fun t => pLeft (pBC B) (pYes B (i 95) t m)) x w, .int (pYes B (i 95) x m), .int (pLeft (pBC B) (pYes B (i 95) x m))), ?_, ?_⟩
        · have hI' : w = kfo (gAsk (fun t => pLeft (pBC B) (pYes B (i 95) t m))) x (-1, 1000000) := hI
          rw [hI']; rfl
        · refine e_X11_ask_26.trans ?_
          simp only [e_X11_ask_0, e_X11_ask_1, e_X11_ask_2, e_X11_ask_5, e_X11_ask_6, e_X11_ask_9, e_X11_ask_10, e_X11_ask_11, e_X11_ask_14, e_X11_ask_16, e_X11_ask_17, e_X11_ask_18, e_X11_ask_19, e_X11_ask_22, e_X11_ask_23, e_X11_ask_24, e_X11_ask_28, e_X11_ask_30, e_X11_ask_33, e_X11_ask_34, e_X11_ask_36, e_X11_ask_37, e_X11_ask_41, e_X11_ask_42, e_X11_ask_45, e_X11_ask_48, e_X11_ask_50, e_X11_ask_51, e_X11_ask_53, e_X11_ask_56, e_X11_ask_59, e_X11_ask_60, e_X11_ask_63, e_X11_ask_65, e_X11_ask_66, e_X11_ask_68, e_X11_ask_71, e_X11_ask_74, e_X11_ask_75, e_X11_ask_78, e_X11_ask_79, e_X11_ask_82, e_X11_ask_83, e_X11_ask_85, e_X11_ask_88, e_X11_ask_91, e_X11_ask_93, e_X11_ask_94, e_X11_ask_97, e_X11_ask_99, e_X11_ask_100, e_X11_ask_103, e_X11_ask_105, e_X11_ask_107, e_X11_ask_108, e_X11_ask_111, e_X11_ask_113, e_X11_ask_116, e_X11_ask_117, e_X11_ask_118, e_X11_ask_119, e_X11_ask_121, e_X11_ask_124, e_X11_ask_125, e_X11_ask_128, e_X11_ask_131, e_X11_ask_132, e_X11_ask_133, e_X11_ask_136, e_X11_ask_137, e_X11_ask_138, e_X11_ask_139, e_X11_ask_142, e_X11_ask_143, ob_91, rk_91_7, ar_95, kcl_i, kcl_r, kcl_l, kcl_0, kcl_n, true_and, and_true, jp8 hx, if_false]
          refine (k_for (P := fun z (s : Int32) => kWP sc (d + 499) 244 39 [.ref 91, .int B, .int w.1, .int w.2, .int (Int32.ofNat x), .int s, .int (Int32.ofNat z)] [] ((120, cu, su), uPut (wPut i 1), tC l 0 [A.2.toInt64], kR f t sp) K) (n := m) (g := fun a s => s + kb ((B >>> (Int32.ofNat a &&& 31)) &&& 1 = 1 ∧ (i 95 a >>> (Int32.ofNat x &&& 31)) &&& 1 = 1)) ?_ 0).trans ?_
          · intro z s hz
            refine e_X11_ask_39.trans ?_
            simp only [e_X11_ask_0, e_X11_ask_1, e_X11_ask_2, e_X11_ask_5, e_X11_ask_6, e_X11_ask_9, e_X11_ask_10, e_X11_ask_11, e_X11_ask_14, e_X11_ask_16, e_X11_ask_17, e_X11_ask_18, e_X11_ask_19, e_X11_ask_22, e_X11_ask_23, e_X11_ask_24, e_X11_ask_28, e_X11_ask_30, e_X11_ask_33, e_X11_ask_34, e_X11_ask_36, e_X11_ask_37, e_X11_ask_41, e_X11_ask_42, e_X11_ask_45, e_X11_ask_48, e_X11_ask_50, e_X11_ask_51, e_X11_ask_53, e_X11_ask_56, e_X11_ask_59, e_X11_ask_60, e_X11_ask_63, e_X11_ask_65, e_X11_ask_66, e_X11_ask_68, e_X11_ask_71, e_X11_ask_74, e_X11_ask_75, e_X11_ask_78, e_X11_ask_79, e_X11_ask_82, e_X11_ask_83, e_X11_ask_85, e_X11_ask_88, e_X11_ask_91, e_X11_ask_93, e_X11_ask_94, e_X11_ask_97, e_X11_ask_99, e_X11_ask_100, e_X11_ask_103, e_X11_ask_105, e_X11_ask_107, e_X11_ask_108, e_X11_ask_111, e_X11_ask_113, e_X11_ask_116, e_X11_ask_117, e_X11_ask_118, e_X11_ask_119, e_X11_ask_121, e_X11_ask_124, e_X11_ask_125, e_X11_ask_128, e_X11_ask_131, e_X11_ask_132, e_X11_ask_133, e_X11_ask_136, e_X11_ask_137, e_X11_ask_138, e_X11_ask_139, e_X11_ask_142, e_X11_ask_143, ob_91, rk_91_7, ar_95, kcl_i, kcl_r, kcl_l, kcl_0, kcl_n, true_and, and_true, u3, w91, u95, w95, h91, jpF hz (by omega), if_false, m_has, kb_0, m_flag, kin8 (show z < 8 by omega), cl_n (show z < 100000 by omega), tn_s]
            by_cases q1 : (B >>> (Int32.ofNat z &&& 31)) &&& 1 = 1
            · by_cases q2 : (i 95 z >>> (Int32.ofNat x &&& 31)) &&& 1 = 1
              · simp only [q1, q2, kb, not_true_eq_false, if_true, if_false, and_self, z10]
              · simp only [q1, q2, kb, not_true_eq_false, not_false_eq_true, if_true, if_false, and_false]
            · simp only [q1, kb, not_false_eq_true, if_true, if_false, false_and]
          · refine e_X11_ask_39.trans ?_
            simp only [e_X11_ask_0, e_X11_ask_1, e_X11_ask_2, e_X11_ask_5, e_X11_ask_6, e_X11_ask_9, e_X11_ask_10, e_X11_ask_11, e_X11_ask_14, e_X11_ask_16, e_X11_ask_17, e_X11_ask_18, e_X11_ask_19, e_X11_ask_22, e_X11_ask_23, e_X11_ask_24, e_X11_ask_28, e_X11_ask_30, e_X11_ask_33, e_X11_ask_34, e_X11_ask_36, e_X11_ask_37, e_X11_ask_41, e_X11_ask_42, e_X11_ask_45, e_X11_ask_48, e_X11_ask_50, e_X11_ask_51, e_X11_ask_53, e_X11_ask_56, e_X11_ask_59, e_X11_ask_60, e_X11_ask_63, e_X11_ask_65, e_X11_ask_66, e_X11_ask_68, e_X11_ask_71, e_X11_ask_74, e_X11_ask_75, e_X11_ask_78, e_X11_ask_79, e_X11_ask_82, e_X11_ask_83, e_X11_ask_85, e_X11_ask_88, e_X11_ask_91, e_X11_ask_93, e_X11_ask_94, e_X11_ask_97, e_X11_ask_99, e_X11_ask_100, e_X11_ask_103, e_X11_ask_105, e_X11_ask_107, e_X11_ask_108, e_X11_ask_111, e_X11_ask_113, e_X11_ask_116, e_X11_ask_117, e_X11_ask_118, e_X11_ask_119, e_X11_ask_121, e_X11_ask_124, e_X11_ask_125, e_X11_ask_128, e_X11_ask_131, e_X11_ask_132, e_X11_ask_133, e_X11_ask_136, e_X11_ask_137, e_X11_ask_138, e_X11_ask_139, e_X11_ask_142, e_X11_ask_143, ob_91, rk_91_7, ar_95, kcl_i, kcl_r, kcl_l, kcl_0, kcl_n, true_and, and_true, u3, w91, h91, Int32.le_refl, if_true, c_bitCount, tn_s]
            show (if w.2 ≤ pLeft (pBC B) (pYes B (i 95) x m) then _ else _) = _
            unfold gAsk
            by_cases q : pLeft (pBC B) (pYes B (i 95) x m) < w.2
            · have q' : ¬ w.2 ≤ pLeft (pBC B) (pYes B (i 95) x m) := Int32.not_le.2 q
              simp only [q, q', if_false]
              show kWP sc (d + 499) _ _ [_, _, _, .int (if pLeft (pBC B) (pYes B (i 95) x m) < w.2 then pLeft (pBC B) (pYes B (i 95) x m) else w.2), _, _, _] _ _ K = _
              rw [if_pos q]; rfl
            · have q' : w.2 ≤ pLeft (pBC B) (pYes B (i 95) x m) := Int32.not_lt.1 q
              simp only [q, q', if_true, if_false]
              show kWP sc (d + 499) _ _ [_, _, _, .int (if pLeft (pBC B) (pYes B (i 95) x m) < w.2 then pLeft (pBC B) (pYes B (i 95) x m) else w.2), _, _, _] _ _ K = _
              rw [if_neg q]; rfl
end TC
