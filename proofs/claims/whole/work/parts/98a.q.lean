/-! questions: the row that both tell -/
section TC
variable {sc : Nat × (Nat → Int32)} {d y nx : Nat} {hd : List (Int × Nat)} {L st : List Value} {S : kS} {cu su : Nat} {i : Nat → Nat → Int32} {l : Nat → Nat → Int64} {f t c b m : Nat} {sp : Nat → Nat} {K : Option (Option Value) → kS → Prop}
variable {N M Z S1 Q : Nat → Int32} {i1 i2 i3 : Nat → Nat → Int32} {l2 : Nat → Nat → Int64} {n k x : Nat} {v r : Int32} {zs : List Int64}
def vPut (i : Nat → Nat → Int32) (n : Nat) : Nat → Nat → Int32 := kupi i 91 1 (Int32.ofNat n)
theorem vP_n {n : Nat} : vPut i n 91 1 = Int32.ofNat n := kupi_s
theorem vP_o {n x : Nat} (h : x ≠ 91) : vPut i n x = i x := kupi_cf h
theorem vP_f {n j : Nat} (h : j ≠ 1) : vPut i n 91 j = i 91 j := kupi_k h
theorem vP_pp {n n2 : Nat} : vPut (vPut i n) n2 = vPut i n2 := by
  funext x j; unfold vPut kupi; by_cases h : x = 91 ∧ j = 1
  · simp [h]
  · simp [h]
theorem vP_0 : kupi i 91 1 0 = vPut i 0 := rfl
theorem m_enters {n : Nat} {z : Int64} (hn : n < 256) : kCA sc (d + 1) 161 [.ref 91, .long z] y nx hd L st ((120, cu, su), vPut i n, l, kR f t sp) K = kWP sc (d + 1) y nx L st ((120, cu, su), vPut i (n + 1), kupl l 92 n z, kR f t sp) K := by
  refine kCA_of (d := d) (v := none) (S2 := ((120, cu, su), vPut i (n + 1), kupl l 92 n z, kR f t sp)) (fun K => ?_)
  rw [km_161]
  show kWP sc (d) 161 0 [.ref 91, .long z, .retAddr 0] [] ((120, cu, su), vPut i n, l, kR f t sp) K = K (some (none)) ((120, cu, su), vPut i (n + 1), kupl l 92 n z, kR f t sp)
  have c2 : kin (Int32.ofNat n) 256 = True := by rw [tn_kin (by omega)]; exact eq_true hn
  simp only [e_X11_enters_0, e_X11_enters_1, e_X11_enters_4, e_X11_enters_5, e_X11_enters_8, e_X11_enters_9, e_X11_enters_10, e_X11_enters_11, e_X11_enters_12, e_X11_enters_15, e_X11_enters_16, e_X11_enters_17, e_X11_enters_20, ob_91, rk_91_2, ar_92, kcl_i, kcl_r, kcl_l, kcl_0, kcl_n, true_and, and_true, vP_n, c2, tn_cl (show n < 2147483648 by omega), tn_s]
  show K _ (_, vPut (vPut i n) (n + 1), _, _) = _
  rw [vP_pp]
theorem m_orNobody {p : Int32} : kCA sc (d + 1) 205 [.int p] y nx hd L st ((120, cu, su), i, l, kR f t sp) K = kWP sc (d + 1) y nx L (.int (if p < 0 then -2 else p) :: st) ((120, cu, su), i, l, kR f t sp) K := by
  refine kCA_of (d := d) (v := some (.int (if p < 0 then -2 else p))) (S2 := ((120, cu, su), i, l, kR f t sp)) (fun K => ?_)
  rw [km_205]
  show kWP sc (d) 205 0 [.int p] [] ((120, cu, su), i, l, kR f t sp) K = K (some (some (.int (if p < 0 then -2 else p)))) ((120, cu, su), i, l, kR f t sp)
  simp only [e_X11_orNobody_0, e_X11_orNobody_1, e_X11_orNobody_4, e_X11_orNobody_6, e_X11_orNobody_9, e_X11_orNobody_10, kcl_i, kcl_r, kcl_l, kcl_0, kcl_n, true_and, and_true]
  by_cases q : p < 0
  · have q2 : ¬ 0 ≤ p := Int32.not_le.2 q
    simp only [q, q2, if_true, if_false]
  · have q2 : 0 ≤ p := Int32.not_lt.1 q
    simp only [q, q2, if_true, if_false]
def tC (l : Nat → Nat → Int64) (k : Nat) : List Int64 → Nat → Nat → Int64
  | [] => l
  | z :: zs => tC (kupl l 4 k z) (k + 1) zs
def tR (l : Nat → Nat → Int64) (k : Nat) : List Int64 → Nat → Nat → Int64
  | [] => l
  | z :: zs => tR (kupl l 92 k z) (k + 1) zs
theorem tC_o : ∀ (zs : List Int64) (l : Nat → Nat → Int64) (k c x : Nat), (c ≠ 4 ∨ x < k) → tC l k zs c x = l c x := by
  intro zs
  induction zs with
  | nil => intro l k c x _; rfl
  | cons z zs ih =>
    intro l k c x h
    show tC (kupl l 4 k z) (k + 1) zs c x = _
    rw [ih _ _ _ _ (by omega)]
    unfold kupl; rw [if_neg (by omega)]
theorem tR_o : ∀ (zs : List Int64) (l : Nat → Nat → Int64) (k c x : Nat), (c ≠ 92 ∨ x < k) → tR l k zs c x = l c x := by
  intro zs
  induction zs with
  | nil => intro l k c x _; rfl
  | cons z zs ih =>
    intro l k c x h
    show tR (kupl l 92 k z) (k + 1) zs c x = _
    rw [ih _ _ _ _ (by omega)]
    unfold kupl; rw [if_neg (by omega)]
theorem tCR : ∀ (zs : List Int64) (l l2 : Nat → Nat → Int64) (k x : Nat), k ≤ x → x < k + zs.length → tC l k zs 4 x = tR l2 k zs 92 x := by
  intro zs
  induction zs with
  | nil => intro l l2 k x h1 h2; simp at h2; omega
  | cons z zs ih =>
    intro l l2 k x h1 h2
    show tC (kupl l 4 k z) (k + 1) zs 4 x = tR (kupl l2 92 k z) (k + 1) zs 92 x
    by_cases e : x = k
    · subst e; rw [tC_o _ _ _ _ _ (by omega), tR_o _ _ _ _ _ (by omega), kupl_s, kupl_s]
    · exact ih _ _ _ _ (by omega) (by simp at h2; omega)
theorem IW_tell (hz : zs.length = n) (hn : n ≤ 128) : IW (Int32.ofNat n) (Int32.ofNat n) (tR (tC l 0 zs) 0 zs 4) (tR (tC l 0 zs) 0 zs 92) := by
  refine ⟨n, hn, rfl, rfl, fun x hx => ?_⟩
  rw [tR_o _ _ _ _ _ (Or.inl (by decide))]
  exact tCR _ _ _ _ _ (Nat.zero_le _) (by omega)
theorem ag_w (h : kAg kSc i i2) : kAg kSc i (wPut i2 n) := ag_u h rfl
theorem ag_v (h : kAg kSc i i2) : kAg kSc i (vPut i2 n) := ag_u h rfl
theorem ag_0 (h : kAg kSc i i2) : kAg kSc i (kupi i2 91 0 v) := ag_u h rfl
/-- the class's call: its answer, its cells after it -/
def CC (za : Nat) (args : List Value) (i : Nat → Nat → Int32) (l : Nat → Nat → Int64) (f t : Nat) (sp : Nat → Nat) (r : Value) (i1 : Nat → Nat → Int32) (l1 : Nat → Nat → Int64) (f1 t1 : Nat) (sp1 : Nat → Nat) : Prop :=
  ∀ (sc : Nat × (Nat → Int32)) (d y nx : Nat) (hd : List (Int × Nat)) (L st : List Value) (cu su : Nat) (K : Option (Option Value) → kS → Prop), kCA sc (d + 500) za args y nx hd L st ((120, cu, su), i, l, kR f t sp) K = kWP sc (d + 500) y nx L (r :: st) ((120, cu, su), i1, l1, kR f1 t1 sp1) K
/-- a call of the class and a call of the reference answer the same, and all holds again -/
def JJ (za zb : Nat) (args : List Value) (i : Nat → Nat → Int32) (l : Nat → Nat → Int64) (f t : Nat) (sp : Nat → Nat) : Prop :=
  ∃ (r : Int32) (i1 : Nat → Nat → Int32) (l1 : Nat → Nat → Int64) (f1 t1 : Nat) (sp1 : Nat → Nat) (i2 : Nat → Nat → Int32) (l2 : Nat → Nat → Int64) (m2 : Nat),
    CC za (.ref 0 :: args) i l f t sp (.int r) i1 l1 f1 t1 sp1 ∧ CC zb (.ref 91 :: args) i1 l1 f1 t1 sp1 (.int r) i2 l2 f1 t1 sp1 ∧ IV m2 i2 l2 f1 t1 sp1
/-- the reference's thrown is 0 -/
def uPut (i : Nat → Nat → Int32) : Nat → Nat → Int32 := kupi i 91 0 0
theorem uP_0 : kupi i 91 0 0 = uPut i := rfl
theorem uP_o {x : Nat} (h : x ≠ 91) : uPut i x = i x := kupi_cf h
theorem uP_f {j : Nat} (h : j ≠ 0) : uPut i 91 j = i 91 j := kupi_k h
theorem ag_uu (h : kAg kSc i i2) : kAg kSc i (uPut i2) := ag_0 h
/-- a question that tells a row -/
theorem JJ_q {za zb : Nat} {args : List Value} (h : IV m i l f t sp) (r : Int32) (n : Nat) (i1 i2 : Nat → Nat → Int32) (zs : List Int64) (hz : zs.length = n) (hn : n ≤ 128) (a1 : kAg kSc i i1) (a2 : kAg kSc (wPut i1 n) i2) (h3 : i2 3 1 = Int32.ofNat n)
    (hc : CC za (.ref 0 :: args) i l f t sp (.int r) (wPut i1 n) (tC l 0 zs) f t sp)
    (hm : CC zb (.ref 91 :: args) (wPut i1 n) (tC l 0 zs) f t sp (.int r) (vPut i2 n) (tR (tC l 0 zs) 0 zs) f t sp) : JJ za zb args i l f t sp := by
  refine ⟨r, _, _, f, t, sp, _, _, m, hc, hm, ?_⟩
  refine kIV_q h (ag_t (ag_w a1) (ag_v a2)) ?_
  rw [vP_n, vP_o (by decide), h3]
  exact IW_tell hz hn
/-- a question that tells none -/
theorem JJ_n {za zb : Nat} {args : List Value} (h : IV m i l f t sp) (r : Int32) (i1 i2 : Nat → Nat → Int32) (a1 : kAg kSc i i1) (a2 : kAg kSc i1 i2) (h3 : i2 3 1 = i 3 1) (h91 : i2 91 1 = i 91 1)
    (hc : CC za (.ref 0 :: args) i l f t sp (.int r) i1 l f t sp)
    (hm : CC zb (.ref 91 :: args) i1 l f t sp (.int r) i2 l f t sp) : JJ za zb args i l f t sp := by
  refine ⟨r, _, _, f, t, sp, _, _, m, hc, hm, ?_⟩
  refine kIV_q h (ag_t a1 a2) ?_
  rw [h3, h91]; exact h.2.2.1
/-- what the two sides share -/
theorem IV_now (h : IV m i l f t sp) : i 10 0 = i 96 17 ∧ i 10 1 = i 96 18 ∧ i 10 2 = i 96 19 ∧ i 10 3 = i 96 20 ∧ i 10 4 = i 96 21 ∧ i 10 5 = i 96 16 ∧ (∀ k, k < 8 → i 11 k = i 96 k) ∧ (∀ k, k < 8 → i 12 k = i 96 (8 + k)) := by
  have hN := h.2.2.2.1.1.1
  refine ⟨hN 17 (by decide), hN 18 (by decide), hN 19 (by decide), hN 20 (by decide), hN 21 (by decide), hN 16 (by decide), ?_, ?_⟩
  · intro k hk
    have := hN k (by omega)
    unfold nGet at this
    rw [if_pos hk] at this; exact this
  · intro k hk
    have := hN (8 + k) (by omega)
    unfold nGet at this
    rw [if_neg (by omega), if_pos (by omega), show 8 + k - 8 = k by omega] at this; exact this
theorem jpF {n x : Nat} (hx : x < n) (hn : n < 100000) : (Int32.ofNat n ≤ Int32.ofNat x) = False := by rw [tn_le (by omega) (by omega)]; exact eq_false (by omega)
theorem jp8 {x : Nat} (hx : x < 8) : ((8 : Int32) ≤ Int32.ofNat x) = False := jpF (n := 8) hx (by decide)
theorem jp88 : ((8 : Int32) ≤ Int32.ofNat 8) = True := eq_true (by decide)
theorem cl_n {a : Nat} (h : a < 100000) : (Int32.ofNat a).toNatClampNeg = a := tn_cl (by omega)
theorem kN_has {p : Int32} (h8 : m ≤ 8) (h : pHas (Int32.ofNat m) p = true) : ∃ a, a < m ∧ p = Int32.ofNat a := by
  rw [pHas_iff] at h
  exact tn_ex (by omega) (Int32.not_lt.1 h.1) (Int32.not_le.1 h.2)
theorem kin8 {a : Nat} (h : a < 8) : kin (Int32.ofNat a) 8 = True := by rw [tn_kin (by omega)]; exact eq_true h
theorem kin25 {a : Nat} (h : a < 25) : kin (Int32.ofNat a) 25 = True := by rw [tn_kin (by omega)]; exact eq_true h
theorem J_alike (h : IV m i l f t sp) (p q : Int32) : JJ 115 231 [.int p, .int q] i l f t sp := by
  obtain ⟨⟨h5, h91, h8, e9, hle, hp⟩, _⟩ := id h
  by_cases q0 : pHas (Int32.ofNat m) p = true ∧ pHas (Int32.ofNat m) q = true ∧ ¬ p = q
  · obtain ⟨a, ha, rfl⟩ := kN_has h8 q0.1
    obtain ⟨b, hb, rfl⟩ := kN_has h8 q0.2.1
    have ea := (hp a ha).2.2
    have eb := (hp b hb).2.2
    refine JJ_q h (i 8 a &&& i 8 b) 2 i (uPut (wPut i 2)) [(i 8 a &&& (i 8 b ^^^ (-1))).toInt64, (i 8 b &&& (i 8 a ^^^ (-1))).toInt64] rfl (by decide) ag_r (ag_uu ag_r) rfl ?_ ?_
    · intro sc d y nx hd L st cu su K
      refine kCA_of (d := d + 499) (v := some (.int _)) (fun K => ?_)
      rw [km_115]
      show kWP sc (d + 499) 115 0 [.ref 0, .int (Int32.ofNat a), .int (Int32.ofNat b), .retAddr 0, .retAddr 0] [] _ K = _
      simp only [e_X10_alike_0, e_X10_alike_1, e_X10_alike_4, e_X10_alike_5, e_X10_alike_6, e_X10_alike_9, e_X10_alike_12, e_X10_alike_13, e_X10_alike_14, e_X10_alike_15, e_X10_alike_18, e_X10_alike_21, e_X10_alike_22, e_X10_alike_23, e_X10_alike_24, e_X10_alike_25, e_X10_alike_28, e_X10_alike_31, e_X10_alike_32, e_X10_alike_33, e_X10_alike_35, e_X10_alike_36, e_X10_alike_39, e_X10_alike_42, e_X10_alike_43, e_X10_alike_46, e_X10_alike_47, e_X10_alike_49, e_X10_alike_50, e_X10_alike_51, e_X10_alike_52, e_X10_alike_53, e_X10_alike_56, e_X10_alike_57, e_X10_alike_60, e_X10_alike_62, e_X10_alike_63, e_X10_alike_64, e_X10_alike_65, e_X10_alike_66, e_X10_alike_67, e_X10_alike_70, e_X10_alike_71, e_X10_alike_73, e_X10_alike_74, ob_0, rk_0_2, ob_5, rk_5_3, ar_8, rk_0_1, ob_3, kcl_i, kcl_r, kcl_l, kcl_0, kcl_n, true_and, and_true, c_areTwo, kb_0, h5, q0, not_true_eq_false, and_self, if_false, if_true, kin8 (show a < 8 by omega), kin8 (show b < 8 by omega), tn_cl (show a < 2147483648 by omega), tn_cl (show b < 2147483648 by omega), c_start, c_radd (show 0 < 128 by decide), c_radd (show 0 + 1 < 128 by decide), not_false_eq_true]
      rfl
    · intro sc d y nx hd L st cu su K
      have h91' : uPut (wPut i 2) 91 3 = Int32.ofNat m := h91
      refine kCA_of (d := d + 499) (v := some (.int _)) (fun K => ?_)
      rw [km_231]
      show kWP sc (d + 499) 231 0 [.ref 91, .int (Int32.ofNat a), .int (Int32.ofNat b)] [] _ K = _
      simp only [e_X11_alike_0, e_X11_alike_1, e_X11_alike_2, e_X11_alike_5, e_X11_alike_6, e_X11_alike_7, e_X11_alike_10, e_X11_alike_13, e_X11_alike_14, e_X11_alike_15, e_X11_alike_18, e_X11_alike_21, e_X11_alike_22, e_X11_alike_23, e_X11_alike_26, e_X11_alike_27, e_X11_alike_28, e_X11_alike_29, e_X11_alike_30, e_X11_alike_33, e_X11_alike_34, e_X11_alike_35, e_X11_alike_36, e_X11_alike_39, e_X11_alike_40, e_X11_alike_41, e_X11_alike_44, e_X11_alike_45, e_X11_alike_46, e_X11_alike_47, e_X11_alike_48, e_X11_alike_51, e_X11_alike_52, e_X11_alike_53, e_X11_alike_54, e_X11_alike_57, e_X11_alike_58, e_X11_alike_59, e_X11_alike_62, e_X11_alike_63, e_X11_alike_64, e_X11_alike_65, e_X11_alike_66, e_X11_alike_69, e_X11_alike_70, e_X11_alike_71, e_X11_alike_74, e_X11_alike_75, e_X11_alike_76, e_X11_alike_79, e_X11_alike_80, ob_91, kcl_i, kcl_r, kcl_l, kcl_0, kcl_n, true_and, and_true, uP_0, m_isMan h91' h8, kb_0, q0.1, q0.2.1, q0.2.2, not_true_eq_false, if_false, if_true, m_able (show a < 8 by omega), m_able (show b < 8 by omega), vP_0, m_enters (show 0 < 256 by decide), m_enters (show 0 + 1 < 256 by decide), vP_o (show 93 ≠ 91 by decide), vP_o (show 94 ≠ 91 by decide), vP_o (show 95 ≠ 91 by decide), uP_o (show 93 ≠ 91 by decide), uP_o (show 94 ≠ 91 by decide), uP_o (show 95 ≠ 91 by decide), wP_o (show 93 ≠ 3 by decide), wP_o (show 94 ≠ 3 by decide), wP_o (show 95 ≠ 3 by decide), ← ea, ← eb]
      rfl
  · refine JJ_n h (-1) i (uPut i) ag_r (ag_uu ag_r) rfl rfl ?_ ?_
    · intro sc d y nx hd L st cu su K
      refine kCA_of (d := d + 499) (v := some (.int _)) (fun K => ?_)
      rw [km_115]
      show kWP sc (d + 499) 115 0 [.ref 0, .int p, .int q, .retAddr 0, .retAddr 0] [] _ K = _
      simp only [e_X10_alike_0, e_X10_alike_1, e_X10_alike_4, e_X10_alike_5, e_X10_alike_6, e_X10_alike_9, e_X10_alike_12, e_X10_alike_13, e_X10_alike_14, e_X10_alike_15, e_X10_alike_18, e_X10_alike_21, e_X10_alike_22, e_X10_alike_23, e_X10_alike_24, e_X10_alike_25, e_X10_alike_28, e_X10_alike_31, e_X10_alike_32, e_X10_alike_33, e_X10_alike_35, e_X10_alike_36, e_X10_alike_39, e_X10_alike_42, e_X10_alike_43, e_X10_alike_46, e_X10_alike_47, e_X10_alike_49, e_X10_alike_50, e_X10_alike_51, e_X10_alike_52, e_X10_alike_53, e_X10_alike_56, e_X10_alike_57, e_X10_alike_60, e_X10_alike_62, e_X10_alike_63, e_X10_alike_64, e_X10_alike_65, e_X10_alike_66, e_X10_alike_67, e_X10_alike_70, e_X10_alike_71, e_X10_alike_73, e_X10_alike_74, ob_0, rk_0_2, ob_5, rk_5_3, ar_8, rk_0_1, ob_3, kcl_i, kcl_r, kcl_l, kcl_0, kcl_n, true_and, and_true, c_areTwo, kb_0, h5, q0, not_false_eq_true, if_true]
    · intro sc d y nx hd L st cu su K
      have h91' : uPut i 91 3 = Int32.ofNat m := h91
      refine kCA_of (d := d + 499) (v := some (.int _)) (fun K => ?_)
      rw [km_231]
      show kWP sc (d + 499) 231 0 [.ref 91, .int p, .int q] [] _ K = _
      simp only [e_X11_alike_0, e_X11_alike_1, e_X11_alike_2, e_X11_alike_5, e_X11_alike_6, e_X11_alike_7, e_X11_alike_10, e_X11_alike_13, e_X11_alike_14, e_X11_alike_15, e_X11_alike_18, e_X11_alike_21, e_X11_alike_22, e_X11_alike_23, e_X11_alike_26, e_X11_alike_27, e_X11_alike_28, e_X11_alike_29, e_X11_alike_30, e_X11_alike_33, e_X11_alike_34, e_X11_alike_35, e_X11_alike_36, e_X11_alike_39, e_X11_alike_40, e_X11_alike_41, e_X11_alike_44, e_X11_alike_45, e_X11_alike_46, e_X11_alike_47, e_X11_alike_48, e_X11_alike_51, e_X11_alike_52, e_X11_alike_53, e_X11_alike_54, e_X11_alike_57, e_X11_alike_58, e_X11_alike_59, e_X11_alike_62, e_X11_alike_63, e_X11_alike_64, e_X11_alike_65, e_X11_alike_66, e_X11_alike_69, e_X11_alike_70, e_X11_alike_71, e_X11_alike_74, e_X11_alike_75, e_X11_alike_76, e_X11_alike_79, e_X11_alike_80, ob_91, kcl_i, kcl_r, kcl_l, kcl_0, kcl_n, true_and, and_true, uP_0, m_isMan h91' h8, kb_0]
      by_cases q1 : pHas (Int32.ofNat m) p = true
      · by_cases q2 : pHas (Int32.ofNat m) q = true
        · have q3 : p = q := Classical.byContradiction fun e => q0 ⟨q1, q2, e⟩
          simp [q1, q2, q3]
        · simp [q1, q2]
      · simp [q1]
end TC
