/-! to and fro -/
section TC
variable {sc : Nat × (Nat → Int32)} {d y nx : Nat} {hd : List (Int × Nat)} {L st : List Value} {S : kS} {cu su : Nat} {i : Nat → Nat → Int32} {l : Nat → Nat → Int64} {f t c b m : Nat} {sp : Nat → Nat} {K : Option (Option Value) → kS → Prop}
variable {N M Z S1 Q A : Nat → Int32} {i1 i2 i3 : Nat → Nat → Int32} {l2 : Nat → Nat → Int64} {n n2 k x a b o g : Nat} {v r p q : Int32} {zs zs2 : List Int64} {co le : Nat → Int32}
theorem kfi_getD {p : Nat → Prop} [DecidablePred p] {n : Nat} : (kfi p n 0).getD n ≤ n := by
  cases hk : kfi p n 0 with
  | none => exact Nat.le_refl n
  | some y => have := kfi_some hk; show y ≤ n; omega
def fMan (a b x : Nat) : Nat := if x % 2 = 0 then a else b
def fCan (co : Nat → Int32) (a b x : Nat) (said : Int32) : Int32 := co (fMan a b x) &&& (said ^^^ (-1))
def fFst (v : Int32) : Nat := (pFirst v).toNatClampNeg
def gFro (co le : Nat → Int32) (a b x : Nat) (w : Int32 × Int32) : Int32 × Int32 := (w.1 ||| (1 <<< (Int32.ofNat (fFst (fCan co a b x w.1)) &&& 31)), w.2 + le (fFst (fCan co a b x w.1)))
def fSt (co le : Nat → Int32) (s0 : Int32) (a b x : Nat) : Int32 × Int32 := kfo (gFro co le a b) x (s0, 0)
def fBad (co le : Nat → Int32) (s0 mi md : Int32) (a b x : Nat) : Prop := fCan co a b x (fSt co le s0 a b x).1 = 0 ∨ md ≤ mi + (fSt co le s0 a b x).2 + le (fFst (fCan co a b x (fSt co le s0 a b x).1))
theorem fst_of {v : Int32} (h8 : b8 v) (h0 : ¬ v = 0) : fFst v < 8 ∧ pFirst v = Int32.ofNat (fFst v) ∧ tb v (fFst v) = true := by
  obtain ⟨k, hk, e1, _, e3⟩ := ntz_of h8 h0
  unfold fFst
  rw [e1, tn_cl (by omega)]
  exact ⟨hk, rfl, e3⟩
theorem ntz_256 : ∀ n, n < 256 → n ≠ 0 → ((Int32.ofNat n ||| 256) ^^^ (-1)) &&& ((Int32.ofNat n ||| 256) - 1) = Int32.ofNat (2 ^ fFst (Int32.ofNat n) - 1) := by decide +kernel
theorem ntz_0 : (((0 : Int32) ||| 256) ^^^ (-1)) &&& (((0 : Int32) ||| 256) - 1) = Int32.ofNat (2 ^ 8 - 1) := by decide
def cntF (b : Nat → Bool) (n : Nat) : Nat := kfo (fun j s => if b j = true then s else s + 1) n 0
theorem cnt_set {b b2 : Nat → Bool} (hb : ∀ j, j < 8 → b2 j = (b j || decide (j = k))) (hk : b k = false) : ∀ n, n ≤ 8 → cntF b2 n + (if k < n then 1 else 0) = cntF b n := by
  intro n
  induction n with
  | zero => intro _; rfl
  | succ n ih =>
    intro hn
    have h := ih (by omega)
    show (if b2 n = true then cntF b2 n else cntF b2 n + 1) + _ = (if b n = true then cntF b n else cntF b n + 1)
    rw [hb n (by omega)]
    by_cases e : n = k
    · subst e
      rw [hk]
      simp only [decide_true, Bool.false_or, if_true, Bool.false_eq_true, if_false]
      rw [if_pos (by omega)]
      rw [if_neg (by omega)] at h
      omega
    · rw [decide_eq_false e, Bool.or_false]
      have e2 : (if k < n + 1 then 1 else 0) = (if k < n then 1 else 0) := by
        by_cases z : k < n
        · rw [if_pos z, if_pos (by omega)]
        · rw [if_neg z, if_neg (by omega)]
      rw [e2]
      split <;> omega
theorem cnt_0 {b : Nat → Bool} (h : cntF b 8 = 0) : ∀ j, j < 8 → b j = true := by
  have key : ∀ n, n ≤ 8 → cntF b n = 0 → ∀ j, j < n → b j = true := by
    intro n
    induction n with
    | zero => intro _ _ j hj; omega
    | succ n ih =>
      intro hn h0 j hj
      have h0' : (if b n = true then cntF b n else cntF b n + 1) = 0 := h0
      by_cases e : b n = true
      · rw [if_pos e] at h0'
        by_cases q : j = n
        · subst q; exact e
        · exact ih (by omega) h0' j (by omega)
      · rw [if_neg e] at h0'; omega
  exact key 8 (Nat.le_refl _) h
theorem fro_end {s0 mi md : Int32} (hco : ∀ a, b8 (co a)) (h : ∀ x, x < 8 → ¬ fBad co le s0 mi md a b x) : fBad co le s0 mi md a b 8 := by
  have key : ∀ x, x ≤ 8 → cntF (tb (fSt co le s0 a b x).1) 8 + x ≤ 8 := by
    intro x
    induction x with
    | zero =>
      intro _
      have : ∀ (b : Nat → Bool) n, cntF b n ≤ n := by
        intro b n
        induction n with
        | zero => exact Nat.le_refl _
        | succ n ih => show (if b n = true then cntF b n else cntF b n + 1) ≤ n + 1; split <;> omega
      have := this (tb (fSt co le s0 a b 0).1) 8
      omega
    | succ x ih =>
      intro hx
      have i := ih (by omega)
      have hb := h x (by omega)
      have h0 : ¬ fCan co a b x (fSt co le s0 a b x).1 = 0 := fun e => hb (Or.inl e)
      have f := fst_of (b8_and (w := (fSt co le s0 a b x).1 ^^^ (-1)) (hco (fMan a b x))) h0
      have f' : fFst (fCan co a b x (fSt co le s0 a b x).1) < 8 ∧ tb (fCan co a b x (fSt co le s0 a b x).1) (fFst (fCan co a b x (fSt co le s0 a b x).1)) = true := ⟨f.1, f.2.2⟩
      generalize hk : fFst (fCan co a b x (fSt co le s0 a b x).1) = k at f'
      have hk2 : tb (fSt co le s0 a b x).1 k = false := by
        have := f'.2
        unfold fCan at this
        rw [tb_and, tb_not (by omega)] at this
        cases e : tb (fSt co le s0 a b x).1 k
        · rfl
        · rw [e] at this; simp at this
      have e : (fSt co le s0 a b (x + 1)).1 = (fSt co le s0 a b x).1 ||| (1 <<< (Int32.ofNat k &&& 31)) := by rw [← hk]; rfl
      have c := cnt_set (b := tb (fSt co le s0 a b x).1) (b2 := tb (fSt co le s0 a b (x + 1)).1) (k := k) (fun j hj => by rw [e, tb_or, tb_one k (by omega) j (by omega)]) hk2 8 (Nat.le_refl _)
      rw [if_pos f'.1] at c
      omega
  have c0 : cntF (tb (fSt co le s0 a b 8).1) 8 = 0 := by have := key 8 (Nat.le_refl _); omega
  left
  apply tb_ext
  intro j hj
  unfold fCan
  rw [tb_and, tb_not hj, tb_0]
  by_cases q : j < 8
  · rw [cnt_0 c0 j q]; simp
  · rw [hco _ j (by omega) hj]; rfl
theorem par_nat : ∀ x, x ≤ 9 → (Int32.ofNat x - Int32.ofNat x / 2 * 2 = 0) = (x % 2 = 0) := by
  have : ∀ x, x ≤ 9 → (Int32.ofNat x - Int32.ofNat x / 2 * 2 = 0 ↔ x % 2 = 0) := by decide +kernel
  exact fun x hx => propext (this x hx)
def fJ (v : Nat → Int32) : Nat → Value
  | 0 => .retAddr 0
  | x + 1 => .int (v x)
theorem fBad_dec {s0 mi md : Int32} {x : Nat} : fBad co le s0 mi md a b x ↔ (fCan co a b x (fSt co le s0 a b x).1 = 0 ∨ md ≤ mi + (fSt co le s0 a b x).2 + le (fFst (fCan co a b x (fSt co le s0 a b x).1))) := Iff.rfl
def fEnd (co le : Nat → Int32) (s0 mi md : Int32) (a b : Nat) : Nat := (kfi (fun x => fCan co a b x (fSt co le s0 a b x).1 = 0 ∨ md ≤ mi + (fSt co le s0 a b x).2 + le (fFst (fCan co a b x (fSt co le s0 a b x).1))) 8 0).getD 8
theorem J_fro (h : IV m i l f t sp) (p q : Int32) : JJ 121 230 [.int p, .int q] i l f t sp := by
  obtain ⟨⟨h5, h91, h8, e9, hle, hp⟩, _, _, hN, _⟩ := id h
  have hNow := IV_now h
  by_cases q0 : pHas (Int32.ofNat m) p = true ∧ pHas (Int32.ofNat m) q = true ∧ ¬ p = q
  · obtain ⟨a, ha, rfl⟩ := kN_has h8 q0.1
    obtain ⟨b, hb, rfl⟩ := kN_has h8 q0.2.1
    have hab : a ≠ b := fun e => q0.2.2 (by rw [e])
    by_cases hw : i 96 18 = Int32.ofNat a
    · refine JJ_n h (-2) i (uPut i) ag_r (ag_uu ag_r) rfl rfl ?_ ?_
      · intro sc d y nx hd L st cu su K
        refine kCA_of (d := d + 499) (v := some (.int _)) (fun K => ?_)
        rw [km_121]
        show kWP sc (d + 499) 121 0 [.ref 0, .int (Int32.ofNat a), .int (Int32.ofNat b), .retAddr 0, .retAddr 0, .retAddr 0, .retAddr 0, .retAddr 0] [] _ K = _
        simp only [e_X10_fro_0, e_X10_fro_1, e_X10_fro_4, e_X10_fro_5, e_X10_fro_6, e_X10_fro_9, e_X10_fro_12, e_X10_fro_13, e_X10_fro_14, e_X10_fro_15, e_X10_fro_18, e_X10_fro_21, e_X10_fro_22, e_X10_fro_25, e_X10_fro_27, e_X10_fro_28, e_X10_fro_29, e_X10_fro_32, e_X10_fro_35, e_X10_fro_36, e_X10_fro_37, e_X10_fro_39, e_X10_fro_40, e_X10_fro_42, e_X10_fro_43, e_X10_fro_47, e_X10_fro_49, e_X10_fro_52, e_X10_fro_53, e_X10_fro_56, e_X10_fro_59, e_X10_fro_61, e_X10_fro_62, e_X10_fro_63, e_X10_fro_66, e_X10_fro_67, e_X10_fro_70, e_X10_fro_71, e_X10_fro_72, e_X10_fro_73, e_X10_fro_74, e_X10_fro_75, e_X10_fro_76, e_X10_fro_79, e_X10_fro_81, e_X10_fro_83, e_X10_fro_84, e_X10_fro_87, e_X10_fro_88, e_X10_fro_91, e_X10_fro_94, e_X10_fro_96, e_X10_fro_97, e_X10_fro_98, e_X10_fro_101, e_X10_fro_104, e_X10_fro_106, e_X10_fro_107, e_X10_fro_108, e_X10_fro_109, e_X10_fro_112, e_X10_fro_115, e_X10_fro_118, e_X10_fro_121, e_X10_fro_122, e_X10_fro_123, e_X10_fro_125, e_X10_fro_126, e_X10_fro_127, e_X10_fro_128, e_X10_fro_130, e_X10_fro_131, e_X10_fro_134, e_X10_fro_137, e_X10_fro_139, e_X10_fro_140, e_X10_fro_141, e_X10_fro_143, e_X10_fro_146, e_X10_fro_149, e_X10_fro_152, e_X10_fro_153, e_X10_fro_156, e_X10_fro_159, e_X10_fro_160, e_X10_fro_163, e_X10_fro_165, e_X10_fro_166, e_X10_fro_169, e_X10_fro_170, e_X10_fro_173, e_X10_fro_175, e_X10_fro_176, e_X10_fro_177, e_X10_fro_180, e_X10_fro_181, e_X10_fro_182, e_X10_fro_185, e_X10_fro_186, e_X10_fro_187, e_X10_fro_190, e_X10_fro_192, ob_0, rk_0_2, ob_5, rk_0_3, ob_10, ob_13, rk_5_3, ar_8, rk_5_4, ar_9, rk_0_1, ob_3, kcl_i, kcl_r, kcl_l, kcl_0, kcl_n, true_and, and_true, c_areTwo, kb_0, h5, q0, not_true_eq_false, not_false_eq_true, and_self, if_false, if_true, hNow.2.1, hw]
      · intro sc d y nx hd L st cu su K
        have h91' : uPut i 91 3 = Int32.ofNat m := h91
        refine kCA_of (d := d + 499) (v := some (.int _)) (fun K => ?_)
        rw [km_230]
        show kWP sc (d + 499) 230 0 [.ref 91, .int (Int32.ofNat a), .int (Int32.ofNat b), .retAddr 0, .retAddr 0, .retAddr 0, .retAddr 0, .retAddr 0, .retAddr 0, .retAddr 0] [] _ K = _
        simp only [e_X11_fro_0, e_X11_fro_1, e_X11_fro_2, e_X11_fro_5, e_X11_fro_6, e_X11_fro_7, e_X11_fro_10, e_X11_fro_13, e_X11_fro_14, e_X11_fro_15, e_X11_fro_18, e_X11_fro_21, e_X11_fro_22, e_X11_fro_23, e_X11_fro_26, e_X11_fro_27, e_X11_fro_28, e_X11_fro_29, e_X11_fro_32, e_X11_fro_34, e_X11_fro_35, e_X11_fro_36, e_X11_fro_39, e_X11_fro_41, e_X11_fro_42, e_X11_fro_43, e_X11_fro_46, e_X11_fro_48, e_X11_fro_49, e_X11_fro_50, e_X11_fro_51, e_X11_fro_53, e_X11_fro_54, e_X11_fro_56, e_X11_fro_57, e_X11_fro_59, e_X11_fro_60, e_X11_fro_64, e_X11_fro_67, e_X11_fro_68, e_X11_fro_70, e_X11_fro_73, e_X11_fro_74, e_X11_fro_75, e_X11_fro_76, e_X11_fro_77, e_X11_fro_79, e_X11_fro_81, e_X11_fro_84, e_X11_fro_85, e_X11_fro_88, e_X11_fro_90, e_X11_fro_92, e_X11_fro_95, e_X11_fro_96, e_X11_fro_99, e_X11_fro_101, e_X11_fro_102, e_X11_fro_104, e_X11_fro_105, e_X11_fro_106, e_X11_fro_109, e_X11_fro_111, e_X11_fro_112, e_X11_fro_113, e_X11_fro_114, e_X11_fro_117, e_X11_fro_119, e_X11_fro_120, e_X11_fro_123, e_X11_fro_124, e_X11_fro_127, e_X11_fro_128, e_X11_fro_130, e_X11_fro_132, e_X11_fro_135, e_X11_fro_138, e_X11_fro_140, e_X11_fro_141, e_X11_fro_144, e_X11_fro_146, e_X11_fro_147, e_X11_fro_148, e_X11_fro_150, e_X11_fro_151, e_X11_fro_152, e_X11_fro_154, e_X11_fro_155, e_X11_fro_156, e_X11_fro_157, e_X11_fro_159, e_X11_fro_160, e_X11_fro_163, e_X11_fro_164, e_X11_fro_167, e_X11_fro_168, e_X11_fro_170, e_X11_fro_173, e_X11_fro_174, e_X11_fro_175, e_X11_fro_178, e_X11_fro_179, e_X11_fro_181, e_X11_fro_182, e_X11_fro_185, e_X11_fro_186, e_X11_fro_188, e_X11_fro_189, e_X11_fro_192, e_X11_fro_194, ob_91, rk_91_8, ar_96, rk_91_5, ar_93, kcl_i, kcl_r, kcl_l, kcl_0, kcl_n, true_and, and_true, uP_0, m_isMan h91' h8, kb_0, q0.1, q0.2.1, q0.2.2, not_true_eq_false, if_false, if_true, u96, ki18, ni18, hw]
    · -- they talk
      have fm : ∀ x, fMan a b x < m := fun x => by unfold fMan; split <;> assumption
      have cB : ∀ a, b8 (mCo i a) := fun a => b8_mCo a
      have can8 : ∀ x s, b8 (fCan (mCo i) a b x s) := fun x s => b8_and (cB _)
      obtain ⟨z, hz⟩ : ∃ z, z = fEnd (mCo i) (i 93) (i 96 17) (i 96 19) (i 96 20) a b := ⟨_, rfl⟩
      have z8 : z ≤ 8 := by
        rw [hz]; unfold fEnd
        exact kfi_getD
      have fmI : ∀ x, x ≤ 8 → (if x % 2 = 0 then Int32.ofNat a else Int32.ofNat b) = Int32.ofNat (fMan a b x) := fun x _ => by unfold fMan; split <;> rfl
      refine JJ_q h (Int32.ofNat z) 2 i (uPut (wPut i 2)) [(fSt (mCo i) (i 93) (i 96 17) a b z).2.toInt64, (Int32.ofNat (fMan a b z)).toInt64] rfl (by decide) ag_r (ag_uu ag_r) rfl ?_ ?_
      · intro sc d y nx hd L st cu su K
        refine kCA_of (d := d + 499) (v := some (.int _)) (fun K => ?_)
        rw [km_121]
        show kWP sc (d + 499) 121 0 [.ref 0, .int (Int32.ofNat a), .int (Int32.ofNat b), .retAddr 0, .retAddr 0, .retAddr 0, .retAddr 0, .retAddr 0] [] _ K = _
        simp only [e_X10_fro_0, e_X10_fro_1, e_X10_fro_4, e_X10_fro_5, e_X10_fro_6, e_X10_fro_9, e_X10_fro_12, e_X10_fro_13, e_X10_fro_14, e_X10_fro_15, e_X10_fro_18, e_X10_fro_21, e_X10_fro_22, e_X10_fro_25, e_X10_fro_27, e_X10_fro_28, e_X10_fro_29, e_X10_fro_32, e_X10_fro_35, e_X10_fro_36, e_X10_fro_37, e_X10_fro_39, e_X10_fro_40, e_X10_fro_42, e_X10_fro_43, e_X10_fro_47, e_X10_fro_49, e_X10_fro_52, e_X10_fro_53, e_X10_fro_56, e_X10_fro_59, e_X10_fro_61, e_X10_fro_62, e_X10_fro_63, e_X10_fro_66, e_X10_fro_67, e_X10_fro_70, e_X10_fro_71, e_X10_fro_72, e_X10_fro_73, e_X10_fro_74, e_X10_fro_75, e_X10_fro_76, e_X10_fro_79, e_X10_fro_81, e_X10_fro_83, e_X10_fro_84, e_X10_fro_87, e_X10_fro_88, e_X10_fro_91, e_X10_fro_94, e_X10_fro_96, e_X10_fro_97, e_X10_fro_98, e_X10_fro_101, e_X10_fro_104, e_X10_fro_106, e_X10_fro_107, e_X10_fro_108, e_X10_fro_109, e_X10_fro_112, e_X10_fro_115, e_X10_fro_118, e_X10_fro_121, e_X10_fro_122, e_X10_fro_123, e_X10_fro_125, e_X10_fro_126, e_X10_fro_127, e_X10_fro_128, e_X10_fro_130, e_X10_fro_131, e_X10_fro_134, e_X10_fro_137, e_X10_fro_139, e_X10_fro_140, e_X10_fro_141, e_X10_fro_143, e_X10_fro_146, e_X10_fro_149, e_X10_fro_152, e_X10_fro_153, e_X10_fro_156, e_X10_fro_159, e_X10_fro_160, e_X10_fro_163, e_X10_fro_165, e_X10_fro_166, e_X10_fro_169, e_X10_fro_170, e_X10_fro_173, e_X10_fro_175, e_X10_fro_176, e_X10_fro_177, e_X10_fro_180, e_X10_fro_181, e_X10_fro_182, e_X10_fro_185, e_X10_fro_186, e_X10_fro_187, e_X10_fro_190, e_X10_fro_192, ob_0, rk_0_2, ob_5, rk_0_3, ob_10, ob_13, rk_5_3, ar_8, rk_5_4, ar_9, rk_0_1, ob_3, kcl_i, kcl_r, kcl_l, kcl_0, kcl_n, true_and, and_true, c_areTwo, kb_0, h5, q0, not_true_eq_false, not_false_eq_true, and_self, if_false, if_true, hNow.2.1, hNow.1, hw]
        refine (k_findn (P := fun x => kWP sc (d + 499) 121 45 [.ref 0, .int (Int32.ofNat a), .int (Int32.ofNat b), .int (fSt (mCo i) (i 93) (i 96 17) a b x).1, .int (fSt (mCo i) (i 93) (i 96 17) a b x).2, .int (Int32.ofNat x), .int (Int32.ofNat x), fJ (fun x => Int32.ofNat (fFst (fCan (mCo i) a b x (fSt (mCo i) (i 93) (i 96 17) a b x).1))) x] [] ((120, cu, su), i, l, kR f t sp) K) (Q := fun x => K (some (some (.int (Int32.ofNat x)))) ((120, cu, su), wPut i 2, tC l 0 [(fSt (mCo i) (i 93) (i 96 17) a b x).2.toInt64, (Int32.ofNat (fMan a b x)).toInt64], kR f t sp)) (p := fun x => fCan (mCo i) a b x (fSt (mCo i) (i 93) (i 96 17) a b x).1 = 0 ∨ i 96 20 ≤ i 96 19 + (fSt (mCo i) (i 93) (i 96 17) a b x).2 + i 93 (fFst (fCan (mCo i) a b x (fSt (mCo i) (i 93) (i 96 17) a b x).1))) (n := 8) ?_ ?_).trans ?_
        · intro x hx
          have pe := par_nat x (by omega)
          have eco : i 8 (fMan a b x) &&& ((fSt (mCo i) (i 93) (i 96 17) a b x).1 ^^^ (-1)) = fCan (mCo i) a b x (fSt (mCo i) (i 93) (i 96 17) a b x).1 := by rw [(hp _ (fm x)).2.2]; rfl
          have fin : ∀ J : Value, kWP sc (d + 499) 121 152 [.ref 0, .int (Int32.ofNat a), .int (Int32.ofNat b), .int (fSt (mCo i) (i 93) (i 96 17) a b x).1, .int (fSt (mCo i) (i 93) (i 96 17) a b x).2, .int (Int32.ofNat x), .int (Int32.ofNat x), J] [] ((120, cu, su), i, l, kR f t sp) K = K (some (some (.int (Int32.ofNat x)))) ((120, cu, su), wPut i 2, tC l 0 [(fSt (mCo i) (i 93) (i 96 17) a b x).2.toInt64, (Int32.ofNat (fMan a b x)).toInt64], kR f t sp) := by
            intro J
            simp only [e_X10_fro_0, e_X10_fro_1, e_X10_fro_4, e_X10_fro_5, e_X10_fro_6, e_X10_fro_9, e_X10_fro_12, e_X10_fro_13, e_X10_fro_14, e_X10_fro_15, e_X10_fro_18, e_X10_fro_21, e_X10_fro_22, e_X10_fro_25, e_X10_fro_27, e_X10_fro_28, e_X10_fro_29, e_X10_fro_32, e_X10_fro_35, e_X10_fro_36, e_X10_fro_37, e_X10_fro_39, e_X10_fro_40, e_X10_fro_42, e_X10_fro_43, e_X10_fro_47, e_X10_fro_49, e_X10_fro_52, e_X10_fro_53, e_X10_fro_56, e_X10_fro_59, e_X10_fro_61, e_X10_fro_62, e_X10_fro_63, e_X10_fro_66, e_X10_fro_67, e_X10_fro_70, e_X10_fro_71, e_X10_fro_72, e_X10_fro_73, e_X10_fro_74, e_X10_fro_75, e_X10_fro_76, e_X10_fro_79, e_X10_fro_81, e_X10_fro_83, e_X10_fro_84, e_X10_fro_87, e_X10_fro_88, e_X10_fro_91, e_X10_fro_94, e_X10_fro_96, e_X10_fro_97, e_X10_fro_98, e_X10_fro_101, e_X10_fro_104, e_X10_fro_106, e_X10_fro_107, e_X10_fro_108, e_X10_fro_109, e_X10_fro_112, e_X10_fro_115, e_X10_fro_118, e_X10_fro_121, e_X10_fro_122, e_X10_fro_123, e_X10_fro_125, e_X10_fro_126, e_X10_fro_127, e_X10_fro_128, e_X10_fro_130, e_X10_fro_131, e_X10_fro_134, e_X10_fro_137, e_X10_fro_139, e_X10_fro_140, e_X10_fro_141, e_X10_fro_143, e_X10_fro_146, e_X10_fro_149, e_X10_fro_152, e_X10_fro_153, e_X10_fro_156, e_X10_fro_159, e_X10_fro_160, e_X10_fro_163, e_X10_fro_165, e_X10_fro_166, e_X10_fro_169, e_X10_fro_170, e_X10_fro_173, e_X10_fro_175, e_X10_fro_176, e_X10_fro_177, e_X10_fro_180, e_X10_fro_181, e_X10_fro_182, e_X10_fro_185, e_X10_fro_186, e_X10_fro_187, e_X10_fro_190, e_X10_fro_192, ob_0, rk_0_2, ob_5, rk_0_3, ob_10, ob_13, rk_5_3, ar_8, rk_5_4, ar_9, rk_0_1, ob_3, kcl_i, kcl_r, kcl_l, kcl_0, kcl_n, true_and, and_true, c_start, c_radd (show 0 < 128 by decide), two_ne, pe]
            unfold fMan
            by_cases q1 : x % 2 = 0
            · simp only [q1, if_true, c_radd (show 0 + 1 < 128 by decide), e_X10_fro_0, e_X10_fro_1, e_X10_fro_4, e_X10_fro_5, e_X10_fro_6, e_X10_fro_9, e_X10_fro_12, e_X10_fro_13, e_X10_fro_14, e_X10_fro_15, e_X10_fro_18, e_X10_fro_21, e_X10_fro_22, e_X10_fro_25, e_X10_fro_27, e_X10_fro_28, e_X10_fro_29, e_X10_fro_32, e_X10_fro_35, e_X10_fro_36, e_X10_fro_37, e_X10_fro_39, e_X10_fro_40, e_X10_fro_42, e_X10_fro_43, e_X10_fro_47, e_X10_fro_49, e_X10_fro_52, e_X10_fro_53, e_X10_fro_56, e_X10_fro_59, e_X10_fro_61, e_X10_fro_62, e_X10_fro_63, e_X10_fro_66, e_X10_fro_67, e_X10_fro_70, e_X10_fro_71, e_X10_fro_72, e_X10_fro_73, e_X10_fro_74, e_X10_fro_75, e_X10_fro_76, e_X10_fro_79, e_X10_fro_81, e_X10_fro_83, e_X10_fro_84, e_X10_fro_87, e_X10_fro_88, e_X10_fro_91, e_X10_fro_94, e_X10_fro_96, e_X10_fro_97, e_X10_fro_98, e_X10_fro_101, e_X10_fro_104, e_X10_fro_106, e_X10_fro_107, e_X10_fro_108, e_X10_fro_109, e_X10_fro_112, e_X10_fro_115, e_X10_fro_118, e_X10_fro_121, e_X10_fro_122, e_X10_fro_123, e_X10_fro_125, e_X10_fro_126, e_X10_fro_127, e_X10_fro_128, e_X10_fro_130, e_X10_fro_131, e_X10_fro_134, e_X10_fro_137, e_X10_fro_139, e_X10_fro_140, e_X10_fro_141, e_X10_fro_143, e_X10_fro_146, e_X10_fro_149, e_X10_fro_152, e_X10_fro_153, e_X10_fro_156, e_X10_fro_159, e_X10_fro_160, e_X10_fro_163, e_X10_fro_165, e_X10_fro_166, e_X10_fro_169, e_X10_fro_170, e_X10_fro_173, e_X10_fro_175, e_X10_fro_176, e_X10_fro_177, e_X10_fro_180, e_X10_fro_181, e_X10_fro_182, e_X10_fro_185, e_X10_fro_186, e_X10_fro_187, e_X10_fro_190, e_X10_fro_192, ob_0, rk_0_2, ob_5, rk_0_3, ob_10, ob_13, rk_5_3, ar_8, rk_5_4, ar_9, rk_0_1, ob_3, kcl_i, kcl_r, kcl_l, kcl_0, kcl_n, true_and, and_true]; rfl
            · simp only [q1, if_false, c_radd (show 0 + 1 < 128 by decide), e_X10_fro_0, e_X10_fro_1, e_X10_fro_4, e_X10_fro_5, e_X10_fro_6, e_X10_fro_9, e_X10_fro_12, e_X10_fro_13, e_X10_fro_14, e_X10_fro_15, e_X10_fro_18, e_X10_fro_21, e_X10_fro_22, e_X10_fro_25, e_X10_fro_27, e_X10_fro_28, e_X10_fro_29, e_X10_fro_32, e_X10_fro_35, e_X10_fro_36, e_X10_fro_37, e_X10_fro_39, e_X10_fro_40, e_X10_fro_42, e_X10_fro_43, e_X10_fro_47, e_X10_fro_49, e_X10_fro_52, e_X10_fro_53, e_X10_fro_56, e_X10_fro_59, e_X10_fro_61, e_X10_fro_62, e_X10_fro_63, e_X10_fro_66, e_X10_fro_67, e_X10_fro_70, e_X10_fro_71, e_X10_fro_72, e_X10_fro_73, e_X10_fro_74, e_X10_fro_75, e_X10_fro_76, e_X10_fro_79, e_X10_fro_81, e_X10_fro_83, e_X10_fro_84, e_X10_fro_87, e_X10_fro_88, e_X10_fro_91, e_X10_fro_94, e_X10_fro_96, e_X10_fro_97, e_X10_fro_98, e_X10_fro_101, e_X10_fro_104, e_X10_fro_106, e_X10_fro_107, e_X10_fro_108, e_X10_fro_109, e_X10_fro_112, e_X10_fro_115, e_X10_fro_118, e_X10_fro_121, e_X10_fro_122, e_X10_fro_123, e_X10_fro_125, e_X10_fro_126, e_X10_fro_127, e_X10_fro_128, e_X10_fro_130, e_X10_fro_131, e_X10_fro_134, e_X10_fro_137, e_X10_fro_139, e_X10_fro_140, e_X10_fro_141, e_X10_fro_143, e_X10_fro_146, e_X10_fro_149, e_X10_fro_152, e_X10_fro_153, e_X10_fro_156, e_X10_fro_159, e_X10_fro_160, e_X10_fro_163, e_X10_fro_165, e_X10_fro_166, e_X10_fro_169, e_X10_fro_170, e_X10_fro_173, e_X10_fro_175, e_X10_fro_176, e_X10_fro_177, e_X10_fro_180, e_X10_fro_181, e_X10_fro_182, e_X10_fro_185, e_X10_fro_186, e_X10_fro_187, e_X10_fro_190, e_X10_fro_192, ob_0, rk_0_2, ob_5, rk_0_3, ob_10, ob_13, rk_5_3, ar_8, rk_5_4, ar_9, rk_0_1, ob_3, kcl_i, kcl_r, kcl_l, kcl_0, kcl_n, true_and, and_true]; rfl
          have mid : ∀ cc, cc = fMan a b x → kWP sc (d + 499) 121 71 [.ref 0, .int (Int32.ofNat a), .int (Int32.ofNat b), .int (fSt (mCo i) (i 93) (i 96 17) a b x).1, .int (fSt (mCo i) (i 93) (i 96 17) a b x).2, .int (Int32.ofNat x), .int (Int32.ofNat x), fJ (fun x => Int32.ofNat (fFst (fCan (mCo i) a b x (fSt (mCo i) (i 93) (i 96 17) a b x).1))) x] [.int (Int32.ofNat cc), .ref 8] ((120, cu, su), i, l, kR f t sp) K = if fCan (mCo i) a b x (fSt (mCo i) (i 93) (i 96 17) a b x).1 = 0 ∨ i 96 20 ≤ i 96 19 + (fSt (mCo i) (i 93) (i 96 17) a b x).2 + i 93 (fFst (fCan (mCo i) a b x (fSt (mCo i) (i 93) (i 96 17) a b x).1)) then K (some (some (.int (Int32.ofNat x)))) ((120, cu, su), wPut i 2, tC l 0 [(fSt (mCo i) (i 93) (i 96 17) a b x).2.toInt64, (Int32.ofNat (fMan a b x)).toInt64], kR f t sp) else kWP sc (d + 499) 121 45 [.ref 0, .int (Int32.ofNat a), .int (Int32.ofNat b), .int (fSt (mCo i) (i 93) (i 96 17) a b (x + 1)).1, .int (fSt (mCo i) (i 93) (i 96 17) a b (x + 1)).2, .int (Int32.ofNat (x + 1)), .int (Int32.ofNat (x + 1)), fJ (fun x => Int32.ofNat (fFst (fCan (mCo i) a b x (fSt (mCo i) (i 93) (i 96 17) a b x).1))) (x + 1)] [] ((120, cu, su), i, l, kR f t sp) K := by
            intro cc hcc
            subst hcc
            have fx := fm x
            simp only [e_X10_fro_0, e_X10_fro_1, e_X10_fro_4, e_X10_fro_5, e_X10_fro_6, e_X10_fro_9, e_X10_fro_12, e_X10_fro_13, e_X10_fro_14, e_X10_fro_15, e_X10_fro_18, e_X10_fro_21, e_X10_fro_22, e_X10_fro_25, e_X10_fro_27, e_X10_fro_28, e_X10_fro_29, e_X10_fro_32, e_X10_fro_35, e_X10_fro_36, e_X10_fro_37, e_X10_fro_39, e_X10_fro_40, e_X10_fro_42, e_X10_fro_43, e_X10_fro_47, e_X10_fro_49, e_X10_fro_52, e_X10_fro_53, e_X10_fro_56, e_X10_fro_59, e_X10_fro_61, e_X10_fro_62, e_X10_fro_63, e_X10_fro_66, e_X10_fro_67, e_X10_fro_70, e_X10_fro_71, e_X10_fro_72, e_X10_fro_73, e_X10_fro_74, e_X10_fro_75, e_X10_fro_76, e_X10_fro_79, e_X10_fro_81, e_X10_fro_83, e_X10_fro_84, e_X10_fro_87, e_X10_fro_88, e_X10_fro_91, e_X10_fro_94, e_X10_fro_96, e_X10_fro_97, e_X10_fro_98, e_X10_fro_101, e_X10_fro_104, e_X10_fro_106, e_X10_fro_107, e_X10_fro_108, e_X10_fro_109, e_X10_fro_112, e_X10_fro_115, e_X10_fro_118, e_X10_fro_121, e_X10_fro_122, e_X10_fro_123, e_X10_fro_125, e_X10_fro_126, e_X10_fro_127, e_X10_fro_128, e_X10_fro_130, e_X10_fro_131, e_X10_fro_134, e_X10_fro_137, e_X10_fro_139, e_X10_fro_140, e_X10_fro_141, e_X10_fro_143, e_X10_fro_146, e_X10_fro_149, e_X10_fro_153, e_X10_fro_156, e_X10_fro_159, e_X10_fro_160, e_X10_fro_163, e_X10_fro_165, e_X10_fro_166, e_X10_fro_169, e_X10_fro_170, e_X10_fro_173, e_X10_fro_175, e_X10_fro_176, e_X10_fro_177, e_X10_fro_180, e_X10_fro_181, e_X10_fro_182, e_X10_fro_185, e_X10_fro_186, e_X10_fro_187, e_X10_fro_190, e_X10_fro_192, ob_0, rk_0_2, ob_5, rk_0_3, ob_10, ob_13, rk_5_3, ar_8, rk_5_4, ar_9, rk_0_1, ob_3, kcl_i, kcl_r, kcl_l, kcl_0, kcl_n, true_and, and_true, kin8 (show fMan a b x < 8 by omega), cl_n (show fMan a b x < 100000 by omega), eco, c_firstOf]
            by_cases q1 : fCan (mCo i) a b x (fSt (mCo i) (i 93) (i 96 17) a b x).1 = 0
            · simp only [q1, pFirst_0, if_true, true_or]
              exact fin _
            · have fo := fst_of (can8 x _) q1
              have nm : ¬ Int32.ofNat (fFst (fCan (mCo i) a b x (fSt (mCo i) (i 93) (i 96 17) a b x).1)) = -1 := m1_ne (by omega)
              simp only [q1, fo.2.1, nm, if_false, hNow.2.2.1, hNow.2.2.2.1, e9, kin8 fo.1, cl_n (show fFst (fCan (mCo i) a b x (fSt (mCo i) (i 93) (i 96 17) a b x).1) < 100000 by omega), false_or, tn_s, true_and]
              by_cases q2 : i 96 20 ≤ i 96 19 + (fSt (mCo i) (i 93) (i 96 17) a b x).2 + i 93 (fFst (fCan (mCo i) a b x (fSt (mCo i) (i 93) (i 96 17) a b x).1))
              · have q3 : ¬ i 96 19 + (fSt (mCo i) (i 93) (i 96 17) a b x).2 + i 93 (fFst (fCan (mCo i) a b x (fSt (mCo i) (i 93) (i 96 17) a b x).1)) < i 96 20 := Int32.not_lt.2 q2
                simp only [q2, q3, if_true, if_false]
                exact fin _
              · have q3 : i 96 19 + (fSt (mCo i) (i 93) (i 96 17) a b x).2 + i 93 (fFst (fCan (mCo i) a b x (fSt (mCo i) (i 93) (i 96 17) a b x).1)) < i 96 20 := Int32.not_le.1 q2
                simp only [q2, q3, if_true, if_false]
                rfl
          refine e_X10_fro_45.trans ?_
          simp only [e_X10_fro_0, e_X10_fro_1, e_X10_fro_4, e_X10_fro_5, e_X10_fro_6, e_X10_fro_9, e_X10_fro_12, e_X10_fro_13, e_X10_fro_14, e_X10_fro_15, e_X10_fro_18, e_X10_fro_21, e_X10_fro_22, e_X10_fro_25, e_X10_fro_27, e_X10_fro_28, e_X10_fro_29, e_X10_fro_32, e_X10_fro_35, e_X10_fro_36, e_X10_fro_37, e_X10_fro_39, e_X10_fro_40, e_X10_fro_42, e_X10_fro_43, e_X10_fro_47, e_X10_fro_49, e_X10_fro_52, e_X10_fro_53, e_X10_fro_56, e_X10_fro_59, e_X10_fro_61, e_X10_fro_62, e_X10_fro_63, e_X10_fro_66, e_X10_fro_67, e_X10_fro_70, e_X10_fro_72, e_X10_fro_73, e_X10_fro_74, e_X10_fro_75, e_X10_fro_76, e_X10_fro_79, e_X10_fro_81, e_X10_fro_83, e_X10_fro_84, e_X10_fro_87, e_X10_fro_88, e_X10_fro_91, e_X10_fro_94, e_X10_fro_96, e_X10_fro_97, e_X10_fro_98, e_X10_fro_101, e_X10_fro_104, e_X10_fro_106, e_X10_fro_107, e_X10_fro_108, e_X10_fro_109, e_X10_fro_112, e_X10_fro_115, e_X10_fro_118, e_X10_fro_121, e_X10_fro_122, e_X10_fro_123, e_X10_fro_125, e_X10_fro_126, e_X10_fro_127, e_X10_fro_128, e_X10_fro_130, e_X10_fro_131, e_X10_fro_134, e_X10_fro_137, e_X10_fro_139, e_X10_fro_140, e_X10_fro_141, e_X10_fro_143, e_X10_fro_146, e_X10_fro_149, e_X10_fro_152, e_X10_fro_153, e_X10_fro_156, e_X10_fro_159, e_X10_fro_160, e_X10_fro_163, e_X10_fro_165, e_X10_fro_166, e_X10_fro_169, e_X10_fro_170, e_X10_fro_173, e_X10_fro_175, e_X10_fro_176, e_X10_fro_177, e_X10_fro_180, e_X10_fro_181, e_X10_fro_182, e_X10_fro_185, e_X10_fro_186, e_X10_fro_187, e_X10_fro_190, e_X10_fro_192, ob_0, rk_0_2, ob_5, rk_0_3, ob_10, ob_13, rk_5_3, ar_8, rk_5_4, ar_9, rk_0_1, ob_3, kcl_i, kcl_r, kcl_l, kcl_0, kcl_n, true_and, and_true, jp8 hx, if_false, two_ne, pe, true_and]
          by_cases q1 : x % 2 = 0
          · rw [if_pos q1]; exact mid a (by unfold fMan; rw [if_pos q1])
          · rw [if_neg q1]; exact mid b (by unfold fMan; rw [if_neg q1])
        · have pe := par_nat 8 (by decide)
          refine e_X10_fro_45.trans ?_
          simp only [e_X10_fro_0, e_X10_fro_1, e_X10_fro_4, e_X10_fro_5, e_X10_fro_6, e_X10_fro_9, e_X10_fro_12, e_X10_fro_13, e_X10_fro_14, e_X10_fro_15, e_X10_fro_18, e_X10_fro_21, e_X10_fro_22, e_X10_fro_25, e_X10_fro_27, e_X10_fro_28, e_X10_fro_29, e_X10_fro_32, e_X10_fro_35, e_X10_fro_36, e_X10_fro_37, e_X10_fro_39, e_X10_fro_40, e_X10_fro_42, e_X10_fro_43, e_X10_fro_47, e_X10_fro_49, e_X10_fro_52, e_X10_fro_53, e_X10_fro_56, e_X10_fro_59, e_X10_fro_61, e_X10_fro_62, e_X10_fro_63, e_X10_fro_66, e_X10_fro_67, e_X10_fro_70, e_X10_fro_71, e_X10_fro_72, e_X10_fro_73, e_X10_fro_74, e_X10_fro_75, e_X10_fro_76, e_X10_fro_79, e_X10_fro_81, e_X10_fro_83, e_X10_fro_84, e_X10_fro_87, e_X10_fro_88, e_X10_fro_91, e_X10_fro_94, e_X10_fro_96, e_X10_fro_97, e_X10_fro_98, e_X10_fro_101, e_X10_fro_104, e_X10_fro_106, e_X10_fro_107, e_X10_fro_108, e_X10_fro_109, e_X10_fro_112, e_X10_fro_115, e_X10_fro_118, e_X10_fro_121, e_X10_fro_122, e_X10_fro_123, e_X10_fro_125, e_X10_fro_126, e_X10_fro_127, e_X10_fro_128, e_X10_fro_130, e_X10_fro_131, e_X10_fro_134, e_X10_fro_137, e_X10_fro_139, e_X10_fro_140, e_X10_fro_141, e_X10_fro_143, e_X10_fro_146, e_X10_fro_149, e_X10_fro_152, e_X10_fro_153, e_X10_fro_156, e_X10_fro_159, e_X10_fro_160, e_X10_fro_163, e_X10_fro_165, e_X10_fro_166, e_X10_fro_169, e_X10_fro_170, e_X10_fro_173, e_X10_fro_175, e_X10_fro_176, e_X10_fro_177, e_X10_fro_180, e_X10_fro_181, e_X10_fro_182, e_X10_fro_185, e_X10_fro_186, e_X10_fro_187, e_X10_fro_190, e_X10_fro_192, ob_0, rk_0_2, ob_5, rk_0_3, ob_10, ob_13, rk_5_3, ar_8, rk_5_4, ar_9, rk_0_1, ob_3, kcl_i, kcl_r, kcl_l, kcl_0, kcl_n, true_and, and_true, jp88, if_true, c_start, c_radd (show 0 < 128 by decide), two_ne, pe, show (8 % 2 = 0) = True from eq_true (by decide), c_radd (show 0 + 1 < 128 by decide)]
          rfl
        · rw [hz]; rfl
      · intro sc d y nx hd L st cu su K
        have h91' : uPut (wPut i 2) 91 3 = Int32.ofNat m := h91
        generalize hl' : tC l 0 [(fSt (mCo i) (i 93) (i 96 17) a b z).2.toInt64, (Int32.ofNat (fMan a b z)).toInt64] = l'
        refine kCA_of (d := d + 499) (v := some (.int _)) (fun K => ?_)
        rw [km_230]
        show kWP sc (d + 499) 230 0 [.ref 91, .int (Int32.ofNat a), .int (Int32.ofNat b), .retAddr 0, .retAddr 0, .retAddr 0, .retAddr 0, .retAddr 0, .retAddr 0, .retAddr 0] [] _ K = _
        simp only [e_X11_fro_0, e_X11_fro_1, e_X11_fro_2, e_X11_fro_5, e_X11_fro_6, e_X11_fro_7, e_X11_fro_10, e_X11_fro_13, e_X11_fro_14, e_X11_fro_15, e_X11_fro_18, e_X11_fro_21, e_X11_fro_22, e_X11_fro_23, e_X11_fro_26, e_X11_fro_27, e_X11_fro_28, e_X11_fro_29, e_X11_fro_32, e_X11_fro_34, e_X11_fro_35, e_X11_fro_36, e_X11_fro_39, e_X11_fro_41, e_X11_fro_42, e_X11_fro_43, e_X11_fro_46, e_X11_fro_48, e_X11_fro_49, e_X11_fro_50, e_X11_fro_51, e_X11_fro_53, e_X11_fro_54, e_X11_fro_56, e_X11_fro_57, e_X11_fro_59, e_X11_fro_60, e_X11_fro_64, e_X11_fro_67, e_X11_fro_68, e_X11_fro_70, e_X11_fro_73, e_X11_fro_74, e_X11_fro_75, e_X11_fro_76, e_X11_fro_77, e_X11_fro_79, e_X11_fro_81, e_X11_fro_84, e_X11_fro_85, e_X11_fro_88, e_X11_fro_90, e_X11_fro_92, e_X11_fro_95, e_X11_fro_96, e_X11_fro_99, e_X11_fro_101, e_X11_fro_102, e_X11_fro_104, e_X11_fro_105, e_X11_fro_106, e_X11_fro_109, e_X11_fro_111, e_X11_fro_112, e_X11_fro_113, e_X11_fro_114, e_X11_fro_117, e_X11_fro_119, e_X11_fro_120, e_X11_fro_123, e_X11_fro_124, e_X11_fro_127, e_X11_fro_128, e_X11_fro_130, e_X11_fro_132, e_X11_fro_135, e_X11_fro_138, e_X11_fro_140, e_X11_fro_141, e_X11_fro_144, e_X11_fro_146, e_X11_fro_147, e_X11_fro_148, e_X11_fro_150, e_X11_fro_151, e_X11_fro_152, e_X11_fro_154, e_X11_fro_155, e_X11_fro_156, e_X11_fro_157, e_X11_fro_159, e_X11_fro_160, e_X11_fro_163, e_X11_fro_164, e_X11_fro_167, e_X11_fro_168, e_X11_fro_170, e_X11_fro_173, e_X11_fro_174, e_X11_fro_175, e_X11_fro_178, e_X11_fro_179, e_X11_fro_181, e_X11_fro_182, e_X11_fro_185, e_X11_fro_186, e_X11_fro_188, e_X11_fro_189, e_X11_fro_192, e_X11_fro_194, ob_91, rk_91_8, ar_96, rk_91_5, ar_93, kcl_i, kcl_r, kcl_l, kcl_0, kcl_n, true_and, and_true, uP_0, m_isMan h91' h8, kb_0, q0.1, q0.2.1, q0.2.2, not_true_eq_false, if_false, if_true, u96, w96, ki18, ni18, ki17, ni17, hw]
        have F := k_find (P := fun x => kWP sc (d + 499) 230 62 [.ref 91, .int (Int32.ofNat a), .int (Int32.ofNat b), .int (fSt (mCo i) (i 93) (i 96 17) a b x).1, .int (Int32.ofNat (fMan a b x)), .int (Int32.ofNat x), .int (fSt (mCo i) (i 93) (i 96 17) a b x).2, .int 1, fJ (fun x => fCan (mCo i) a b x (fSt (mCo i) (i 93) (i 96 17) a b x).1) x, fJ (fun x => if fCan (mCo i) a b x (fSt (mCo i) (i 93) (i 96 17) a b x).1 = 0 then 8 else Int32.ofNat (fFst (fCan (mCo i) a b x (fSt (mCo i) (i 93) (i 96 17) a b x).1))) x] [] ((120, cu, su), uPut (wPut i 2), l', kR f t sp) K) (Q := fun x => K (some (some (.int (Int32.ofNat x)))) ((120, cu, su), vPut (uPut (wPut i 2)) 2, tR l' 0 [(fSt (mCo i) (i 93) (i 96 17) a b x).2.toInt64, (Int32.ofNat (fMan a b x)).toInt64], kR f t sp)) (p := fun x => fCan (mCo i) a b x (fSt (mCo i) (i 93) (i 96 17) a b x).1 = 0 ∨ i 96 20 ≤ i 96 19 + (fSt (mCo i) (i 93) (i 96 17) a b x).2 + i 93 (fFst (fCan (mCo i) a b x (fSt (mCo i) (i 93) (i 96 17) a b x).1))) (n := 9) ?_
        · have k9 : kfi (fun x => fCan (mCo i) a b x (fSt (mCo i) (i 93) (i 96 17) a b x).1 = 0 ∨ i 96 20 ≤ i 96 19 + (fSt (mCo i) (i 93) (i 96 17) a b x).2 + i 93 (fFst (fCan (mCo i) a b x (fSt (mCo i) (i 93) (i 96 17) a b x).1))) 9 0 = some z := by
            rw [kfi_snoc, hz]
            unfold fEnd
            cases hk : kfi (fun x => fCan (mCo i) a b x (fSt (mCo i) (i 93) (i 96 17) a b x).1 = 0 ∨ i 96 20 ≤ i 96 19 + (fSt (mCo i) (i 93) (i 96 17) a b x).2 + i 93 (fFst (fCan (mCo i) a b x (fSt (mCo i) (i 93) (i 96 17) a b x).1))) 8 0 with
            | some y => rfl
            | none =>
              have e8 := fro_end (a := a) (b := b) (le := i 93) (s0 := i 96 17) (mi := i 96 19) (md := i 96 20) cB (fun x hx => kfi_none hk x (Nat.zero_le _) (by omega))
              show (if _ then some (0 + 8) else none) = some 8
              rw [if_pos (by rw [Nat.zero_add]; exact e8)]
          rw [k9] at F
          exact F
        · intro x hx
          have fx := fm x
          have c8 := can8 x (fSt (mCo i) (i 93) (i 96 17) a b x).1
          have eco : pAble (i 93) (i 94 (fMan a b x)) (i 95 (fMan a b x)) &&& ((fSt (mCo i) (i 93) (i 96 17) a b x).1 ^^^ (-1)) = fCan (mCo i) a b x (fSt (mCo i) (i 93) (i 96 17) a b x).1 := rfl
          have fin : ∀ J1 J2 : Value, kWP sc (d + 499) 230 62 [.ref 91, .int (Int32.ofNat a), .int (Int32.ofNat b), .int (fSt (mCo i) (i 93) (i 96 17) a b x).1, .int (Int32.ofNat (fMan a b x)), .int (Int32.ofNat x), .int (fSt (mCo i) (i 93) (i 96 17) a b x).2, .int 0, J1, J2] [] ((120, cu, su), uPut (wPut i 2), l', kR f t sp) K = K (some (some (.int (Int32.ofNat x)))) ((120, cu, su), vPut (uPut (wPut i 2)) 2, tR l' 0 [(fSt (mCo i) (i 93) (i 96 17) a b x).2.toInt64, (Int32.ofNat (fMan a b x)).toInt64], kR f t sp) := by
            intro J1 J2
            refine e_X11_fro_62.trans ?_
            simp only [e_X11_fro_0, e_X11_fro_1, e_X11_fro_2, e_X11_fro_5, e_X11_fro_6, e_X11_fro_7, e_X11_fro_10, e_X11_fro_13, e_X11_fro_14, e_X11_fro_15, e_X11_fro_18, e_X11_fro_21, e_X11_fro_22, e_X11_fro_23, e_X11_fro_26, e_X11_fro_27, e_X11_fro_28, e_X11_fro_29, e_X11_fro_32, e_X11_fro_34, e_X11_fro_35, e_X11_fro_36, e_X11_fro_39, e_X11_fro_41, e_X11_fro_42, e_X11_fro_43, e_X11_fro_46, e_X11_fro_48, e_X11_fro_49, e_X11_fro_50, e_X11_fro_51, e_X11_fro_53, e_X11_fro_54, e_X11_fro_56, e_X11_fro_57, e_X11_fro_59, e_X11_fro_60, e_X11_fro_64, e_X11_fro_67, e_X11_fro_68, e_X11_fro_70, e_X11_fro_73, e_X11_fro_74, e_X11_fro_75, e_X11_fro_76, e_X11_fro_77, e_X11_fro_79, e_X11_fro_81, e_X11_fro_84, e_X11_fro_85, e_X11_fro_88, e_X11_fro_90, e_X11_fro_92, e_X11_fro_95, e_X11_fro_96, e_X11_fro_99, e_X11_fro_101, e_X11_fro_102, e_X11_fro_104, e_X11_fro_105, e_X11_fro_106, e_X11_fro_109, e_X11_fro_111, e_X11_fro_112, e_X11_fro_113, e_X11_fro_114, e_X11_fro_117, e_X11_fro_119, e_X11_fro_120, e_X11_fro_123, e_X11_fro_124, e_X11_fro_127, e_X11_fro_128, e_X11_fro_130, e_X11_fro_132, e_X11_fro_135, e_X11_fro_138, e_X11_fro_140, e_X11_fro_141, e_X11_fro_144, e_X11_fro_146, e_X11_fro_147, e_X11_fro_148, e_X11_fro_150, e_X11_fro_151, e_X11_fro_152, e_X11_fro_154, e_X11_fro_155, e_X11_fro_156, e_X11_fro_157, e_X11_fro_159, e_X11_fro_160, e_X11_fro_163, e_X11_fro_164, e_X11_fro_167, e_X11_fro_168, e_X11_fro_170, e_X11_fro_173, e_X11_fro_174, e_X11_fro_175, e_X11_fro_178, e_X11_fro_179, e_X11_fro_181, e_X11_fro_182, e_X11_fro_185, e_X11_fro_186, e_X11_fro_188, e_X11_fro_189, e_X11_fro_192, e_X11_fro_194, ob_91, rk_91_8, ar_96, rk_91_5, ar_93, kcl_i, kcl_r, kcl_l, kcl_0, kcl_n, true_and, and_true, if_true, vP_0, m_enters (show 0 < 256 by decide), m_enters (show 0 + 1 < 256 by decide)]
            rfl
          refine e_X11_fro_62.trans ?_
          simp only [e_X11_fro_0, e_X11_fro_1, e_X11_fro_2, e_X11_fro_5, e_X11_fro_6, e_X11_fro_7, e_X11_fro_10, e_X11_fro_13, e_X11_fro_14, e_X11_fro_15, e_X11_fro_18, e_X11_fro_21, e_X11_fro_22, e_X11_fro_23, e_X11_fro_26, e_X11_fro_27, e_X11_fro_28, e_X11_fro_29, e_X11_fro_32, e_X11_fro_34, e_X11_fro_35, e_X11_fro_36, e_X11_fro_39, e_X11_fro_41, e_X11_fro_42, e_X11_fro_43, e_X11_fro_46, e_X11_fro_48, e_X11_fro_49, e_X11_fro_50, e_X11_fro_51, e_X11_fro_53, e_X11_fro_54, e_X11_fro_56, e_X11_fro_57, e_X11_fro_59, e_X11_fro_60, e_X11_fro_64, e_X11_fro_67, e_X11_fro_68, e_X11_fro_70, e_X11_fro_73, e_X11_fro_74, e_X11_fro_75, e_X11_fro_76, e_X11_fro_77, e_X11_fro_79, e_X11_fro_81, e_X11_fro_84, e_X11_fro_85, e_X11_fro_88, e_X11_fro_90, e_X11_fro_92, e_X11_fro_95, e_X11_fro_96, e_X11_fro_99, e_X11_fro_101, e_X11_fro_102, e_X11_fro_104, e_X11_fro_105, e_X11_fro_106, e_X11_fro_109, e_X11_fro_111, e_X11_fro_112, e_X11_fro_113, e_X11_fro_114, e_X11_fro_117, e_X11_fro_119, e_X11_fro_120, e_X11_fro_123, e_X11_fro_124, e_X11_fro_127, e_X11_fro_128, e_X11_fro_130, e_X11_fro_132, e_X11_fro_135, e_X11_fro_138, e_X11_fro_140, e_X11_fro_141, e_X11_fro_144, e_X11_fro_146, e_X11_fro_147, e_X11_fro_148, e_X11_fro_150, e_X11_fro_151, e_X11_fro_152, e_X11_fro_154, e_X11_fro_155, e_X11_fro_156, e_X11_fro_157, e_X11_fro_159, e_X11_fro_160, e_X11_fro_163, e_X11_fro_164, e_X11_fro_167, e_X11_fro_168, e_X11_fro_170, e_X11_fro_173, e_X11_fro_174, e_X11_fro_175, e_X11_fro_178, e_X11_fro_179, e_X11_fro_181, e_X11_fro_182, e_X11_fro_185, e_X11_fro_186, e_X11_fro_188, e_X11_fro_189, e_X11_fro_192, e_X11_fro_194, ob_91, rk_91_8, ar_96, rk_91_5, ar_93, kcl_i, kcl_r, kcl_l, kcl_0, kcl_n, true_and, and_true, z10, if_false, m_able (show fMan a b x < 8 by omega), u93, u94, u95, w93, w94, w95, eco]
          by_cases q1 : fCan (mCo i) a b x (fSt (mCo i) (i 93) (i 96 17) a b x).1 = 0
          · simp only [q1, c_ntz (show 8 < 9 by decide) ntz_0, if_true, true_or, e_X11_fro_0, e_X11_fro_1, e_X11_fro_2, e_X11_fro_5, e_X11_fro_6, e_X11_fro_7, e_X11_fro_10, e_X11_fro_13, e_X11_fro_14, e_X11_fro_15, e_X11_fro_18, e_X11_fro_21, e_X11_fro_22, e_X11_fro_23, e_X11_fro_26, e_X11_fro_27, e_X11_fro_28, e_X11_fro_29, e_X11_fro_32, e_X11_fro_34, e_X11_fro_35, e_X11_fro_36, e_X11_fro_39, e_X11_fro_41, e_X11_fro_42, e_X11_fro_43, e_X11_fro_46, e_X11_fro_48, e_X11_fro_49, e_X11_fro_50, e_X11_fro_51, e_X11_fro_53, e_X11_fro_54, e_X11_fro_56, e_X11_fro_57, e_X11_fro_59, e_X11_fro_60, e_X11_fro_64, e_X11_fro_67, e_X11_fro_68, e_X11_fro_70, e_X11_fro_73, e_X11_fro_74, e_X11_fro_75, e_X11_fro_76, e_X11_fro_77, e_X11_fro_79, e_X11_fro_81, e_X11_fro_84, e_X11_fro_85, e_X11_fro_88, e_X11_fro_90, e_X11_fro_92, e_X11_fro_95, e_X11_fro_96, e_X11_fro_99, e_X11_fro_101, e_X11_fro_102, e_X11_fro_104, e_X11_fro_105, e_X11_fro_106, e_X11_fro_109, e_X11_fro_111, e_X11_fro_112, e_X11_fro_113, e_X11_fro_114, e_X11_fro_117, e_X11_fro_119, e_X11_fro_120, e_X11_fro_123, e_X11_fro_124, e_X11_fro_127, e_X11_fro_128, e_X11_fro_130, e_X11_fro_132, e_X11_fro_135, e_X11_fro_138, e_X11_fro_140, e_X11_fro_141, e_X11_fro_144, e_X11_fro_146, e_X11_fro_147, e_X11_fro_148, e_X11_fro_150, e_X11_fro_151, e_X11_fro_152, e_X11_fro_154, e_X11_fro_155, e_X11_fro_156, e_X11_fro_157, e_X11_fro_159, e_X11_fro_160, e_X11_fro_163, e_X11_fro_164, e_X11_fro_167, e_X11_fro_168, e_X11_fro_170, e_X11_fro_173, e_X11_fro_174, e_X11_fro_175, e_X11_fro_178, e_X11_fro_179, e_X11_fro_181, e_X11_fro_182, e_X11_fro_185, e_X11_fro_186, e_X11_fro_188, e_X11_fro_189, e_X11_fro_192, e_X11_fro_194, ob_91, rk_91_8, ar_96, rk_91_5, ar_93, kcl_i, kcl_r, kcl_l, kcl_0, kcl_n, true_and, and_true]
            exact fin _ _
          · obtain ⟨nn, hnn, en⟩ := b8_nat c8
            have n0 : nn ≠ 0 := fun e => q1 (by rw [en, e]; rfl)
            have fo := fst_of c8 q1
            have nt := ntz_256 nn hnn n0
            rw [← en] at nt
            simp only [q1, c_ntz (show fFst (fCan (mCo i) a b x (fSt (mCo i) (i 93) (i 96 17) a b x).1) < 9 by omega) nt, if_false, false_or, e_X11_fro_0, e_X11_fro_1, e_X11_fro_2, e_X11_fro_5, e_X11_fro_6, e_X11_fro_7, e_X11_fro_10, e_X11_fro_13, e_X11_fro_14, e_X11_fro_15, e_X11_fro_18, e_X11_fro_21, e_X11_fro_22, e_X11_fro_23, e_X11_fro_26, e_X11_fro_27, e_X11_fro_28, e_X11_fro_29, e_X11_fro_32, e_X11_fro_34, e_X11_fro_35, e_X11_fro_36, e_X11_fro_39, e_X11_fro_41, e_X11_fro_42, e_X11_fro_43, e_X11_fro_46, e_X11_fro_48, e_X11_fro_49, e_X11_fro_50, e_X11_fro_51, e_X11_fro_53, e_X11_fro_54, e_X11_fro_56, e_X11_fro_57, e_X11_fro_59, e_X11_fro_60, e_X11_fro_64, e_X11_fro_67, e_X11_fro_68, e_X11_fro_70, e_X11_fro_73, e_X11_fro_74, e_X11_fro_75, e_X11_fro_76, e_X11_fro_77, e_X11_fro_79, e_X11_fro_81, e_X11_fro_84, e_X11_fro_85, e_X11_fro_88, e_X11_fro_90, e_X11_fro_92, e_X11_fro_95, e_X11_fro_96, e_X11_fro_99, e_X11_fro_101, e_X11_fro_102, e_X11_fro_104, e_X11_fro_105, e_X11_fro_106, e_X11_fro_109, e_X11_fro_111, e_X11_fro_112, e_X11_fro_113, e_X11_fro_114, e_X11_fro_117, e_X11_fro_119, e_X11_fro_120, e_X11_fro_123, e_X11_fro_124, e_X11_fro_127, e_X11_fro_128, e_X11_fro_130, e_X11_fro_132, e_X11_fro_135, e_X11_fro_138, e_X11_fro_140, e_X11_fro_141, e_X11_fro_144, e_X11_fro_146, e_X11_fro_147, e_X11_fro_148, e_X11_fro_150, e_X11_fro_151, e_X11_fro_152, e_X11_fro_154, e_X11_fro_155, e_X11_fro_156, e_X11_fro_157, e_X11_fro_159, e_X11_fro_160, e_X11_fro_163, e_X11_fro_164, e_X11_fro_167, e_X11_fro_168, e_X11_fro_170, e_X11_fro_173, e_X11_fro_174, e_X11_fro_175, e_X11_fro_178, e_X11_fro_179, e_X11_fro_181, e_X11_fro_182, e_X11_fro_185, e_X11_fro_186, e_X11_fro_188, e_X11_fro_189, e_X11_fro_192, e_X11_fro_194, ob_91, rk_91_8, ar_96, rk_91_5, ar_93, kcl_i, kcl_r, kcl_l, kcl_0, kcl_n, true_and, and_true, u96, w96, ki19, ni19, ki20, ni20, u93, w93, kin8 fo.1, cl_n (show fFst (fCan (mCo i) a b x (fSt (mCo i) (i 93) (i 96 17) a b x).1) < 100000 by omega), true_and]
            by_cases q2 : i 96 20 ≤ i 96 19 + (fSt (mCo i) (i 93) (i 96 17) a b x).2 + i 93 (fFst (fCan (mCo i) a b x (fSt (mCo i) (i 93) (i 96 17) a b x).1))
            · simp only [q2, if_true]
              exact fin _ _
            · simp only [q2, if_false, z10, tn_s, tn_eq (show fMan a b x < 2147483648 by omega) (show a < 2147483648 by omega)]
              have eS : fSt (mCo i) (i 93) (i 96 17) a b (x + 1) = ((fSt (mCo i) (i 93) (i 96 17) a b x).1 ||| (1 <<< (Int32.ofNat (fFst (fCan (mCo i) a b x (fSt (mCo i) (i 93) (i 96 17) a b x).1)) &&& 31)), (fSt (mCo i) (i 93) (i 96 17) a b x).2 + i 93 (fFst (fCan (mCo i) a b x (fSt (mCo i) (i 93) (i 96 17) a b x).1))) := rfl
              rw [eS]
              by_cases q3 : x % 2 = 0
              · have g1 : fMan a b x = a := by unfold fMan; rw [if_pos q3]
                have g2 : fMan a b (x + 1) = b := by unfold fMan; rw [if_neg (by omega)]
                rw [g2]
                simp only [g1, if_true, fJ, q1, if_false]
              · have g1 : fMan a b x = b := by unfold fMan; rw [if_neg q3]
                have g2 : fMan a b (x + 1) = a := by unfold fMan; rw [if_pos (by omega)]
                rw [g2]
                have g3 : ¬ b = a := fun e => hab e.symm
                simp only [g1, g3, if_false, fJ, q1]
  · refine JJ_n h (-1) i (uPut i) ag_r (ag_uu ag_r) rfl rfl ?_ ?_
    · intro sc d y nx hd L st cu su K
      refine kCA_of (d := d + 499) (v := some (.int _)) (fun K => ?_)
      rw [km_121]
      show kWP sc (d + 499) 121 0 [.ref 0, .int p, .int q, .retAddr 0, .retAddr 0, .retAddr 0, .retAddr 0, .retAddr 0] [] _ K = _
      simp only [e_X10_fro_0, e_X10_fro_1, e_X10_fro_4, e_X10_fro_5, e_X10_fro_6, e_X10_fro_9, e_X10_fro_12, e_X10_fro_13, e_X10_fro_14, e_X10_fro_15, e_X10_fro_18, e_X10_fro_21, e_X10_fro_22, e_X10_fro_25, e_X10_fro_27, e_X10_fro_28, e_X10_fro_29, e_X10_fro_32, e_X10_fro_35, e_X10_fro_36, e_X10_fro_37, e_X10_fro_39, e_X10_fro_40, e_X10_fro_42, e_X10_fro_43, e_X10_fro_47, e_X10_fro_49, e_X10_fro_52, e_X10_fro_53, e_X10_fro_56, e_X10_fro_59, e_X10_fro_61, e_X10_fro_62, e_X10_fro_63, e_X10_fro_66, e_X10_fro_67, e_X10_fro_70, e_X10_fro_71, e_X10_fro_72, e_X10_fro_73, e_X10_fro_74, e_X10_fro_75, e_X10_fro_76, e_X10_fro_79, e_X10_fro_81, e_X10_fro_83, e_X10_fro_84, e_X10_fro_87, e_X10_fro_88, e_X10_fro_91, e_X10_fro_94, e_X10_fro_96, e_X10_fro_97, e_X10_fro_98, e_X10_fro_101, e_X10_fro_104, e_X10_fro_106, e_X10_fro_107, e_X10_fro_108, e_X10_fro_109, e_X10_fro_112, e_X10_fro_115, e_X10_fro_118, e_X10_fro_121, e_X10_fro_122, e_X10_fro_123, e_X10_fro_125, e_X10_fro_126, e_X10_fro_127, e_X10_fro_128, e_X10_fro_130, e_X10_fro_131, e_X10_fro_134, e_X10_fro_137, e_X10_fro_139, e_X10_fro_140, e_X10_fro_141, e_X10_fro_143, e_X10_fro_146, e_X10_fro_149, e_X10_fro_152, e_X10_fro_153, e_X10_fro_156, e_X10_fro_159, e_X10_fro_160, e_X10_fro_163, e_X10_fro_165, e_X10_fro_166, e_X10_fro_169, e_X10_fro_170, e_X10_fro_173, e_X10_fro_175, e_X10_fro_176, e_X10_fro_177, e_X10_fro_180, e_X10_fro_181, e_X10_fro_182, e_X10_fro_185, e_X10_fro_186, e_X10_fro_187, e_X10_fro_190, e_X10_fro_192, ob_0, rk_0_2, ob_5, rk_0_3, ob_10, ob_13, rk_5_3, ar_8, rk_5_4, ar_9, rk_0_1, ob_3, kcl_i, kcl_r, kcl_l, kcl_0, kcl_n, true_and, and_true, c_areTwo, kb_0, h5, q0, not_false_eq_true, if_true]
    · intro sc d y nx hd L st cu su K
      have h91' : uPut i 91 3 = Int32.ofNat m := h91
      refine kCA_of (d := d + 499) (v := some (.int _)) (fun K => ?_)
      rw [km_230]
      show kWP sc (d + 499) 230 0 [.ref 91, .int p, .int q, .retAddr 0, .retAddr 0, .retAddr 0, .retAddr 0, .retAddr 0, .retAddr 0, .retAddr 0] [] _ K = _
      simp only [e_X11_fro_0, e_X11_fro_1, e_X11_fro_2, e_X11_fro_5, e_X11_fro_6, e_X11_fro_7, e_X11_fro_10, e_X11_fro_13, e_X11_fro_14, e_X11_fro_15, e_X11_fro_18, e_X11_fro_21, e_X11_fro_22, e_X11_fro_23, e_X11_fro_26, e_X11_fro_27, e_X11_fro_28, e_X11_fro_29, e_X11_fro_32, e_X11_fro_34, e_X11_fro_35, e_X11_fro_36, e_X11_fro_39, e_X11_fro_41, e_X11_fro_42, e_X11_fro_43, e_X11_fro_46, e_X11_fro_48, e_X11_fro_49, e_X11_fro_50, e_X11_fro_51, e_X11_fro_53, e_X11_fro_54, e_X11_fro_56, e_X11_fro_57, e_X11_fro_59, e_X11_fro_60, e_X11_fro_64, e_X11_fro_67, e_X11_fro_68, e_X11_fro_70, e_X11_fro_73, e_X11_fro_74, e_X11_fro_75, e_X11_fro_76, e_X11_fro_77, e_X11_fro_79, e_X11_fro_81, e_X11_fro_84, e_X11_fro_85, e_X11_fro_88, e_X11_fro_90, e_X11_fro_92, e_X11_fro_95, e_X11_fro_96, e_X11_fro_99, e_X11_fro_101, e_X11_fro_102, e_X11_fro_104, e_X11_fro_105, e_X11_fro_106, e_X11_fro_109, e_X11_fro_111, e_X11_fro_112, e_X11_fro_113, e_X11_fro_114, e_X11_fro_117, e_X11_fro_119, e_X11_fro_120, e_X11_fro_123, e_X11_fro_124, e_X11_fro_127, e_X11_fro_128, e_X11_fro_130, e_X11_fro_132, e_X11_fro_135, e_X11_fro_138, e_X11_fro_140, e_X11_fro_141, e_X11_fro_144, e_X11_fro_146, e_X11_fro_147, e_X11_fro_148, e_X11_fro_150, e_X11_fro_151, e_X11_fro_152, e_X11_fro_154, e_X11_fro_155, e_X11_fro_156, e_X11_fro_157, e_X11_fro_159, e_X11_fro_160, e_X11_fro_163, e_X11_fro_164, e_X11_fro_167, e_X11_fro_168, e_X11_fro_170, e_X11_fro_173, e_X11_fro_174, e_X11_fro_175, e_X11_fro_178, e_X11_fro_179, e_X11_fro_181, e_X11_fro_182, e_X11_fro_185, e_X11_fro_186, e_X11_fro_188, e_X11_fro_189, e_X11_fro_192, e_X11_fro_194, ob_91, rk_91_8, ar_96, rk_91_5, ar_93, kcl_i, kcl_r, kcl_l, kcl_0, kcl_n, true_and, and_true, uP_0, m_isMan h91' h8, kb_0]
      by_cases q1 : pHas (Int32.ofNat m) p = true
      · by_cases q2 : pHas (Int32.ofNat m) q = true
        · have q3 : p = q := Classical.byContradiction fun e => q0 ⟨q1, q2, e⟩
          simp [q1, q2, q3]
        · simp [q1, q2]
      · simp [q1]
end TC
