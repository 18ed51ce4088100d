/-! sets: rivals, cover, most -/
section TC
variable {sc : Nat × (Nat → Int32)} {d y nx : Nat} {hd : List (Int × Nat)} {L st : List Value} {S : kS} {cu su : Nat} {i : Nat → Nat → Int32} {l : Nat → Nat → Int64} {f t c b m : Nat} {sp : Nat → Nat} {K : Option (Option Value) → kS → Prop}
variable {N M Z S1 Q : Nat → Int32} {i1 i2 i3 : Nat → Nat → Int32} {l2 : Nat → Nat → Int64} {n k x : Nat} {v r : Int32} {zs zs2 : List Int64}
/-- a loop whose locals hold more than what is told of it -/
theorem k_lq {β : Type} {n : Nat} {Q I : Nat → β → Prop} {b0 : β} (h : ∀ x b, x < n → I x b → ∃ b2, I (x + 1) b2 ∧ Q x b = Q (x + 1) b2) (h0 : I 0 b0) : ∃ b, I n b ∧ Q 0 b0 = Q n b := by
  have : ∀ k, k ≤ n → ∃ b, I k b ∧ Q 0 b0 = Q k b := by
    intro k
    induction k with
    | zero => intro _; exact ⟨b0, h0, rfl⟩
    | succ k ih =>
      intro hk
      obtain ⟨b, hb, e⟩ := ih (by omega)
      obtain ⟨b2, hb2, e2⟩ := h k b (by omega) hb
      exact ⟨b2, hb2, e.trans e2⟩
  exact this n (Nat.le_refl n)
theorem tC_hi : ∀ (zs : List Int64) (l : Nat → Nat → Int64) (k c x : Nat), k + zs.length ≤ x → tC l k zs c x = l c x := by
  intro zs
  induction zs with
  | nil => intro l k c x _; rfl
  | cons z zs ih =>
    intro l k c x h
    simp at h
    show tC (kupl l 4 k z) (k + 1) zs c x = _
    rw [ih _ _ _ _ (by omega)]
    unfold kupl; rw [if_neg (by omega)]
theorem tC_in : ∀ (zs : List Int64) (l l2 : Nat → Nat → Int64) (k x : Nat), k ≤ x → x < k + zs.length → tC l k zs 4 x = tC l2 k zs 4 x := by
  intro zs
  induction zs with
  | nil => intro l l2 k x h1 h2; simp at h2; omega
  | cons z zs ih =>
    intro l l2 k x h1 h2
    show tC (kupl l 4 k z) (k + 1) zs 4 x = tC (kupl l2 4 k z) (k + 1) zs 4 x
    by_cases e : x = k
    · subst e; rw [tC_o _ _ _ _ _ (by omega), tC_o _ _ _ _ _ (by omega), kupl_s, kupl_s]
    · exact ih _ _ _ _ (by omega) (by simp at h2; omega)
theorem tC_tC (h : zs.length = zs2.length) : tC (tC l 0 zs2) 0 zs = tC l 0 zs := by
  funext c x
  by_cases e : c = 4 ∧ x < zs.length
  · rw [e.1]; exact tC_in _ _ _ _ _ (Nat.zero_le _) (by omega)
  · by_cases e2 : c = 4
    · rw [tC_hi _ _ _ _ _ (by omega), tC_hi _ _ _ _ _ (by omega), tC_hi _ _ _ _ _ (by omega)]
    · rw [tC_o _ _ _ _ _ (Or.inl e2), tC_o _ _ _ _ _ (Or.inl e2), tC_o _ _ _ _ _ (Or.inl e2)]
theorem kfo_shift {α : Type} {g : Nat → α → α} {n : Nat} {a : α} : kfo g (n + 1) a = kfo (fun x => g (x + 1)) n (g 0 a) := by
  induction n with
  | zero => rfl
  | succ n ih => show g (n + 1) (kfo g (n + 1) a) = _; rw [ih]; rfl
theorem kfo_tail {α : Type} {g : Nat → α → α} {n : Nat} {a : α} (k : Nat) (h : ∀ x b, n ≤ x → x < n + k → g x b = b) : kfo g (n + k) a = kfo g n a := by
  induction k with
  | zero => rfl
  | succ k ih =>
    show g (n + k) (kfo g (n + k) a) = _
    rw [h _ _ (by omega) (by omega)]; exact ih (fun x b h1 h2 => h x b h1 (by omega))
def gRiv (co : Nat → Int32) (said : Int32) (a z : Nat) (w : Int32 × Option (Nat × Nat)) : Int32 × Option (Nat × Nat) := if pBC ((co a &&& co (a + 1 + z)) &&& (said ^^^ (-1))) ≤ w.1 then w else (pBC ((co a &&& co (a + 1 + z)) &&& (said ^^^ (-1))), some (a, a + 1 + z))
def gRiw (co : Nat → Int32) (said : Int32) (m a : Nat) (w : Int32 × Option (Nat × Nat)) : Int32 × Option (Nat × Nat) := kfo (gRiv co said a) (m - (a + 1)) w
def pRiv (co : Nat → Int32) (said : Int32) (m : Nat) : Int32 × Option (Nat × Nat) := kfo (gRiw co said m) m (-1, none)
def rvZ (co : Nat → Int32) (said : Int32) (p : Nat × Nat) : List Int64 := [(Int32.ofNat p.1).toInt64, (Int32.ofNat p.2).toInt64, ((co p.1 &&& co p.2) &&& (said ^^^ (-1))).toInt64]
def rvI (i : Nat → Nat → Int32) (w : Int32 × Option (Nat × Nat)) : Nat → Nat → Int32 := match w.2 with | none => i | some _ => wPut i 3
def rvL (l : Nat → Nat → Int64) (co : Nat → Int32) (said : Int32) (w : Int32 × Option (Nat × Nat)) : Nat → Nat → Int64 := match w.2 with | none => l | some p => tC l 0 (rvZ co said p)
def rv1 (w : Int32 × Option (Nat × Nat)) : Int32 := match w.2 with | none => -1 | some p => Int32.ofNat p.1
def rv2 (w : Int32 × Option (Nat × Nat)) : Int32 := match w.2 with | none => -1 | some p => Int32.ofNat p.2
theorem rvI_o {w : Int32 × Option (Nat × Nat)} {c : Nat} (h : c ≠ 3) : rvI i w c = i c := by
  unfold rvI; cases w.2 with
  | none => rfl
  | some p => exact wP_o h
theorem rvI_w {w : Int32 × Option (Nat × Nat)} : wPut (rvI i w) n = wPut i n := by
  unfold rvI; cases w.2 with
  | none => rfl
  | some p => exact wP_pp
theorem rvL_t {co : Nat → Int32} {said : Int32} {w : Int32 × Option (Nat × Nat)} (hz : zs.length = 3) : tC (rvL l co said w) 0 zs = tC l 0 zs := by
  unfold rvL; cases w.2 with
  | none => rfl
  | some p => exact tC_tC (by rw [hz]; rfl)
theorem gRiv_in {co : Nat → Int32} {said : Int32} {a z : Nat} {w : Int32 × Option (Nat × Nat)} (ha : a < m) (hz : z < m - (a + 1)) (h : ∀ p, w.2 = some p → p.1 < m ∧ p.2 < m) : ∀ p, (gRiv co said a z w).2 = some p → p.1 < m ∧ p.2 < m := by
  intro p hp
  unfold gRiv at hp
  split at hp
  · exact h p hp
  · cases hp; exact ⟨ha, by show a + 1 + z < m; omega⟩
theorem pRiv_in {co : Nat → Int32} {said : Int32} : ∀ p, (pRiv co said m).2 = some p → p.1 < m ∧ p.2 < m := by
  unfold pRiv
  exact kfo_inv (I := fun _ (w : Int32 × Option (Nat × Nat)) => ∀ p, w.2 = some p → p.1 < m ∧ p.2 < m) (fun a w ha hw => by
    unfold gRiw
    exact kfo_inv (I := fun _ (w : Int32 × Option (Nat × Nat)) => ∀ p, w.2 = some p → p.1 < m ∧ p.2 < m) (fun z w hz hw => gRiv_in ha hz hw) hw) (fun p hp => by cases hp)
theorem pRiv_so {co : Nat → Int32} {said : Int32} (h2 : 2 ≤ m) : (pRiv co said m).2 ≠ none := by
  have key : ∀ a k (w : Int32 × Option (Nat × Nat)), (w.2 = none → w.1 = -1) → ((kfo (gRiv co said a) k w).2 = none → (kfo (gRiv co said a) k w).1 = -1 ∧ w.2 = none ∧ k = 0) := by
    intro a k
    induction k with
    | zero => intro w hw q; exact ⟨hw q, q, rfl⟩
    | succ k ih =>
      intro w hw q
      have e : kfo (gRiv co said a) (k + 1) w = gRiv co said a k (kfo (gRiv co said a) k w) := rfl
      rw [e] at q
      have g : ∀ u : Int32 × Option (Nat × Nat), (u.2 = none → u.1 = -1) → ¬ (gRiv co said a k u).2 = none := by
        intro u hu
        unfold gRiv
        by_cases z : u.2 = none
        · rw [hu z, if_neg pBC_nn]; simp
        · split
          · exact z
          · simp
      exact absurd q (g _ (fun z => (ih w hw z).1))
  have I := kfo_inv (g := gRiw co said m) (n := m) (a := ((-1, none) : Int32 × Option (Nat × Nat))) (I := fun x (w : Int32 × Option (Nat × Nat)) => (w.2 = none → w.1 = -1 ∧ x = 0)) (fun a w ha hw => by
    intro q
    have q1 := key a (m - (a + 1)) w (fun z => (hw z).1) q
    have q2 := hw q1.2.1
    omega) (fun _ => ⟨rfl, rfl⟩)
  intro q
  have := (I q).2
  omega
theorem pRiv_no {co : Nat → Int32} {said : Int32} (h2 : m < 2) : pRiv co said m = (-1, none) := by
  have : m = 0 ∨ m = 1 := by omega
  rcases this with rfl | rfl <;> rfl
theorem mCo_w : mCo (wPut i n) = mCo i := by unfold mCo; rw [w93, w94, w95]
theorem mCo_u : mCo (uPut i) = mCo i := by unfold mCo; rw [u93, u94, u95]
theorem m_rivals (h91 : i 91 3 = Int32.ofNat m) (h8 : m ≤ 8) : CC 232 [.ref 91] i l f t sp (.int (if m < 2 then -2 else (pRiv (mCo i) (i 96 17) m).1)) (if m < 2 then uPut i else vPut (uPut i) 3) (match (pRiv (mCo i) (i 96 17) m).2 with | none => l | some p => tR l 0 (rvZ (mCo i) (i 96 17) p)) f t sp := by
  intro sc d y nx hd L st cu su K
  refine kCA_of (d := d + 499) (v := some (.int _)) (fun K => ?_)
  rw [km_232]
  show kWP sc (d + 499) 232 0 [.ref 91, .retAddr 0, .retAddr 0, .retAddr 0, .retAddr 0, .retAddr 0, .retAddr 0] [] _ K = _
  simp only [e_X11_rivals_0, e_X11_rivals_1, e_X11_rivals_2, e_X11_rivals_5, e_X11_rivals_6, e_X11_rivals_7, e_X11_rivals_8, e_X11_rivals_9, e_X11_rivals_10, e_X11_rivals_11, e_X11_rivals_12, e_X11_rivals_16, e_X11_rivals_17, e_X11_rivals_20, e_X11_rivals_23, e_X11_rivals_25, e_X11_rivals_26, e_X11_rivals_27, e_X11_rivals_31, e_X11_rivals_32, e_X11_rivals_35, e_X11_rivals_38, e_X11_rivals_39, e_X11_rivals_41, e_X11_rivals_44, e_X11_rivals_45, e_X11_rivals_47, e_X11_rivals_50, e_X11_rivals_51, e_X11_rivals_52, e_X11_rivals_55, e_X11_rivals_57, e_X11_rivals_58, e_X11_rivals_59, e_X11_rivals_60, e_X11_rivals_61, e_X11_rivals_64, e_X11_rivals_66, e_X11_rivals_68, e_X11_rivals_69, e_X11_rivals_72, e_X11_rivals_74, e_X11_rivals_75, e_X11_rivals_77, e_X11_rivals_78, e_X11_rivals_80, e_X11_rivals_81, e_X11_rivals_84, e_X11_rivals_87, e_X11_rivals_90, e_X11_rivals_93, e_X11_rivals_94, e_X11_rivals_97, e_X11_rivals_99, e_X11_rivals_100, e_X11_rivals_101, e_X11_rivals_102, e_X11_rivals_105, e_X11_rivals_106, e_X11_rivals_107, e_X11_rivals_108, e_X11_rivals_111, e_X11_rivals_112, e_X11_rivals_113, e_X11_rivals_114, e_X11_rivals_117, e_X11_rivals_118, e_X11_rivals_119, e_X11_rivals_120, e_X11_rivals_123, e_X11_rivals_124, e_X11_rivals_125, e_X11_rivals_128, e_X11_rivals_129, e_X11_rivals_130, e_X11_rivals_133, e_X11_rivals_135, e_X11_rivals_136, e_X11_rivals_137, e_X11_rivals_138, e_X11_rivals_139, e_X11_rivals_140, e_X11_rivals_143, e_X11_rivals_144, ob_91, rk_91_8, ar_96, kcl_i, kcl_r, kcl_l, kcl_0, kcl_n, true_and, and_true, uP_0]
  have E := k_lq (n := m) (Q := fun x (w : (Int32 × Option (Nat × Nat)) × Value × Value) => kWP sc (d + 499) 232 14 [.ref 91, .int (rv1 w.1), .int (rv2 w.1), .int w.1.1, .int (Int32.ofNat x), w.2.1, w.2.2] [] ((120, cu, su), uPut i, l, kR f t sp) K) (I := fun x w => w.1 = kfo (gRiw (mCo i) (i 96 17) m) x (-1, none)) (b0 := ((-1, none), .retAddr 0, .retAddr 0)) ?_ rfl
  · obtain ⟨⟨w, v5, v6⟩, hw, e⟩ := E
    have hw' : w = pRiv (mCo i) (i 96 17) m := hw
    refine e.trans ?_
    refine e_X11_rivals_14.trans ?_
    simp only [e_X11_rivals_0, e_X11_rivals_1, e_X11_rivals_2, e_X11_rivals_5, e_X11_rivals_6, e_X11_rivals_7, e_X11_rivals_8, e_X11_rivals_9, e_X11_rivals_10, e_X11_rivals_11, e_X11_rivals_12, e_X11_rivals_16, e_X11_rivals_17, e_X11_rivals_20, e_X11_rivals_23, e_X11_rivals_25, e_X11_rivals_26, e_X11_rivals_27, e_X11_rivals_31, e_X11_rivals_32, e_X11_rivals_35, e_X11_rivals_38, e_X11_rivals_39, e_X11_rivals_41, e_X11_rivals_44, e_X11_rivals_45, e_X11_rivals_47, e_X11_rivals_50, e_X11_rivals_51, e_X11_rivals_52, e_X11_rivals_55, e_X11_rivals_57, e_X11_rivals_58, e_X11_rivals_59, e_X11_rivals_60, e_X11_rivals_61, e_X11_rivals_64, e_X11_rivals_66, e_X11_rivals_68, e_X11_rivals_69, e_X11_rivals_72, e_X11_rivals_74, e_X11_rivals_75, e_X11_rivals_77, e_X11_rivals_78, e_X11_rivals_80, e_X11_rivals_81, e_X11_rivals_84, e_X11_rivals_87, e_X11_rivals_90, e_X11_rivals_93, e_X11_rivals_94, e_X11_rivals_97, e_X11_rivals_99, e_X11_rivals_100, e_X11_rivals_101, e_X11_rivals_102, e_X11_rivals_105, e_X11_rivals_106, e_X11_rivals_107, e_X11_rivals_108, e_X11_rivals_111, e_X11_rivals_112, e_X11_rivals_113, e_X11_rivals_114, e_X11_rivals_117, e_X11_rivals_118, e_X11_rivals_119, e_X11_rivals_120, e_X11_rivals_123, e_X11_rivals_124, e_X11_rivals_125, e_X11_rivals_128, e_X11_rivals_129, e_X11_rivals_130, e_X11_rivals_133, e_X11_rivals_135, e_X11_rivals_136, e_X11_rivals_137, e_X11_rivals_138, e_X11_rivals_139, e_X11_rivals_140, e_X11_rivals_143, e_X11_rivals_144, ob_91, rk_91_8, ar_96, kcl_i, kcl_r, kcl_l, kcl_0, kcl_n, true_and, and_true, u3, h91, Int32.le_refl, if_true]
    by_cases q : m < 2
    · rw [pRiv_no q] at hw' ⊢
      subst hw'
      simp only [rv1, rv2, q, if_true, show ((0 : Int32) ≤ -1) = False from eq_false (by decide), if_false]
    · have hs := @pRiv_so m (mCo i) (i 96 17) (by omega)
      have hb := @pRiv_in m (mCo i) (i 96 17)
      rw [← hw'] at hs hb ⊢
      obtain ⟨w1, w2⟩ := w
      cases w2 with
      | none => exact absurd rfl hs
      | some p =>
        obtain ⟨p1, p2⟩ := p
        have hb' := hb _ rfl
        simp only [rv1, rv2, q, if_false, tn_0 (show p1 < 2147483648 by omega), if_true, vP_0, m_enters (show 0 < 256 by decide), m_enters (show 0 + 1 < 256 by decide), m_enters (show 0 + 1 + 1 < 256 by decide), m_able (show p1 < 8 by omega), m_able (show p2 < 8 by omega), v93, v94, v95, v96, u93, u94, u95, u96, ki17, ni17, e_X11_rivals_0, e_X11_rivals_1, e_X11_rivals_2, e_X11_rivals_5, e_X11_rivals_6, e_X11_rivals_7, e_X11_rivals_8, e_X11_rivals_9, e_X11_rivals_10, e_X11_rivals_11, e_X11_rivals_12, e_X11_rivals_16, e_X11_rivals_17, e_X11_rivals_20, e_X11_rivals_23, e_X11_rivals_25, e_X11_rivals_26, e_X11_rivals_27, e_X11_rivals_31, e_X11_rivals_32, e_X11_rivals_35, e_X11_rivals_38, e_X11_rivals_39, e_X11_rivals_41, e_X11_rivals_44, e_X11_rivals_45, e_X11_rivals_47, e_X11_rivals_50, e_X11_rivals_51, e_X11_rivals_52, e_X11_rivals_55, e_X11_rivals_57, e_X11_rivals_58, e_X11_rivals_59, e_X11_rivals_60, e_X11_rivals_61, e_X11_rivals_64, e_X11_rivals_66, e_X11_rivals_68, e_X11_rivals_69, e_X11_rivals_72, e_X11_rivals_74, e_X11_rivals_75, e_X11_rivals_77, e_X11_rivals_78, e_X11_rivals_80, e_X11_rivals_81, e_X11_rivals_84, e_X11_rivals_87, e_X11_rivals_90, e_X11_rivals_93, e_X11_rivals_94, e_X11_rivals_97, e_X11_rivals_99, e_X11_rivals_100, e_X11_rivals_101, e_X11_rivals_102, e_X11_rivals_105, e_X11_rivals_106, e_X11_rivals_107, e_X11_rivals_108, e_X11_rivals_111, e_X11_rivals_112, e_X11_rivals_113, e_X11_rivals_114, e_X11_rivals_117, e_X11_rivals_118, e_X11_rivals_119, e_X11_rivals_120, e_X11_rivals_123, e_X11_rivals_124, e_X11_rivals_125, e_X11_rivals_128, e_X11_rivals_129, e_X11_rivals_130, e_X11_rivals_133, e_X11_rivals_135, e_X11_rivals_136, e_X11_rivals_137, e_X11_rivals_138, e_X11_rivals_139, e_X11_rivals_140, e_X11_rivals_143, e_X11_rivals_144, ob_91, rk_91_8, ar_96, kcl_i, kcl_r, kcl_l, kcl_0, kcl_n, true_and, and_true]
        rfl
  · intro x ⟨w, v5, v6⟩ hx hI
    have hI' : w = kfo (gRiw (mCo i) (i 96 17) m) x (-1, none) := hI
    have R := k_lq (n := m - (x + 1)) (Q := fun z (u : (Int32 × Option (Nat × Nat)) × Value) => kWP sc (d + 499) 232 29 [.ref 91, .int (rv1 u.1), .int (rv2 u.1), .int u.1.1, .int (Int32.ofNat x), .int (Int32.ofNat (x + 1 + z)), u.2] [] ((120, cu, su), uPut i, l, kR f t sp) K) (I := fun z u => u.1 = kfo (gRiv (mCo i) (i 96 17) x) z w) (b0 := (w, v6)) ?_ rfl
    · obtain ⟨⟨u, u6⟩, hu, e⟩ := R
      have hu' : u = gRiw (mCo i) (i 96 17) m x w := hu
      refine ⟨(u, .int (Int32.ofNat m), u6), ?_, ?_⟩
      · show u = gRiw (mCo i) (i 96 17) m x (kfo (gRiw (mCo i) (i 96 17) m) x (-1, none))
        rw [hu', hI']
      · refine e_X11_rivals_14.trans ?_
        simp only [e_X11_rivals_0, e_X11_rivals_1, e_X11_rivals_2, e_X11_rivals_5, e_X11_rivals_6, e_X11_rivals_7, e_X11_rivals_8, e_X11_rivals_9, e_X11_rivals_10, e_X11_rivals_11, e_X11_rivals_12, e_X11_rivals_16, e_X11_rivals_17, e_X11_rivals_20, e_X11_rivals_23, e_X11_rivals_25, e_X11_rivals_26, e_X11_rivals_27, e_X11_rivals_31, e_X11_rivals_32, e_X11_rivals_35, e_X11_rivals_38, e_X11_rivals_39, e_X11_rivals_41, e_X11_rivals_44, e_X11_rivals_45, e_X11_rivals_47, e_X11_rivals_50, e_X11_rivals_51, e_X11_rivals_52, e_X11_rivals_55, e_X11_rivals_57, e_X11_rivals_58, e_X11_rivals_59, e_X11_rivals_60, e_X11_rivals_61, e_X11_rivals_64, e_X11_rivals_66, e_X11_rivals_68, e_X11_rivals_69, e_X11_rivals_72, e_X11_rivals_74, e_X11_rivals_75, e_X11_rivals_77, e_X11_rivals_78, e_X11_rivals_80, e_X11_rivals_81, e_X11_rivals_84, e_X11_rivals_87, e_X11_rivals_90, e_X11_rivals_93, e_X11_rivals_94, e_X11_rivals_97, e_X11_rivals_99, e_X11_rivals_100, e_X11_rivals_101, e_X11_rivals_102, e_X11_rivals_105, e_X11_rivals_106, e_X11_rivals_107, e_X11_rivals_108, e_X11_rivals_111, e_X11_rivals_112, e_X11_rivals_113, e_X11_rivals_114, e_X11_rivals_117, e_X11_rivals_118, e_X11_rivals_119, e_X11_rivals_120, e_X11_rivals_123, e_X11_rivals_124, e_X11_rivals_125, e_X11_rivals_128, e_X11_rivals_129, e_X11_rivals_130, e_X11_rivals_133, e_X11_rivals_135, e_X11_rivals_136, e_X11_rivals_137, e_X11_rivals_138, e_X11_rivals_139, e_X11_rivals_140, e_X11_rivals_143, e_X11_rivals_144, ob_91, rk_91_8, ar_96, kcl_i, kcl_r, kcl_l, kcl_0, kcl_n, true_and, and_true, u3, h91, jpF hx (by omega), if_false, tn_s]
        refine e.trans ?_
        refine e_X11_rivals_29.trans ?_
        simp only [e_X11_rivals_0, e_X11_rivals_1, e_X11_rivals_2, e_X11_rivals_5, e_X11_rivals_6, e_X11_rivals_7, e_X11_rivals_8, e_X11_rivals_9, e_X11_rivals_10, e_X11_rivals_11, e_X11_rivals_12, e_X11_rivals_16, e_X11_rivals_17, e_X11_rivals_20, e_X11_rivals_23, e_X11_rivals_25, e_X11_rivals_26, e_X11_rivals_27, e_X11_rivals_31, e_X11_rivals_32, e_X11_rivals_35, e_X11_rivals_38, e_X11_rivals_39, e_X11_rivals_41, e_X11_rivals_44, e_X11_rivals_45, e_X11_rivals_47, e_X11_rivals_50, e_X11_rivals_51, e_X11_rivals_52, e_X11_rivals_55, e_X11_rivals_57, e_X11_rivals_58, e_X11_rivals_59, e_X11_rivals_60, e_X11_rivals_61, e_X11_rivals_64, e_X11_rivals_66, e_X11_rivals_68, e_X11_rivals_69, e_X11_rivals_72, e_X11_rivals_74, e_X11_rivals_75, e_X11_rivals_77, e_X11_rivals_78, e_X11_rivals_80, e_X11_rivals_81, e_X11_rivals_84, e_X11_rivals_87, e_X11_rivals_90, e_X11_rivals_93, e_X11_rivals_94, e_X11_rivals_97, e_X11_rivals_99, e_X11_rivals_100, e_X11_rivals_101, e_X11_rivals_102, e_X11_rivals_105, e_X11_rivals_106, e_X11_rivals_107, e_X11_rivals_108, e_X11_rivals_111, e_X11_rivals_112, e_X11_rivals_113, e_X11_rivals_114, e_X11_rivals_117, e_X11_rivals_118, e_X11_rivals_119, e_X11_rivals_120, e_X11_rivals_123, e_X11_rivals_124, e_X11_rivals_125, e_X11_rivals_128, e_X11_rivals_129, e_X11_rivals_130, e_X11_rivals_133, e_X11_rivals_135, e_X11_rivals_136, e_X11_rivals_137, e_X11_rivals_138, e_X11_rivals_139, e_X11_rivals_140, e_X11_rivals_143, e_X11_rivals_144, ob_91, rk_91_8, ar_96, kcl_i, kcl_r, kcl_l, kcl_0, kcl_n, true_and, and_true, u3, h91, show x + 1 + (m - (x + 1)) = m by omega, Int32.le_refl, if_true, tn_s]
    · intro z ⟨u, u6⟩ hz hu
      have hu' : u = kfo (gRiv (mCo i) (i 96 17) x) z w := hu
      refine ⟨(gRiv (mCo i) (i 96 17) x z u, .int (pBC ((mCo i x &&& mCo i (x + 1 + z)) &&& (i 96 17 ^^^ (-1))))), ?_, ?_⟩
      · show gRiv (mCo i) (i 96 17) x z u = gRiv (mCo i) (i 96 17) x z (kfo (gRiv (mCo i) (i 96 17) x) z w)
        rw [hu']
      · refine e_X11_rivals_29.trans ?_
        simp only [e_X11_rivals_0, e_X11_rivals_1, e_X11_rivals_2, e_X11_rivals_5, e_X11_rivals_6, e_X11_rivals_7, e_X11_rivals_8, e_X11_rivals_9, e_X11_rivals_10, e_X11_rivals_11, e_X11_rivals_12, e_X11_rivals_16, e_X11_rivals_17, e_X11_rivals_20, e_X11_rivals_23, e_X11_rivals_25, e_X11_rivals_26, e_X11_rivals_27, e_X11_rivals_31, e_X11_rivals_32, e_X11_rivals_35, e_X11_rivals_38, e_X11_rivals_39, e_X11_rivals_41, e_X11_rivals_44, e_X11_rivals_45, e_X11_rivals_47, e_X11_rivals_50, e_X11_rivals_51, e_X11_rivals_52, e_X11_rivals_55, e_X11_rivals_57, e_X11_rivals_58, e_X11_rivals_59, e_X11_rivals_60, e_X11_rivals_61, e_X11_rivals_64, e_X11_rivals_66, e_X11_rivals_68, e_X11_rivals_69, e_X11_rivals_72, e_X11_rivals_74, e_X11_rivals_75, e_X11_rivals_77, e_X11_rivals_78, e_X11_rivals_80, e_X11_rivals_81, e_X11_rivals_84, e_X11_rivals_87, e_X11_rivals_90, e_X11_rivals_93, e_X11_rivals_94, e_X11_rivals_97, e_X11_rivals_99, e_X11_rivals_100, e_X11_rivals_101, e_X11_rivals_102, e_X11_rivals_105, e_X11_rivals_106, e_X11_rivals_107, e_X11_rivals_108, e_X11_rivals_111, e_X11_rivals_112, e_X11_rivals_113, e_X11_rivals_114, e_X11_rivals_117, e_X11_rivals_118, e_X11_rivals_119, e_X11_rivals_120, e_X11_rivals_123, e_X11_rivals_124, e_X11_rivals_125, e_X11_rivals_128, e_X11_rivals_129, e_X11_rivals_130, e_X11_rivals_133, e_X11_rivals_135, e_X11_rivals_136, e_X11_rivals_137, e_X11_rivals_138, e_X11_rivals_139, e_X11_rivals_140, e_X11_rivals_143, e_X11_rivals_144, ob_91, rk_91_8, ar_96, kcl_i, kcl_r, kcl_l, kcl_0, kcl_n, true_and, and_true, u3, h91, jpF (show x + 1 + z < m by omega) (by omega), if_false, m_able (show x < 8 by omega), m_able (show x + 1 + z < 8 by omega), u93, u94, u95, u96, ki17, ni17, c_bitCount, tn_s]
        show (if pBC ((mCo i x &&& mCo i (x + 1 + z)) &&& (i 96 17 ^^^ (-1))) ≤ u.1 then _ else _) = _
        unfold gRiv
        by_cases q : pBC ((mCo i x &&& mCo i (x + 1 + z)) &&& (i 96 17 ^^^ (-1))) ≤ u.1
        · simp only [q, if_true]; rfl
        · simp only [q, if_false]; rfl
theorem J_rivals (h : IV m i l f t sp) : JJ 116 232 [] i l f t sp := by
  obtain ⟨⟨h5, h91, h8, e9, hle, hp⟩, _⟩ := id h
  have hN := IV_now h
  by_cases q : m < 2
  · refine JJ_n h (-2) i (uPut i) ag_r (ag_uu ag_r) rfl rfl ?_ ?_
    · intro sc d y nx hd L st cu su K
      refine kCA_of (d := d + 499) (v := some (.int _)) (fun K => ?_)
      rw [km_116]
      show kWP sc (d + 499) 116 0 [.ref 0, .retAddr 0, .retAddr 0, .retAddr 0, .retAddr 0] [] _ K = _
      have c1 : ((2 : Int32) ≤ Int32.ofNat m) = False := jpF (n := 2) q (by decide)
      simp only [e_X10_rivals_0, e_X10_rivals_1, e_X10_rivals_4, e_X10_rivals_7, e_X10_rivals_8, e_X10_rivals_11, e_X10_rivals_13, e_X10_rivals_14, e_X10_rivals_15, e_X10_rivals_16, e_X10_rivals_17, e_X10_rivals_19, e_X10_rivals_20, e_X10_rivals_23, e_X10_rivals_26, e_X10_rivals_29, e_X10_rivals_30, e_X10_rivals_31, e_X10_rivals_32, e_X10_rivals_34, e_X10_rivals_35, e_X10_rivals_38, e_X10_rivals_41, e_X10_rivals_44, e_X10_rivals_45, e_X10_rivals_48, e_X10_rivals_51, e_X10_rivals_52, e_X10_rivals_53, e_X10_rivals_54, e_X10_rivals_57, e_X10_rivals_60, e_X10_rivals_61, e_X10_rivals_62, e_X10_rivals_63, e_X10_rivals_64, e_X10_rivals_67, e_X10_rivals_70, e_X10_rivals_71, e_X10_rivals_72, e_X10_rivals_73, e_X10_rivals_75, e_X10_rivals_77, e_X10_rivals_80, e_X10_rivals_81, e_X10_rivals_84, e_X10_rivals_86, e_X10_rivals_89, e_X10_rivals_90, e_X10_rivals_91, e_X10_rivals_94, e_X10_rivals_97, e_X10_rivals_98, e_X10_rivals_101, e_X10_rivals_102, e_X10_rivals_103, e_X10_rivals_106, e_X10_rivals_107, e_X10_rivals_110, e_X10_rivals_111, e_X10_rivals_112, e_X10_rivals_115, e_X10_rivals_116, e_X10_rivals_119, e_X10_rivals_121, e_X10_rivals_122, e_X10_rivals_125, e_X10_rivals_128, e_X10_rivals_131, e_X10_rivals_134, e_X10_rivals_137, e_X10_rivals_138, ob_0, rk_0_2, ob_5, rk_5_3, ar_8, rk_0_3, ob_10, ob_13, rk_0_1, ob_3, kcl_i, kcl_r, kcl_l, kcl_0, kcl_n, true_and, and_true, h5, c1, if_false]
    · have := m_rivals (l := l) (f := f) (t := t) (sp := sp) h91 h8
      rw [pRiv_no q, if_pos q, if_pos q] at this
      exact this
  · have hs := @pRiv_so m (mCo i) (i 96 17) (by omega)
    have hb := @pRiv_in m (mCo i) (i 96 17)
    generalize hW : pRiv (mCo i) (i 96 17) m = W at hs hb
    obtain ⟨w1, w2⟩ := W
    cases w2 with
    | none => exact absurd rfl hs
    | some p =>
      obtain ⟨p1, p2⟩ := p
      have hb' := hb _ rfl
      refine JJ_q h w1 3 i (uPut (wPut i 3)) (rvZ (mCo i) (i 96 17) (p1, p2)) rfl (by decide) ag_r (ag_uu ag_r) rfl ?_ ?_
      · intro sc d y nx hd L st cu su K
        refine kCA_of (d := d + 499) (v := some (.int _)) (fun K => ?_)
        rw [km_116]
        show kWP sc (d + 499) 116 0 [.ref 0, .retAddr 0, .retAddr 0, .retAddr 0, .retAddr 0] [] _ K = _
        have c1 : ((2 : Int32) ≤ Int32.ofNat m) = True := by rw [show (2 : Int32) = Int32.ofNat 2 from rfl, tn_le (by decide) (by omega)]; exact eq_true (by omega)
        simp only [e_X10_rivals_0, e_X10_rivals_1, e_X10_rivals_4, e_X10_rivals_7, e_X10_rivals_8, e_X10_rivals_11, e_X10_rivals_13, e_X10_rivals_14, e_X10_rivals_15, e_X10_rivals_16, e_X10_rivals_17, e_X10_rivals_19, e_X10_rivals_20, e_X10_rivals_23, e_X10_rivals_26, e_X10_rivals_29, e_X10_rivals_30, e_X10_rivals_31, e_X10_rivals_32, e_X10_rivals_34, e_X10_rivals_35, e_X10_rivals_38, e_X10_rivals_41, e_X10_rivals_44, e_X10_rivals_45, e_X10_rivals_48, e_X10_rivals_51, e_X10_rivals_52, e_X10_rivals_53, e_X10_rivals_54, e_X10_rivals_57, e_X10_rivals_60, e_X10_rivals_61, e_X10_rivals_62, e_X10_rivals_63, e_X10_rivals_64, e_X10_rivals_67, e_X10_rivals_70, e_X10_rivals_71, e_X10_rivals_72, e_X10_rivals_73, e_X10_rivals_75, e_X10_rivals_77, e_X10_rivals_80, e_X10_rivals_81, e_X10_rivals_84, e_X10_rivals_86, e_X10_rivals_89, e_X10_rivals_90, e_X10_rivals_91, e_X10_rivals_94, e_X10_rivals_97, e_X10_rivals_98, e_X10_rivals_101, e_X10_rivals_102, e_X10_rivals_103, e_X10_rivals_106, e_X10_rivals_107, e_X10_rivals_110, e_X10_rivals_111, e_X10_rivals_112, e_X10_rivals_115, e_X10_rivals_116, e_X10_rivals_119, e_X10_rivals_121, e_X10_rivals_122, e_X10_rivals_125, e_X10_rivals_128, e_X10_rivals_131, e_X10_rivals_134, e_X10_rivals_137, e_X10_rivals_138, ob_0, rk_0_2, ob_5, rk_5_3, ar_8, rk_0_3, ob_10, ob_13, rk_0_1, ob_3, kcl_i, kcl_r, kcl_l, kcl_0, kcl_n, true_and, and_true, h5, c1, if_true]
        have E := k_lq (n := m) (Q := fun x (w : (Int32 × Option (Nat × Nat)) × Value × Value) => kWP sc (d + 499) 116 18 [.ref 0, .int w.1.1, .int (Int32.ofNat x), w.2.1, w.2.2] [] ((120, cu, su), rvI i w.1, rvL l (mCo i) (i 96 17) w.1, kR f t sp) K) (I := fun x w => w.1 = kfo (gRiw (mCo i) (i 96 17) m) x (-1, none)) (b0 := ((-1, none), .retAddr 0, .retAddr 0)) ?_ rfl
        · obtain ⟨⟨w, v5, v6⟩, hw, e⟩ := E
          have hw' : w = pRiv (mCo i) (i 96 17) m := hw
          rw [hW] at hw'
          subst hw'
          refine e.trans ?_
          refine e_X10_rivals_18.trans ?_
          simp only [e_X10_rivals_0, e_X10_rivals_1, e_X10_rivals_4, e_X10_rivals_7, e_X10_rivals_8, e_X10_rivals_11, e_X10_rivals_13, e_X10_rivals_14, e_X10_rivals_15, e_X10_rivals_16, e_X10_rivals_17, e_X10_rivals_19, e_X10_rivals_20, e_X10_rivals_23, e_X10_rivals_26, e_X10_rivals_29, e_X10_rivals_30, e_X10_rivals_31, e_X10_rivals_32, e_X10_rivals_34, e_X10_rivals_35, e_X10_rivals_38, e_X10_rivals_41, e_X10_rivals_44, e_X10_rivals_45, e_X10_rivals_48, e_X10_rivals_51, e_X10_rivals_52, e_X10_rivals_53, e_X10_rivals_54, e_X10_rivals_57, e_X10_rivals_60, e_X10_rivals_61, e_X10_rivals_62, e_X10_rivals_63, e_X10_rivals_64, e_X10_rivals_67, e_X10_rivals_70, e_X10_rivals_71, e_X10_rivals_72, e_X10_rivals_73, e_X10_rivals_75, e_X10_rivals_77, e_X10_rivals_80, e_X10_rivals_81, e_X10_rivals_84, e_X10_rivals_86, e_X10_rivals_89, e_X10_rivals_90, e_X10_rivals_91, e_X10_rivals_94, e_X10_rivals_97, e_X10_rivals_98, e_X10_rivals_101, e_X10_rivals_102, e_X10_rivals_103, e_X10_rivals_106, e_X10_rivals_107, e_X10_rivals_110, e_X10_rivals_111, e_X10_rivals_112, e_X10_rivals_115, e_X10_rivals_116, e_X10_rivals_119, e_X10_rivals_121, e_X10_rivals_122, e_X10_rivals_125, e_X10_rivals_128, e_X10_rivals_131, e_X10_rivals_134, e_X10_rivals_137, e_X10_rivals_138, ob_0, rk_0_2, ob_5, rk_5_3, ar_8, rk_0_3, ob_10, ob_13, rk_0_1, ob_3, kcl_i, kcl_r, kcl_l, kcl_0, kcl_n, true_and, and_true, rvI_o (show 5 ≠ 3 by decide), h5, Int32.le_refl, if_true]
          rfl
        · intro x ⟨w, v5, v6⟩ hx hI
          have hI' : w = kfo (gRiw (mCo i) (i 96 17) m) x (-1, none) := hI
          have R := k_lq (n := m - (x + 1)) (Q := fun z (u : (Int32 × Option (Nat × Nat)) × Value) => kWP sc (d + 499) 116 33 [.ref 0, .int u.1.1, .int (Int32.ofNat x), .int (Int32.ofNat (x + 1 + z)), u.2] [] ((120, cu, su), rvI i u.1, rvL l (mCo i) (i 96 17) u.1, kR f t sp) K) (I := fun z u => u.1 = kfo (gRiv (mCo i) (i 96 17) x) z w) (b0 := (w, v6)) ?_ rfl
          · obtain ⟨⟨u, u6⟩, hu, e⟩ := R
            have hu' : u = gRiw (mCo i) (i 96 17) m x w := hu
            refine ⟨(u, .int (Int32.ofNat m), u6), ?_, ?_⟩
            · show u = gRiw (mCo i) (i 96 17) m x (kfo (gRiw (mCo i) (i 96 17) m) x (-1, none))
              rw [hu', hI']
            · refine e_X10_rivals_18.trans ?_
              simp only [e_X10_rivals_0, e_X10_rivals_1, e_X10_rivals_4, e_X10_rivals_7, e_X10_rivals_8, e_X10_rivals_11, e_X10_rivals_13, e_X10_rivals_14, e_X10_rivals_15, e_X10_rivals_16, e_X10_rivals_17, e_X10_rivals_19, e_X10_rivals_20, e_X10_rivals_23, e_X10_rivals_26, e_X10_rivals_29, e_X10_rivals_30, e_X10_rivals_31, e_X10_rivals_32, e_X10_rivals_34, e_X10_rivals_35, e_X10_rivals_38, e_X10_rivals_41, e_X10_rivals_44, e_X10_rivals_45, e_X10_rivals_48, e_X10_rivals_51, e_X10_rivals_52, e_X10_rivals_53, e_X10_rivals_54, e_X10_rivals_57, e_X10_rivals_60, e_X10_rivals_61, e_X10_rivals_62, e_X10_rivals_63, e_X10_rivals_64, e_X10_rivals_67, e_X10_rivals_70, e_X10_rivals_71, e_X10_rivals_72, e_X10_rivals_73, e_X10_rivals_75, e_X10_rivals_77, e_X10_rivals_80, e_X10_rivals_81, e_X10_rivals_84, e_X10_rivals_86, e_X10_rivals_89, e_X10_rivals_90, e_X10_rivals_91, e_X10_rivals_94, e_X10_rivals_97, e_X10_rivals_98, e_X10_rivals_101, e_X10_rivals_102, e_X10_rivals_103, e_X10_rivals_106, e_X10_rivals_107, e_X10_rivals_110, e_X10_rivals_111, e_X10_rivals_112, e_X10_rivals_115, e_X10_rivals_116, e_X10_rivals_119, e_X10_rivals_121, e_X10_rivals_122, e_X10_rivals_125, e_X10_rivals_128, e_X10_rivals_131, e_X10_rivals_134, e_X10_rivals_137, e_X10_rivals_138, ob_0, rk_0_2, ob_5, rk_5_3, ar_8, rk_0_3, ob_10, ob_13, rk_0_1, ob_3, kcl_i, kcl_r, kcl_l, kcl_0, kcl_n, true_and, and_true, rvI_o (show 5 ≠ 3 by decide), h5, jpF hx (by omega), if_false, tn_s]
              refine e.trans ?_
              refine e_X10_rivals_33.trans ?_
              simp only [e_X10_rivals_0, e_X10_rivals_1, e_X10_rivals_4, e_X10_rivals_7, e_X10_rivals_8, e_X10_rivals_11, e_X10_rivals_13, e_X10_rivals_14, e_X10_rivals_15, e_X10_rivals_16, e_X10_rivals_17, e_X10_rivals_19, e_X10_rivals_20, e_X10_rivals_23, e_X10_rivals_26, e_X10_rivals_29, e_X10_rivals_30, e_X10_rivals_31, e_X10_rivals_32, e_X10_rivals_34, e_X10_rivals_35, e_X10_rivals_38, e_X10_rivals_41, e_X10_rivals_44, e_X10_rivals_45, e_X10_rivals_48, e_X10_rivals_51, e_X10_rivals_52, e_X10_rivals_53, e_X10_rivals_54, e_X10_rivals_57, e_X10_rivals_60, e_X10_rivals_61, e_X10_rivals_62, e_X10_rivals_63, e_X10_rivals_64, e_X10_rivals_67, e_X10_rivals_70, e_X10_rivals_71, e_X10_rivals_72, e_X10_rivals_73, e_X10_rivals_75, e_X10_rivals_77, e_X10_rivals_80, e_X10_rivals_81, e_X10_rivals_84, e_X10_rivals_86, e_X10_rivals_89, e_X10_rivals_90, e_X10_rivals_91, e_X10_rivals_94, e_X10_rivals_97, e_X10_rivals_98, e_X10_rivals_101, e_X10_rivals_102, e_X10_rivals_103, e_X10_rivals_106, e_X10_rivals_107, e_X10_rivals_110, e_X10_rivals_111, e_X10_rivals_112, e_X10_rivals_115, e_X10_rivals_116, e_X10_rivals_119, e_X10_rivals_121, e_X10_rivals_122, e_X10_rivals_125, e_X10_rivals_128, e_X10_rivals_131, e_X10_rivals_134, e_X10_rivals_137, e_X10_rivals_138, ob_0, rk_0_2, ob_5, rk_5_3, ar_8, rk_0_3, ob_10, ob_13, rk_0_1, ob_3, kcl_i, kcl_r, kcl_l, kcl_0, kcl_n, true_and, and_true, rvI_o (show 5 ≠ 3 by decide), h5, show x + 1 + (m - (x + 1)) = m by omega, Int32.le_refl, if_true, tn_s]
          · intro z ⟨u, u6⟩ hz hu
            have hu' : u = kfo (gRiv (mCo i) (i 96 17) x) z w := hu
            have ea : i 8 x = mCo i x := (hp x hx).2.2
            have eb : i 8 (x + 1 + z) = mCo i (x + 1 + z) := (hp (x + 1 + z) (by omega)).2.2
            refine ⟨(gRiv (mCo i) (i 96 17) x z u, .int ((mCo i x &&& mCo i (x + 1 + z)) &&& (i 96 17 ^^^ (-1)))), ?_, ?_⟩
            · show gRiv (mCo i) (i 96 17) x z u = gRiv (mCo i) (i 96 17) x z (kfo (gRiv (mCo i) (i 96 17) x) z w)
              rw [hu']
            · refine e_X10_rivals_33.trans ?_
              simp only [e_X10_rivals_0, e_X10_rivals_1, e_X10_rivals_4, e_X10_rivals_7, e_X10_rivals_8, e_X10_rivals_11, e_X10_rivals_13, e_X10_rivals_14, e_X10_rivals_15, e_X10_rivals_16, e_X10_rivals_17, e_X10_rivals_19, e_X10_rivals_20, e_X10_rivals_23, e_X10_rivals_26, e_X10_rivals_29, e_X10_rivals_30, e_X10_rivals_31, e_X10_rivals_32, e_X10_rivals_34, e_X10_rivals_35, e_X10_rivals_38, e_X10_rivals_41, e_X10_rivals_44, e_X10_rivals_45, e_X10_rivals_48, e_X10_rivals_51, e_X10_rivals_52, e_X10_rivals_53, e_X10_rivals_54, e_X10_rivals_57, e_X10_rivals_60, e_X10_rivals_61, e_X10_rivals_62, e_X10_rivals_63, e_X10_rivals_64, e_X10_rivals_67, e_X10_rivals_70, e_X10_rivals_71, e_X10_rivals_72, e_X10_rivals_73, e_X10_rivals_75, e_X10_rivals_77, e_X10_rivals_80, e_X10_rivals_81, e_X10_rivals_84, e_X10_rivals_86, e_X10_rivals_89, e_X10_rivals_90, e_X10_rivals_91, e_X10_rivals_94, e_X10_rivals_97, e_X10_rivals_98, e_X10_rivals_101, e_X10_rivals_102, e_X10_rivals_103, e_X10_rivals_106, e_X10_rivals_107, e_X10_rivals_110, e_X10_rivals_111, e_X10_rivals_112, e_X10_rivals_115, e_X10_rivals_116, e_X10_rivals_119, e_X10_rivals_121, e_X10_rivals_122, e_X10_rivals_125, e_X10_rivals_128, e_X10_rivals_131, e_X10_rivals_134, e_X10_rivals_137, e_X10_rivals_138, ob_0, rk_0_2, ob_5, rk_5_3, ar_8, rk_0_3, ob_10, ob_13, rk_0_1, ob_3, kcl_i, kcl_r, kcl_l, kcl_0, kcl_n, true_and, and_true, rvI_o (show 5 ≠ 3 by decide), rvI_o (show 8 ≠ 3 by decide), rvI_o (show 10 ≠ 3 by decide), h5, jpF (show x + 1 + z < m by omega) (by omega), if_false, kin8 (show x < 8 by omega), kin8 (show x + 1 + z < 8 by omega), cl_n (show x < 100000 by omega), cl_n (show x + 1 + z < 100000 by omega), ea, eb, hN.1, c_bitCount, c_start, rvI_w, c_radd (show 0 < 128 by decide), c_radd (show 0 + 1 < 128 by decide), c_radd (show 0 + 1 + 1 < 128 by decide), tn_s]
              unfold gRiv
              by_cases q : pBC ((mCo i x &&& mCo i (x + 1 + z)) &&& (i 96 17 ^^^ (-1))) ≤ u.1
              · simp only [q, if_true]; rfl
              · simp only [q, if_false]
                have e3 := rvL_t (l := l) (co := mCo i) (said := i 96 17) (w := u) (zs := rvZ (mCo i) (i 96 17) (x, x + 1 + z)) rfl
                show kWP sc (d + 499) _ _ _ _ (_, _, tC (rvL l (mCo i) (i 96 17) u) 0 (rvZ (mCo i) (i 96 17) (x, x + 1 + z)), _) K = _
                rw [e3]; rfl
      · have W := m_rivals (i := wPut i 3) (l := tC l 0 (rvZ (mCo i) (i 96 17) (p1, p2))) (f := f) (t := t) (sp := sp) (m := m) (by rw [w91]; exact h91) h8
        rw [mCo_w, w96, hW, if_neg q, if_neg q] at W
        exact W
end TC
