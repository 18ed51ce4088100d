/-! shares -/
section TC
variable {sc : Nat × (Nat → Int32)} {d y nx : Nat} {hd : List (Int × Nat)} {L st : List Value} {S : kS} {cu su : Nat} {i : Nat → Nat → Int32} {l : Nat → Nat → Int64} {f t c b m : Nat} {sp : Nat → Nat} {K : Option (Option Value) → kS → Prop}
variable {N M Z S1 Q A B G : Nat → Int32} {i1 i2 i3 j : Nat → Nat → Int32} {l2 : Nat → Nat → Int64} {n n2 k x a o g u many : Nat} {v r p q w : Int32} {zs zs2 : List Int64} {co : Nat → Int32}
/-- can the man take the thing -/
abbrev hsC (co : Nat → Int32) (w : Int32) (t u a : Nat) : Prop := pBit (Int32.ofNat u) a = 0 ∧ ¬ pBit (co a &&& w) t = 0
/-- the best so far and the first who reaches it -/
def hsRun (c : Nat → Prop) [DecidablePred c] (val : Nat → Nat) (x : Nat) (s : Nat × Option Nat) : Nat × Option Nat := kfo (fun a s => if c a ∧ s.1 < val a then (val a, some a) else s) x s
def hsB (co : Nat → Int32) (w : Int32) (m : Nat) : Nat → Nat → Nat
  | 0, _ => 0
  | k + 1, u => (hsRun (hsC co w (7 - k) u) (fun a => 1 + hsB co w m k (u ||| 2 ^ a)) m (hsB co w m k u, none)).1
def hsCh (co : Nat → Int32) (w : Int32) (m k u : Nat) : Option Nat := (hsRun (hsC co w (7 - k) u) (fun a => 1 + hsB co w m k (u ||| 2 ^ a)) m (hsB co w m k u, none)).2
def oI : Option Nat → Int32
  | none => -1
  | some a => Int32.ofNat a
def oU (u : Nat) : Option Nat → Nat
  | none => u
  | some a => u ||| 2 ^ a
def hsG (co : Nat → Int32) (w : Int32) (m : Nat) : Nat → Nat → Nat → Int32
  | 0, _, _ => 0
  | k + 1, u, j => if j = 7 - k then oI (hsCh co w m k u) else hsG co w m k (oU u (hsCh co w m k u)) j
theorem hsB_le : ∀ k u, hsB co w m k u ≤ k := by
  intro k
  induction k with
  | zero => intro u; exact Nat.le_refl 0
  | succ k ih =>
    intro u
    show (hsRun _ _ m _).1 ≤ k + 1
    unfold hsRun
    refine kfo_inv (I := fun _ (s : Nat × Option Nat) => s.1 ≤ k + 1) (fun x s hx hs => ?_) (Nat.le_succ_of_le (ih u))
    dsimp only
    split
    · have := ih (u ||| 2 ^ x)
      show 1 + hsB co w m k (u ||| 2 ^ x) ≤ k + 1
      omega
    · exact hs
abbrev SS := (Nat → Int32) × (Nat → Int32) × Nat
def hsF (co : Nat → Int32) (w : Int32) (m : Nat) : Nat → Nat → Nat → SS → SS
  | 0, _, many, s => if many < s.2.2 then s else (s.1, kfo (fun j B => kuf B j (s.1 j)) 8 s.2.1, many + 1)
  | k + 1, u, many, s => if many + k + 1 < s.2.2 then s else kfo (fun a s => if hsC co w (7 - k) u a then hsF co w m k (u ||| 2 ^ a) (many + 1) (kuf s.1 (7 - k) (Int32.ofNat a), s.2) else s) m (hsF co w m k u many (kuf s.1 (7 - k) (-1), s.2))
theorem hsF_spec : ∀ k, k ≤ 8 → ∀ (u many : Nat) (s : SS), (∀ j, j < 8 - k → (hsF co w m k u many s).1 j = s.1 j) ∧ (hsF co w m k u many s).2.2 = max s.2.2 (many + hsB co w m k u + 1) ∧ ∀ j, j < 8 → (hsF co w m k u many s).2.1 j = if s.2.2 < many + hsB co w m k u + 1 then (if j < 8 - k then s.1 j else hsG co w m k u j) else s.2.1 j := by
  intro k
  induction k with
  | zero =>
    intro _ u many s
    unfold hsF
    by_cases q : many < s.2.2
    · rw [if_pos q]
      refine ⟨fun _ _ => rfl, ?_, fun j hj => ?_⟩
      · show s.2.2 = max s.2.2 (many + 0 + 1); omega
      · show _ = if s.2.2 < many + 0 + 1 then _ else _
        rw [if_neg (by omega)]
    · rw [if_neg q]
      refine ⟨fun _ _ => rfl, ?_, fun j hj => ?_⟩
      · show many + 1 = max s.2.2 (many + 0 + 1); omega
      · show kfo (fun j B => kuf B j (s.1 j)) 8 s.2.1 j = if s.2.2 < many + 0 + 1 then _ else _
        rw [if_pos (by omega), if_pos (by omega), kfo_kuf, if_pos hj]
  | succ k ih =>
    intro h8 u many s
    have hk : k ≤ 8 := by omega
    rw [hsF]
    by_cases q : many + k + 1 < s.2.2
    · have := hsB_le (co := co) (w := w) (m := m) (k + 1) u
      rw [if_pos q]
      refine ⟨fun _ _ => rfl, by omega, fun j hj => ?_⟩
      rw [if_neg (by omega)]
    · rw [if_neg q]
      have I0 := ih hk u many (kuf s.1 (7 - k) (-1), s.2)
      have R := kfo_rel (g := fun a s => if hsC co w (7 - k) u a then hsF co w m k (u ||| 2 ^ a) (many + 1) (kuf s.1 (7 - k) (Int32.ofNat a), s.2) else s) (g2 := fun a s => if hsC co w (7 - k) u a ∧ s.1 < 1 + hsB co w m k (u ||| 2 ^ a) then (1 + hsB co w m k (u ||| 2 ^ a), some a) else s) (n := m) (a := hsF co w m k u many (kuf s.1 (7 - k) (-1), s.2)) (b := (hsB co w m k u, (none : Option Nat)))
        (R := fun _ z y => (∀ j, j < 7 - k → z.1 j = s.1 j) ∧ z.2.2 = max s.2.2 (many + y.1 + 1) ∧ ∀ j, j < 8 → z.2.1 j = if s.2.2 < many + y.1 + 1 then (if j < 7 - k then s.1 j else if j = 7 - k then oI y.2 else hsG co w m k (oU u y.2) j) else s.2.1 j)
        (fun x z y hx hR => ?_) ?_
      · have e1 : (kfo (fun a s => if hsC co w (7 - k) u a ∧ s.1 < 1 + hsB co w m k (u ||| 2 ^ a) then (1 + hsB co w m k (u ||| 2 ^ a), some a) else s) m (hsB co w m k u, (none : Option Nat))).1 = hsB co w m (k + 1) u := rfl
        have e2 : (kfo (fun a s => if hsC co w (7 - k) u a ∧ s.1 < 1 + hsB co w m k (u ||| 2 ^ a) then (1 + hsB co w m k (u ||| 2 ^ a), some a) else s) m (hsB co w m k u, (none : Option Nat))).2 = hsCh co w m k u := rfl
        rw [e1, e2] at R
        refine ⟨fun j hj => R.1 j (by omega), R.2.1, fun j hj => ?_⟩
        rw [R.2.2 j hj, show 8 - (k + 1) = 7 - k by omega, hsG]
      · obtain ⟨h1, h2, h3⟩ := hR
        by_cases c : hsC co w (7 - k) u x
        · simp only [eq_true c, if_true, true_and]
          have I1 := ih hk (u ||| 2 ^ x) (many + 1) (kuf z.1 (7 - k) (Int32.ofNat x), z.2)
          by_cases c2 : y.1 < 1 + hsB co w m k (u ||| 2 ^ x)
          · rw [if_pos c2]
            dsimp only at I1 ⊢
            refine ⟨fun j hj => ?_, ?_, fun j hj => ?_⟩
            · rw [I1.1 j (by omega), kuf_n (by omega)]; exact h1 j hj
            · rw [I1.2.1, h2]; omega
            · rw [I1.2.2 j hj, h2]
              by_cases c3 : s.2.2 < many + (1 + hsB co w m k (u ||| 2 ^ x)) + 1
              · rw [if_pos (by omega), if_pos c3]
                by_cases c4 : j < 7 - k
                · rw [if_pos (by omega), if_pos c4, kuf_n (by omega), h1 j c4]
                · by_cases c5 : j = 7 - k
                  · rw [if_pos (by omega), if_neg c4, if_pos c5, c5, kuf_s]; rfl
                  · rw [if_neg (by omega), if_neg c4, if_neg c5]; rfl
              · rw [if_neg (by omega), if_neg c3, h3 j hj, if_neg (by omega)]
          · rw [if_neg c2]
            dsimp only at I1 ⊢
            refine ⟨fun j hj => ?_, ?_, fun j hj => ?_⟩
            · rw [I1.1 j (by omega), kuf_n (by omega)]; exact h1 j hj
            · rw [I1.2.1, h2]; omega
            · rw [I1.2.2 j hj, h2, if_neg (by omega)]; exact h3 j hj
        · simp only [eq_false c, if_false, false_and]
          exact ⟨h1, h2, h3⟩
      · dsimp only at I0 ⊢
        refine ⟨fun j hj => ?_, I0.2.1, fun j hj => ?_⟩
        · rw [I0.1 j (by omega), kuf_n (by omega)]
        · rw [I0.2.2 j hj]
          by_cases c3 : s.2.2 < many + hsB co w m k u + 1
          · rw [if_pos c3, if_pos c3]
            by_cases c4 : j < 7 - k
            · rw [if_pos (by omega), if_pos c4, kuf_n (by omega)]
            · by_cases c5 : j = 7 - k
              · rw [if_pos (by omega), if_neg c4, if_pos c5, c5, kuf_s]; rfl
              · rw [if_neg (by omega), if_neg c4, if_neg c5]; rfl
          · rw [if_neg c3, if_neg c3]
/-- the most so far, one more than it is -/
def bM (n : Nat) : Int32 := if n = 0 then -1 else Int32.ofNat (n - 1)
theorem bM_le {x n : Nat} (hx : x < 1000) (hn : n < 1000) : (Int32.ofNat x ≤ bM n) = (x < n) := by
  unfold bM
  by_cases q : n = 0
  · rw [if_pos q]
    apply propext
    constructor
    · intro h
      exact absurd (Int32.lt_of_le_of_lt h (show (-1 : Int32) < 0 by decide)) (tn_nn (by omega))
    · intro h; omega
  · rw [if_neg q, tn_le (by omega) (by omega)]
    apply propext; omega
theorem bM_lt {x n : Nat} (hx : x < 1000) (hn : n < 1000) : (bM n < Int32.ofNat x) = ¬ (x < n) := by
  rw [← bM_le hx hn]; exact propext Int32.not_le.symm
def hsS (i : Nat → Nat → Int32) (s : SS) : Nat → Nat → Int32 := kupi (aPut (aPut i 109 8 s.1) 110 8 s.2.1) 91 36 (bM s.2.2)
theorem hsS_o {c : Nat} {s : SS} (h1 : c ≠ 91) (h2 : c ≠ 109) (h3 : c ≠ 110) : hsS i s c = i c := by unfold hsS; rw [kupi_cf h1, aP_o h3, aP_o h2]
theorem hsS_f {z : Nat} {s : SS} (h1 : z ≠ 36) : hsS i s 91 z = i 91 z := by unfold hsS; rw [kupi_k h1, aP_o (by decide), aP_o (by decide)]
theorem hsS_36 {s : SS} : hsS i s 91 36 = bM s.2.2 := kupi_s
theorem hsS_109 {z : Nat} {s : SS} (h : z < 8) : hsS i s 109 z = s.1 z := by unfold hsS; rw [kupi_cf (by decide), aP_o (by decide), aP_s h]
theorem hsS_110 {z : Nat} {s : SS} (h : z < 8) : hsS i s 110 z = s.2.1 z := by unfold hsS; rw [kupi_cf (by decide), aP_s h]
theorem hsU_109 {z : Nat} {s : SS} {v : Int32} (h : z < 8) : kupi (hsS i s) 109 z v = hsS i (kuf s.1 z v, s.2) := by
  unfold hsS
  dsimp only
  rw [← aW_s h]
  funext c q
  unfold kupi aPut
  dsimp only
  by_cases e : c = 109 ∧ q = z
  · rw [if_pos e, if_neg (by omega), if_neg (by omega), if_pos e]
  · rw [if_neg e]
    by_cases e2 : c = 91 ∧ q = 36
    · rw [if_pos e2, if_pos e2]
    · rw [if_neg e2, if_neg e2, if_neg e]
theorem hsU_110 {z : Nat} {s : SS} {v : Int32} (h : z < 8) : kupi (hsS i s) 110 z v = hsS i (s.1, kuf s.2.1 z v, s.2.2) := by
  unfold hsS
  dsimp only
  rw [← aW_s h]
  funext c q
  unfold kupi
  by_cases e : c = 110 ∧ q = z
  · rw [if_pos e, if_neg (by omega), if_pos e]
  · rw [if_neg e, if_neg e]
theorem hsU_36 {s : SS} {n : Nat} : kupi (hsS i s) 91 36 (bM n) = hsS i (s.1, s.2.1, n) := by
  unfold hsS
  dsimp only
  rw [kup2]
theorem mCo_hs {s : SS} : mCo (hsS i s) = mCo i := by unfold mCo; rw [hsS_o (by decide) (by decide) (by decide), hsS_o (by decide) (by decide) (by decide), hsS_o (by decide) (by decide) (by decide)]
theorem bM_s {n : Nat} : Int32.ofNat n = bM (n + 1) := by unfold bM; rw [if_neg (by omega)]; rfl
theorem or_nat {u a : Nat} (ha : a ≤ 8) : Int32.ofNat u ||| (1 <<< (Int32.ofNat a &&& 31)) = Int32.ofNat (u ||| 2 ^ a) := by
  rw [shl_m a ha]
  apply Int32.toBitVec_inj.1
  rw [Int32.toBitVec_or, Int32.toBitVec_ofNat', Int32.toBitVec_ofNat', Int32.toBitVec_ofNat', BitVec.ofNat_or]
theorem or_fit {u a : Nat} (hu : u < 2 ^ m) (ha : a < m) : u ||| 2 ^ a < 2 ^ m := Nat.or_lt_two_pow hu (Nat.pow_lt_pow_right (by decide) ha)
theorem m_sharesFrom (h91 : i 91 3 = Int32.ofNat m) (h8 : m ≤ 8) : ∀ k, k ≤ 8 → ∀ (u many : Nat) (s : SS), u < 2 ^ m → many + k ≤ 8 → s.2.2 ≤ 9 → ∀ (d y nx : Nat) (hd : List (Int × Nat)) (L st : List Value) (cu su : Nat) (K : Option (Option Value) → kS → Prop), kCA sc (d + k + 3) 226 [.ref 91, .int (Int32.ofNat (8 - k)), .int (Int32.ofNat u), .int (Int32.ofNat many)] y nx hd L st ((120, cu, su), hsS i s, l, kR f t sp) K = kWP sc (d + k + 3) y nx L st ((120, cu, su), hsS i (hsF (mCo i) (i 96 17 ^^^ (-1)) m k u many s), l, kR f t sp) K := by
  intro k
  induction k with
  | zero =>
    intro _ u many s hu h9 hn d y nx hd L st cu su K
    refine kCA_of (d := d + 2) (v := none) (S2 := ((120, cu, su), hsS i (hsF (mCo i) (i 96 17 ^^^ (-1)) m 0 u many s), l, kR f t sp)) (fun K => ?_)
    rw [km_226]
    show kWP sc (d + 2) 226 0 [.ref 91, .int 8, .int (Int32.ofNat u), .int (Int32.ofNat many), .retAddr 0] [] _ K = _
    unfold hsF
    simp only [e_X11_sharesFrom_0, e_X11_sharesFrom_1, e_X11_sharesFrom_3, e_X11_sharesFrom_6, e_X11_sharesFrom_7, e_X11_sharesFrom_8, e_X11_sharesFrom_11, e_X11_sharesFrom_14, e_X11_sharesFrom_15, e_X11_sharesFrom_16, e_X11_sharesFrom_19, e_X11_sharesFrom_20, e_X11_sharesFrom_24, e_X11_sharesFrom_26, e_X11_sharesFrom_29, e_X11_sharesFrom_30, e_X11_sharesFrom_33, e_X11_sharesFrom_35, e_X11_sharesFrom_36, e_X11_sharesFrom_39, e_X11_sharesFrom_41, e_X11_sharesFrom_42, e_X11_sharesFrom_43, e_X11_sharesFrom_46, e_X11_sharesFrom_49, e_X11_sharesFrom_50, e_X11_sharesFrom_51, e_X11_sharesFrom_53, e_X11_sharesFrom_54, e_X11_sharesFrom_55, e_X11_sharesFrom_56, e_X11_sharesFrom_57, e_X11_sharesFrom_60, e_X11_sharesFrom_63, e_X11_sharesFrom_64, e_X11_sharesFrom_65, e_X11_sharesFrom_68, e_X11_sharesFrom_69, e_X11_sharesFrom_70, e_X11_sharesFrom_71, e_X11_sharesFrom_72, e_X11_sharesFrom_73, e_X11_sharesFrom_74, e_X11_sharesFrom_75, e_X11_sharesFrom_76, e_X11_sharesFrom_77, e_X11_sharesFrom_80, e_X11_sharesFrom_81, e_X11_sharesFrom_85, e_X11_sharesFrom_86, e_X11_sharesFrom_89, e_X11_sharesFrom_92, e_X11_sharesFrom_93, e_X11_sharesFrom_95, e_X11_sharesFrom_98, e_X11_sharesFrom_101, e_X11_sharesFrom_102, e_X11_sharesFrom_104, e_X11_sharesFrom_107, e_X11_sharesFrom_108, e_X11_sharesFrom_111, e_X11_sharesFrom_113, e_X11_sharesFrom_114, e_X11_sharesFrom_115, e_X11_sharesFrom_116, e_X11_sharesFrom_117, e_X11_sharesFrom_118, e_X11_sharesFrom_121, e_X11_sharesFrom_124, e_X11_sharesFrom_125, e_X11_sharesFrom_128, e_X11_sharesFrom_129, e_X11_sharesFrom_131, e_X11_sharesFrom_132, e_X11_sharesFrom_133, e_X11_sharesFrom_134, e_X11_sharesFrom_135, e_X11_sharesFrom_136, e_X11_sharesFrom_137, e_X11_sharesFrom_138, e_X11_sharesFrom_140, e_X11_sharesFrom_141, e_X11_sharesFrom_142, e_X11_sharesFrom_143, e_X11_sharesFrom_144, e_X11_sharesFrom_145, e_X11_sharesFrom_148, e_X11_sharesFrom_151, e_X11_sharesFrom_154, ob_91, rk_91_35, ar_110, rk_91_34, ar_109, rk_91_8, ar_96, kcl_i, kcl_r, kcl_l, kcl_0, kcl_n, true_and, and_true, hsS_36, bM_le (show many < 1000 by omega) (show s.2.2 < 1000 by omega), if_true, if_false, not_true_eq_false]
    by_cases q : many < s.2.2
    · simp only [q, if_true]
    · simp only [q, if_false]
      rw [show kupi (hsS i s) 91 36 (Int32.ofNat many) = hsS i (s.1, s.2.1, many + 1) from by rw [bM_s, hsU_36]]
      refine (k_for (P := fun x (B : Nat → Int32) => kWP sc (d + 2) 226 22 [.ref 91, .int 8, .int (Int32.ofNat u), .int (Int32.ofNat many), .int (Int32.ofNat x)] [] ((120, cu, su), hsS i (s.1, B, many + 1), l, kR f t sp) K) (n := 8) (g := fun j B => kuf B j (s.1 j)) ?_ s.2.1).trans ?_
      · intro x B hx
        refine e_X11_sharesFrom_22.trans ?_
        simp only [e_X11_sharesFrom_0, e_X11_sharesFrom_1, e_X11_sharesFrom_3, e_X11_sharesFrom_6, e_X11_sharesFrom_7, e_X11_sharesFrom_8, e_X11_sharesFrom_11, e_X11_sharesFrom_14, e_X11_sharesFrom_15, e_X11_sharesFrom_16, e_X11_sharesFrom_19, e_X11_sharesFrom_20, e_X11_sharesFrom_24, e_X11_sharesFrom_26, e_X11_sharesFrom_29, e_X11_sharesFrom_30, e_X11_sharesFrom_33, e_X11_sharesFrom_35, e_X11_sharesFrom_36, e_X11_sharesFrom_39, e_X11_sharesFrom_41, e_X11_sharesFrom_42, e_X11_sharesFrom_43, e_X11_sharesFrom_46, e_X11_sharesFrom_49, e_X11_sharesFrom_50, e_X11_sharesFrom_51, e_X11_sharesFrom_53, e_X11_sharesFrom_54, e_X11_sharesFrom_55, e_X11_sharesFrom_56, e_X11_sharesFrom_57, e_X11_sharesFrom_60, e_X11_sharesFrom_63, e_X11_sharesFrom_64, e_X11_sharesFrom_65, e_X11_sharesFrom_68, e_X11_sharesFrom_69, e_X11_sharesFrom_70, e_X11_sharesFrom_71, e_X11_sharesFrom_72, e_X11_sharesFrom_73, e_X11_sharesFrom_74, e_X11_sharesFrom_75, e_X11_sharesFrom_76, e_X11_sharesFrom_77, e_X11_sharesFrom_80, e_X11_sharesFrom_81, e_X11_sharesFrom_85, e_X11_sharesFrom_86, e_X11_sharesFrom_89, e_X11_sharesFrom_92, e_X11_sharesFrom_93, e_X11_sharesFrom_95, e_X11_sharesFrom_98, e_X11_sharesFrom_101, e_X11_sharesFrom_102, e_X11_sharesFrom_104, e_X11_sharesFrom_107, e_X11_sharesFrom_108, e_X11_sharesFrom_111, e_X11_sharesFrom_113, e_X11_sharesFrom_114, e_X11_sharesFrom_115, e_X11_sharesFrom_116, e_X11_sharesFrom_117, e_X11_sharesFrom_118, e_X11_sharesFrom_121, e_X11_sharesFrom_124, e_X11_sharesFrom_125, e_X11_sharesFrom_128, e_X11_sharesFrom_129, e_X11_sharesFrom_131, e_X11_sharesFrom_132, e_X11_sharesFrom_133, e_X11_sharesFrom_134, e_X11_sharesFrom_135, e_X11_sharesFrom_136, e_X11_sharesFrom_137, e_X11_sharesFrom_138, e_X11_sharesFrom_140, e_X11_sharesFrom_141, e_X11_sharesFrom_142, e_X11_sharesFrom_143, e_X11_sharesFrom_144, e_X11_sharesFrom_145, e_X11_sharesFrom_148, e_X11_sharesFrom_151, e_X11_sharesFrom_154, ob_91, rk_91_35, ar_110, rk_91_34, ar_109, rk_91_8, ar_96, kcl_i, kcl_r, kcl_l, kcl_0, kcl_n, true_and, and_true, jp8 hx, if_false, kin8 hx, cl_n (show x < 100000 by omega), hsS_109 hx, hsU_110 hx, tn_s]
      · refine e_X11_sharesFrom_22.trans ?_
        simp only [e_X11_sharesFrom_0, e_X11_sharesFrom_1, e_X11_sharesFrom_3, e_X11_sharesFrom_6, e_X11_sharesFrom_7, e_X11_sharesFrom_8, e_X11_sharesFrom_11, e_X11_sharesFrom_14, e_X11_sharesFrom_15, e_X11_sharesFrom_16, e_X11_sharesFrom_19, e_X11_sharesFrom_20, e_X11_sharesFrom_24, e_X11_sharesFrom_26, e_X11_sharesFrom_29, e_X11_sharesFrom_30, e_X11_sharesFrom_33, e_X11_sharesFrom_35, e_X11_sharesFrom_36, e_X11_sharesFrom_39, e_X11_sharesFrom_41, e_X11_sharesFrom_42, e_X11_sharesFrom_43, e_X11_sharesFrom_46, e_X11_sharesFrom_49, e_X11_sharesFrom_50, e_X11_sharesFrom_51, e_X11_sharesFrom_53, e_X11_sharesFrom_54, e_X11_sharesFrom_55, e_X11_sharesFrom_56, e_X11_sharesFrom_57, e_X11_sharesFrom_60, e_X11_sharesFrom_63, e_X11_sharesFrom_64, e_X11_sharesFrom_65, e_X11_sharesFrom_68, e_X11_sharesFrom_69, e_X11_sharesFrom_70, e_X11_sharesFrom_71, e_X11_sharesFrom_72, e_X11_sharesFrom_73, e_X11_sharesFrom_74, e_X11_sharesFrom_75, e_X11_sharesFrom_76, e_X11_sharesFrom_77, e_X11_sharesFrom_80, e_X11_sharesFrom_81, e_X11_sharesFrom_85, e_X11_sharesFrom_86, e_X11_sharesFrom_89, e_X11_sharesFrom_92, e_X11_sharesFrom_93, e_X11_sharesFrom_95, e_X11_sharesFrom_98, e_X11_sharesFrom_101, e_X11_sharesFrom_102, e_X11_sharesFrom_104, e_X11_sharesFrom_107, e_X11_sharesFrom_108, e_X11_sharesFrom_111, e_X11_sharesFrom_113, e_X11_sharesFrom_114, e_X11_sharesFrom_115, e_X11_sharesFrom_116, e_X11_sharesFrom_117, e_X11_sharesFrom_118, e_X11_sharesFrom_121, e_X11_sharesFrom_124, e_X11_sharesFrom_125, e_X11_sharesFrom_128, e_X11_sharesFrom_129, e_X11_sharesFrom_131, e_X11_sharesFrom_132, e_X11_sharesFrom_133, e_X11_sharesFrom_134, e_X11_sharesFrom_135, e_X11_sharesFrom_136, e_X11_sharesFrom_137, e_X11_sharesFrom_138, e_X11_sharesFrom_140, e_X11_sharesFrom_141, e_X11_sharesFrom_142, e_X11_sharesFrom_143, e_X11_sharesFrom_144, e_X11_sharesFrom_145, e_X11_sharesFrom_148, e_X11_sharesFrom_151, e_X11_sharesFrom_154, ob_91, rk_91_35, ar_110, rk_91_34, ar_109, rk_91_8, ar_96, kcl_i, kcl_r, kcl_l, kcl_0, kcl_n, true_and, and_true, jp88, if_true]
  | succ k ih =>
    intro hk u many s hu h9 hn d y nx hd L st cu su K
    refine kCA_of (d := d + k + 3) (v := none) (S2 := ((120, cu, su), hsS i (hsF (mCo i) (i 96 17 ^^^ (-1)) m (k + 1) u many s), l, kR f t sp)) (fun K => ?_)
    rw [km_226]
    show kWP sc (d + k + 3) 226 0 [.ref 91, .int (Int32.ofNat (8 - (k + 1))), .int (Int32.ofNat u), .int (Int32.ofNat many), .retAddr 0] [] _ K = _
    rw [show 8 - (k + 1) = 7 - k by omega, hsF]
    have n8 : (Int32.ofNat (7 - k) = 8) = False := by rw [show (8 : Int32) = Int32.ofNat 8 from rfl, tn_eq (by omega) (by decide)]; exact eq_false (by omega)
    have e7 : Int32.ofNat (7 - k) + 1 = Int32.ofNat (8 - k) := by rw [tn_s, show 7 - k + 1 = 8 - k by omega]
    have eb : Int32.ofNat many + 8 - Int32.ofNat (7 - k) = Int32.ofNat (many + k + 1) := by
      rw [show (8 : Int32) = Int32.ofNat 8 from rfl, ← Int32.ofNat_add, sub_nat (by omega), show many + 8 - (7 - k) = many + k + 1 by omega]
    simp only [e_X11_sharesFrom_0, e_X11_sharesFrom_1, e_X11_sharesFrom_3, e_X11_sharesFrom_6, e_X11_sharesFrom_7, e_X11_sharesFrom_8, e_X11_sharesFrom_11, e_X11_sharesFrom_14, e_X11_sharesFrom_15, e_X11_sharesFrom_16, e_X11_sharesFrom_19, e_X11_sharesFrom_20, e_X11_sharesFrom_24, e_X11_sharesFrom_26, e_X11_sharesFrom_29, e_X11_sharesFrom_30, e_X11_sharesFrom_33, e_X11_sharesFrom_35, e_X11_sharesFrom_36, e_X11_sharesFrom_39, e_X11_sharesFrom_41, e_X11_sharesFrom_42, e_X11_sharesFrom_43, e_X11_sharesFrom_46, e_X11_sharesFrom_49, e_X11_sharesFrom_50, e_X11_sharesFrom_51, e_X11_sharesFrom_53, e_X11_sharesFrom_54, e_X11_sharesFrom_55, e_X11_sharesFrom_56, e_X11_sharesFrom_57, e_X11_sharesFrom_60, e_X11_sharesFrom_63, e_X11_sharesFrom_64, e_X11_sharesFrom_65, e_X11_sharesFrom_68, e_X11_sharesFrom_69, e_X11_sharesFrom_70, e_X11_sharesFrom_71, e_X11_sharesFrom_72, e_X11_sharesFrom_73, e_X11_sharesFrom_74, e_X11_sharesFrom_75, e_X11_sharesFrom_76, e_X11_sharesFrom_77, e_X11_sharesFrom_80, e_X11_sharesFrom_81, e_X11_sharesFrom_85, e_X11_sharesFrom_86, e_X11_sharesFrom_89, e_X11_sharesFrom_92, e_X11_sharesFrom_93, e_X11_sharesFrom_95, e_X11_sharesFrom_98, e_X11_sharesFrom_101, e_X11_sharesFrom_102, e_X11_sharesFrom_104, e_X11_sharesFrom_107, e_X11_sharesFrom_108, e_X11_sharesFrom_111, e_X11_sharesFrom_113, e_X11_sharesFrom_114, e_X11_sharesFrom_115, e_X11_sharesFrom_116, e_X11_sharesFrom_117, e_X11_sharesFrom_118, e_X11_sharesFrom_121, e_X11_sharesFrom_124, e_X11_sharesFrom_125, e_X11_sharesFrom_128, e_X11_sharesFrom_129, e_X11_sharesFrom_131, e_X11_sharesFrom_132, e_X11_sharesFrom_133, e_X11_sharesFrom_134, e_X11_sharesFrom_135, e_X11_sharesFrom_136, e_X11_sharesFrom_137, e_X11_sharesFrom_138, e_X11_sharesFrom_140, e_X11_sharesFrom_141, e_X11_sharesFrom_142, e_X11_sharesFrom_143, e_X11_sharesFrom_144, e_X11_sharesFrom_145, e_X11_sharesFrom_148, e_X11_sharesFrom_151, e_X11_sharesFrom_154, ob_91, rk_91_35, ar_110, rk_91_34, ar_109, rk_91_8, ar_96, kcl_i, kcl_r, kcl_l, kcl_0, kcl_n, true_and, and_true, hsS_36, n8, not_false_eq_true, if_true, if_false, eb, bM_lt (show many + k + 1 < 1000 by omega) (show s.2.2 < 1000 by omega)]
    by_cases q : many + k + 1 < s.2.2
    · simp only [q, if_true, if_false, not_true_eq_false]
    · simp only [q, if_true, if_false, not_false_eq_true, kin8 (show 7 - k < 8 by omega), cl_n (show 7 - k < 100000 by omega), hsU_109 (show 7 - k < 8 by omega), e7, ih (by omega) u many (kuf s.1 (7 - k) (-1), s.2) hu (by omega) hn, e_X11_sharesFrom_0, e_X11_sharesFrom_1, e_X11_sharesFrom_3, e_X11_sharesFrom_6, e_X11_sharesFrom_7, e_X11_sharesFrom_8, e_X11_sharesFrom_11, e_X11_sharesFrom_14, e_X11_sharesFrom_15, e_X11_sharesFrom_16, e_X11_sharesFrom_19, e_X11_sharesFrom_20, e_X11_sharesFrom_24, e_X11_sharesFrom_26, e_X11_sharesFrom_29, e_X11_sharesFrom_30, e_X11_sharesFrom_33, e_X11_sharesFrom_35, e_X11_sharesFrom_36, e_X11_sharesFrom_39, e_X11_sharesFrom_41, e_X11_sharesFrom_42, e_X11_sharesFrom_43, e_X11_sharesFrom_46, e_X11_sharesFrom_49, e_X11_sharesFrom_50, e_X11_sharesFrom_51, e_X11_sharesFrom_53, e_X11_sharesFrom_54, e_X11_sharesFrom_55, e_X11_sharesFrom_56, e_X11_sharesFrom_57, e_X11_sharesFrom_60, e_X11_sharesFrom_63, e_X11_sharesFrom_64, e_X11_sharesFrom_65, e_X11_sharesFrom_68, e_X11_sharesFrom_69, e_X11_sharesFrom_70, e_X11_sharesFrom_71, e_X11_sharesFrom_72, e_X11_sharesFrom_73, e_X11_sharesFrom_74, e_X11_sharesFrom_75, e_X11_sharesFrom_76, e_X11_sharesFrom_77, e_X11_sharesFrom_80, e_X11_sharesFrom_81, e_X11_sharesFrom_85, e_X11_sharesFrom_86, e_X11_sharesFrom_89, e_X11_sharesFrom_92, e_X11_sharesFrom_93, e_X11_sharesFrom_95, e_X11_sharesFrom_98, e_X11_sharesFrom_101, e_X11_sharesFrom_102, e_X11_sharesFrom_104, e_X11_sharesFrom_107, e_X11_sharesFrom_108, e_X11_sharesFrom_111, e_X11_sharesFrom_113, e_X11_sharesFrom_114, e_X11_sharesFrom_115, e_X11_sharesFrom_116, e_X11_sharesFrom_117, e_X11_sharesFrom_118, e_X11_sharesFrom_121, e_X11_sharesFrom_124, e_X11_sharesFrom_125, e_X11_sharesFrom_128, e_X11_sharesFrom_129, e_X11_sharesFrom_131, e_X11_sharesFrom_132, e_X11_sharesFrom_133, e_X11_sharesFrom_134, e_X11_sharesFrom_135, e_X11_sharesFrom_136, e_X11_sharesFrom_137, e_X11_sharesFrom_138, e_X11_sharesFrom_140, e_X11_sharesFrom_141, e_X11_sharesFrom_142, e_X11_sharesFrom_143, e_X11_sharesFrom_144, e_X11_sharesFrom_145, e_X11_sharesFrom_148, e_X11_sharesFrom_151, e_X11_sharesFrom_154, ob_91, rk_91_35, ar_110, rk_91_34, ar_109, rk_91_8, ar_96, kcl_i, kcl_r, kcl_l, kcl_0, kcl_n, true_and, and_true]
      have I0 := hsF_spec (co := mCo i) (w := i 96 17 ^^^ (-1)) (m := m) k (by omega) u many (kuf s.1 (7 - k) (-1), s.2)
      have L0 := hsB_le (co := mCo i) (w := i 96 17 ^^^ (-1)) (m := m) k u
      have E := k_forI (P := fun x (s : SS) => kWP sc (d + k + 3) 226 83 [.ref 91, .int (Int32.ofNat (7 - k)), .int (Int32.ofNat u), .int (Int32.ofNat many), .int (Int32.ofNat x)] [] ((120, cu, su), hsS i s, l, kR f t sp) K) (n := m) (I := fun _ s => s.2.2 ≤ 9) (g := fun a s => if hsC (mCo i) (i 96 17 ^^^ (-1)) (7 - k) u a then hsF (mCo i) (i 96 17 ^^^ (-1)) m k (u ||| 2 ^ a) (many + 1) (kuf s.1 (7 - k) (Int32.ofNat a), s.2) else s) ?_ (hsF (mCo i) (i 96 17 ^^^ (-1)) m k u many (kuf s.1 (7 - k) (-1), s.2)) (by rw [I0.2.1]; dsimp only; omega)
      · refine E.1.trans ?_
        refine e_X11_sharesFrom_83.trans ?_
        simp only [e_X11_sharesFrom_0, e_X11_sharesFrom_1, e_X11_sharesFrom_3, e_X11_sharesFrom_6, e_X11_sharesFrom_7, e_X11_sharesFrom_8, e_X11_sharesFrom_11, e_X11_sharesFrom_14, e_X11_sharesFrom_15, e_X11_sharesFrom_16, e_X11_sharesFrom_19, e_X11_sharesFrom_20, e_X11_sharesFrom_24, e_X11_sharesFrom_26, e_X11_sharesFrom_29, e_X11_sharesFrom_30, e_X11_sharesFrom_33, e_X11_sharesFrom_35, e_X11_sharesFrom_36, e_X11_sharesFrom_39, e_X11_sharesFrom_41, e_X11_sharesFrom_42, e_X11_sharesFrom_43, e_X11_sharesFrom_46, e_X11_sharesFrom_49, e_X11_sharesFrom_50, e_X11_sharesFrom_51, e_X11_sharesFrom_53, e_X11_sharesFrom_54, e_X11_sharesFrom_55, e_X11_sharesFrom_56, e_X11_sharesFrom_57, e_X11_sharesFrom_60, e_X11_sharesFrom_63, e_X11_sharesFrom_64, e_X11_sharesFrom_65, e_X11_sharesFrom_68, e_X11_sharesFrom_69, e_X11_sharesFrom_70, e_X11_sharesFrom_71, e_X11_sharesFrom_72, e_X11_sharesFrom_73, e_X11_sharesFrom_74, e_X11_sharesFrom_75, e_X11_sharesFrom_76, e_X11_sharesFrom_77, e_X11_sharesFrom_80, e_X11_sharesFrom_81, e_X11_sharesFrom_85, e_X11_sharesFrom_86, e_X11_sharesFrom_89, e_X11_sharesFrom_92, e_X11_sharesFrom_93, e_X11_sharesFrom_95, e_X11_sharesFrom_98, e_X11_sharesFrom_101, e_X11_sharesFrom_102, e_X11_sharesFrom_104, e_X11_sharesFrom_107, e_X11_sharesFrom_108, e_X11_sharesFrom_111, e_X11_sharesFrom_113, e_X11_sharesFrom_114, e_X11_sharesFrom_115, e_X11_sharesFrom_116, e_X11_sharesFrom_117, e_X11_sharesFrom_118, e_X11_sharesFrom_121, e_X11_sharesFrom_124, e_X11_sharesFrom_125, e_X11_sharesFrom_128, e_X11_sharesFrom_129, e_X11_sharesFrom_131, e_X11_sharesFrom_132, e_X11_sharesFrom_133, e_X11_sharesFrom_134, e_X11_sharesFrom_135, e_X11_sharesFrom_136, e_X11_sharesFrom_137, e_X11_sharesFrom_138, e_X11_sharesFrom_140, e_X11_sharesFrom_141, e_X11_sharesFrom_142, e_X11_sharesFrom_143, e_X11_sharesFrom_144, e_X11_sharesFrom_145, e_X11_sharesFrom_148, e_X11_sharesFrom_151, e_X11_sharesFrom_154, ob_91, rk_91_35, ar_110, rk_91_34, ar_109, rk_91_8, ar_96, kcl_i, kcl_r, kcl_l, kcl_0, kcl_n, true_and, and_true, hsS_f (show 3 ≠ 36 by decide), h91, Int32.le_refl, if_true]
      · intro x s hx hs
        have I1 := hsF_spec (co := mCo i) (w := i 96 17 ^^^ (-1)) (m := m) k (by omega) (u ||| 2 ^ x) (many + 1) (kuf s.1 (7 - k) (Int32.ofNat x), s.2)
        have L1 := hsB_le (co := mCo i) (w := i 96 17 ^^^ (-1)) (m := m) k (u ||| 2 ^ x)
        have eA : pAble (hsS i s 93) (hsS i s 94 x) (hsS i s 95 x) = mCo i x := congrFun (mCo_hs (i := i) (s := s)) x
        constructor
        · refine e_X11_sharesFrom_83.trans ?_
          simp only [e_X11_sharesFrom_0, e_X11_sharesFrom_1, e_X11_sharesFrom_3, e_X11_sharesFrom_6, e_X11_sharesFrom_7, e_X11_sharesFrom_8, e_X11_sharesFrom_11, e_X11_sharesFrom_14, e_X11_sharesFrom_15, e_X11_sharesFrom_16, e_X11_sharesFrom_19, e_X11_sharesFrom_20, e_X11_sharesFrom_24, e_X11_sharesFrom_26, e_X11_sharesFrom_29, e_X11_sharesFrom_30, e_X11_sharesFrom_33, e_X11_sharesFrom_35, e_X11_sharesFrom_36, e_X11_sharesFrom_39, e_X11_sharesFrom_41, e_X11_sharesFrom_42, e_X11_sharesFrom_43, e_X11_sharesFrom_46, e_X11_sharesFrom_49, e_X11_sharesFrom_50, e_X11_sharesFrom_51, e_X11_sharesFrom_53, e_X11_sharesFrom_54, e_X11_sharesFrom_55, e_X11_sharesFrom_56, e_X11_sharesFrom_57, e_X11_sharesFrom_60, e_X11_sharesFrom_63, e_X11_sharesFrom_64, e_X11_sharesFrom_65, e_X11_sharesFrom_68, e_X11_sharesFrom_69, e_X11_sharesFrom_70, e_X11_sharesFrom_71, e_X11_sharesFrom_72, e_X11_sharesFrom_73, e_X11_sharesFrom_74, e_X11_sharesFrom_75, e_X11_sharesFrom_76, e_X11_sharesFrom_77, e_X11_sharesFrom_80, e_X11_sharesFrom_81, e_X11_sharesFrom_85, e_X11_sharesFrom_86, e_X11_sharesFrom_89, e_X11_sharesFrom_92, e_X11_sharesFrom_93, e_X11_sharesFrom_95, e_X11_sharesFrom_98, e_X11_sharesFrom_101, e_X11_sharesFrom_102, e_X11_sharesFrom_104, e_X11_sharesFrom_107, e_X11_sharesFrom_108, e_X11_sharesFrom_111, e_X11_sharesFrom_113, e_X11_sharesFrom_114, e_X11_sharesFrom_115, e_X11_sharesFrom_116, e_X11_sharesFrom_117, e_X11_sharesFrom_118, e_X11_sharesFrom_121, e_X11_sharesFrom_124, e_X11_sharesFrom_125, e_X11_sharesFrom_128, e_X11_sharesFrom_129, e_X11_sharesFrom_131, e_X11_sharesFrom_132, e_X11_sharesFrom_133, e_X11_sharesFrom_134, e_X11_sharesFrom_135, e_X11_sharesFrom_136, e_X11_sharesFrom_137, e_X11_sharesFrom_138, e_X11_sharesFrom_140, e_X11_sharesFrom_141, e_X11_sharesFrom_142, e_X11_sharesFrom_143, e_X11_sharesFrom_144, e_X11_sharesFrom_145, e_X11_sharesFrom_148, e_X11_sharesFrom_151, e_X11_sharesFrom_154, ob_91, rk_91_35, ar_110, rk_91_34, ar_109, rk_91_8, ar_96, kcl_i, kcl_r, kcl_l, kcl_0, kcl_n, true_and, and_true, hsS_f (show 3 ≠ 36 by decide), h91, jpF hx (by omega), if_false, m_has, kb_0, m_able (show x < 8 by omega), eA, hsS_o (show 96 ≠ 91 by decide) (show 96 ≠ 109 by decide) (show 96 ≠ 110 by decide), ki17, ni17, true_and]
          rcases @pBit_or (Int32.ofNat u) 0 x with c1 | c1
          · have c1' : (Int32.ofNat u >>> (Int32.ofNat x &&& 31)) &&& 1 = 0 := c1
            rcases @pBit_or (mCo i x &&& (i 96 17 ^^^ (-1))) 0 (7 - k) with c2 | c2
            · have c2' : ((mCo i x &&& (i 96 17 ^^^ (-1))) >>> (Int32.ofNat (7 - k) &&& 31)) &&& 1 = 0 := c2
              have hc : hsC (mCo i) (i 96 17 ^^^ (-1)) (7 - k) u x = False := eq_false fun z => z.2 c2
              simp only [hc, c1', c2', z01, not_false_eq_true, not_true_eq_false, if_true, if_false, and_false, tn_s]
            · have c2' : ((mCo i x &&& (i 96 17 ^^^ (-1))) >>> (Int32.ofNat (7 - k) &&& 31)) &&& 1 = 1 := c2
              have hc : hsC (mCo i) (i 96 17 ^^^ (-1)) (7 - k) u x = True := eq_true ⟨c1, by rw [c2]; decide⟩
              simp only [hc, c1', c2', z01, z10, not_false_eq_true, not_true_eq_false, if_true, if_false, and_self, kin8 (show 7 - k < 8 by omega), cl_n (show 7 - k < 100000 by omega), hsU_109 (show 7 - k < 8 by omega), e7, or_nat (show x ≤ 8 by omega), tn_s, ih (by omega) (u ||| 2 ^ x) (many + 1) (kuf s.1 (7 - k) (Int32.ofNat x), s.2) (or_fit hu hx) (by omega) hs, e_X11_sharesFrom_0, e_X11_sharesFrom_1, e_X11_sharesFrom_3, e_X11_sharesFrom_6, e_X11_sharesFrom_7, e_X11_sharesFrom_8, e_X11_sharesFrom_11, e_X11_sharesFrom_14, e_X11_sharesFrom_15, e_X11_sharesFrom_16, e_X11_sharesFrom_19, e_X11_sharesFrom_20, e_X11_sharesFrom_24, e_X11_sharesFrom_26, e_X11_sharesFrom_29, e_X11_sharesFrom_30, e_X11_sharesFrom_33, e_X11_sharesFrom_35, e_X11_sharesFrom_36, e_X11_sharesFrom_39, e_X11_sharesFrom_41, e_X11_sharesFrom_42, e_X11_sharesFrom_43, e_X11_sharesFrom_46, e_X11_sharesFrom_49, e_X11_sharesFrom_50, e_X11_sharesFrom_51, e_X11_sharesFrom_53, e_X11_sharesFrom_54, e_X11_sharesFrom_55, e_X11_sharesFrom_56, e_X11_sharesFrom_57, e_X11_sharesFrom_60, e_X11_sharesFrom_63, e_X11_sharesFrom_64, e_X11_sharesFrom_65, e_X11_sharesFrom_68, e_X11_sharesFrom_69, e_X11_sharesFrom_70, e_X11_sharesFrom_71, e_X11_sharesFrom_72, e_X11_sharesFrom_73, e_X11_sharesFrom_74, e_X11_sharesFrom_75, e_X11_sharesFrom_76, e_X11_sharesFrom_77, e_X11_sharesFrom_80, e_X11_sharesFrom_81, e_X11_sharesFrom_85, e_X11_sharesFrom_86, e_X11_sharesFrom_89, e_X11_sharesFrom_92, e_X11_sharesFrom_93, e_X11_sharesFrom_95, e_X11_sharesFrom_98, e_X11_sharesFrom_101, e_X11_sharesFrom_102, e_X11_sharesFrom_104, e_X11_sharesFrom_107, e_X11_sharesFrom_108, e_X11_sharesFrom_111, e_X11_sharesFrom_113, e_X11_sharesFrom_114, e_X11_sharesFrom_115, e_X11_sharesFrom_116, e_X11_sharesFrom_117, e_X11_sharesFrom_118, e_X11_sharesFrom_121, e_X11_sharesFrom_124, e_X11_sharesFrom_125, e_X11_sharesFrom_128, e_X11_sharesFrom_129, e_X11_sharesFrom_131, e_X11_sharesFrom_132, e_X11_sharesFrom_133, e_X11_sharesFrom_134, e_X11_sharesFrom_135, e_X11_sharesFrom_136, e_X11_sharesFrom_137, e_X11_sharesFrom_138, e_X11_sharesFrom_140, e_X11_sharesFrom_141, e_X11_sharesFrom_142, e_X11_sharesFrom_143, e_X11_sharesFrom_144, e_X11_sharesFrom_145, e_X11_sharesFrom_148, e_X11_sharesFrom_151, e_X11_sharesFrom_154, ob_91, rk_91_35, ar_110, rk_91_34, ar_109, rk_91_8, ar_96, kcl_i, kcl_r, kcl_l, kcl_0, kcl_n, true_and, and_true]
          · have c1' : (Int32.ofNat u >>> (Int32.ofNat x &&& 31)) &&& 1 = 1 := c1
            have hc : hsC (mCo i) (i 96 17 ^^^ (-1)) (7 - k) u x = False := eq_false fun z => by have z1 := z.1; rw [c1] at z1; exact absurd z1 (by decide)
            simp only [hc, c1', z10, not_true_eq_false, if_true, if_false, false_and, tn_s]
        · split
          · rw [I1.2.1]; dsimp only; omega
          · exact hs
theorem hs_a1 : (-1 : Int32) = bM 0 := rfl
def hsE (i : Nat → Nat → Int32) (m : Nat) : SS := hsF (mCo i) (i 96 17 ^^^ (-1)) m 8 0 0 (i 109, i 110, 0)
theorem hsS_e : kupi i 91 36 (-1) = hsS i (i 109, i 110, 0) := by
  unfold hsS
  dsimp only
  rw [aP_g, aP_g]; rfl
theorem hsS_u (s : SS) : hsS (uPut i) s = uPut (hsS i s) := by
  unfold hsS uPut
  funext c q
  unfold kupi aPut
  dsimp only
  by_cases e : c = 91 ∧ q = 0
  · rw [if_neg (by omega), if_neg (by omega), if_neg (by omega), if_pos e, if_pos e]
  · rw [if_neg e, if_neg e]
theorem hsE_B {z : Nat} (h : z < 8) : (hsE i m).2.1 z = hsG (mCo i) (i 96 17 ^^^ (-1)) m 8 0 z := by
  have := (hsF_spec (co := mCo i) (w := i 96 17 ^^^ (-1)) (m := m) 8 (by decide) 0 0 (i 109, i 110, 0)).2.2 z h
  dsimp only at this
  rw [if_pos (by omega), if_neg (by omega)] at this
  exact this
theorem hsE_n : (hsE i m).2.2 = hsB (mCo i) (i 96 17 ^^^ (-1)) m 8 0 + 1 := by
  have := (hsF_spec (co := mCo i) (w := i 96 17 ^^^ (-1)) (m := m) 8 (by decide) 0 0 (i 109, i 110, 0)).2.1
  dsimp only at this
  unfold hsE
  rw [this]; omega
theorem m_shares (h91 : i 91 3 = Int32.ofNat m) (h8 : m ≤ 8) : CC 227 [.ref 91] i l f t sp (.int (Int32.ofNat (hsB (mCo i) (i 96 17 ^^^ (-1)) m 8 0))) (vPut (hsS (uPut i) (hsE i m)) 8) (tR l 0 (dl (fun x => (hsG (mCo i) (i 96 17 ^^^ (-1)) m 8 0 x).toInt64) 8)) f t sp := by
  intro sc d y nx hd L st cu su K
  refine kCA_of (d := d + 499) (v := some (.int _)) (fun K => ?_)
  rw [km_227]
  show kWP sc (d + 499) 227 0 [.ref 91, .retAddr 0] [] _ K = _
  have S := fun (y nx : Nat) (L st : List Value) (hd : List (Int × Nat)) (K : Option (Option Value) → kS → Prop) => m_sharesFrom (sc := sc) (i := uPut i) (l := l) (f := f) (t := t) (sp := sp) (m := m) (by rw [u3]; exact h91) h8 8 (by decide) 0 0 (i 109, i 110, 0) (Nat.two_pow_pos m) (by decide) (Nat.zero_le 9) (d + 488) y nx hd L st cu su K
  rw [mCo_u, uP_o (show 96 ≠ 91 by decide)] at S
  have e0 : kupi (uPut i) 91 36 (-1) = hsS (uPut i) (i 109, i 110, 0) := by
    have := hsS_e (i := uPut i)
    rw [uP_o (show 109 ≠ 91 by decide), uP_o (show 110 ≠ 91 by decide)] at this; exact this
  simp only [e_X11_shares_0, e_X11_shares_1, e_X11_shares_2, e_X11_shares_5, e_X11_shares_6, e_X11_shares_7, e_X11_shares_10, e_X11_shares_11, e_X11_shares_12, e_X11_shares_13, e_X11_shares_14, e_X11_shares_17, e_X11_shares_18, e_X11_shares_19, e_X11_shares_22, e_X11_shares_23, e_X11_shares_25, e_X11_shares_27, e_X11_shares_30, e_X11_shares_31, e_X11_shares_32, e_X11_shares_35, e_X11_shares_36, e_X11_shares_37, e_X11_shares_38, e_X11_shares_41, e_X11_shares_44, e_X11_shares_47, e_X11_shares_48, e_X11_shares_51, ob_91, rk_91_35, ar_110, kcl_i, kcl_r, kcl_l, kcl_0, kcl_n, true_and, and_true, uP_0, e0]
  refine (S _ _ _ _ _ _).trans ?_
  show kWP sc (d + 499) _ _ _ _ (_, hsS (uPut i) (hsE i m), _, _) K = _
  simp only [e_X11_shares_0, e_X11_shares_1, e_X11_shares_2, e_X11_shares_5, e_X11_shares_6, e_X11_shares_7, e_X11_shares_10, e_X11_shares_11, e_X11_shares_12, e_X11_shares_13, e_X11_shares_14, e_X11_shares_17, e_X11_shares_18, e_X11_shares_19, e_X11_shares_22, e_X11_shares_23, e_X11_shares_25, e_X11_shares_27, e_X11_shares_30, e_X11_shares_31, e_X11_shares_32, e_X11_shares_35, e_X11_shares_36, e_X11_shares_37, e_X11_shares_38, e_X11_shares_41, e_X11_shares_44, e_X11_shares_47, e_X11_shares_48, e_X11_shares_51, ob_91, rk_91_35, ar_110, kcl_i, kcl_r, kcl_l, kcl_0, kcl_n, true_and, and_true, vP_0]
  refine (k_for (P := fun x (_ : Unit) => kWP sc (d + 499) 227 24 [.ref 91, .int (Int32.ofNat x)] [] ((120, cu, su), vPut (hsS (uPut i) (hsE i m)) x, tR l 0 (dl (fun x => (hsG (mCo i) (i 96 17 ^^^ (-1)) m 8 0 x).toInt64) x), kR f t sp) K) (n := 8) (g := fun _ u => u) ?_ ()).trans ?_
  · intro x _ hx
    refine e_X11_shares_24.trans ?_
    simp only [e_X11_shares_0, e_X11_shares_1, e_X11_shares_2, e_X11_shares_5, e_X11_shares_6, e_X11_shares_7, e_X11_shares_10, e_X11_shares_11, e_X11_shares_12, e_X11_shares_13, e_X11_shares_14, e_X11_shares_17, e_X11_shares_18, e_X11_shares_19, e_X11_shares_22, e_X11_shares_23, e_X11_shares_25, e_X11_shares_27, e_X11_shares_30, e_X11_shares_31, e_X11_shares_32, e_X11_shares_35, e_X11_shares_36, e_X11_shares_37, e_X11_shares_38, e_X11_shares_41, e_X11_shares_44, e_X11_shares_47, e_X11_shares_48, e_X11_shares_51, ob_91, rk_91_35, ar_110, kcl_i, kcl_r, kcl_l, kcl_0, kcl_n, true_and, and_true, jp8 hx, if_false, vP_o (show 110 ≠ 91 by decide), kin8 hx, cl_n (show x < 100000 by omega), hsS_110 hx, hsE_B hx, m_enters (show x < 256 by omega), tR_dl (D := fun x => (hsG (mCo i) (i 96 17 ^^^ (-1)) m 8 0 x).toInt64), tn_s]
  · refine e_X11_shares_24.trans ?_
    have e36 : vPut (hsS (uPut i) (hsE i m)) 8 91 36 = Int32.ofNat (hsB (mCo i) (i 96 17 ^^^ (-1)) m 8 0) := by
      unfold vPut
      rw [kupi_k (by decide), hsS_36, hsE_n, ← bM_s]
    simp only [e_X11_shares_0, e_X11_shares_1, e_X11_shares_2, e_X11_shares_5, e_X11_shares_6, e_X11_shares_7, e_X11_shares_10, e_X11_shares_11, e_X11_shares_12, e_X11_shares_13, e_X11_shares_14, e_X11_shares_17, e_X11_shares_18, e_X11_shares_19, e_X11_shares_22, e_X11_shares_23, e_X11_shares_25, e_X11_shares_27, e_X11_shares_30, e_X11_shares_31, e_X11_shares_32, e_X11_shares_35, e_X11_shares_36, e_X11_shares_37, e_X11_shares_38, e_X11_shares_41, e_X11_shares_44, e_X11_shares_47, e_X11_shares_48, e_X11_shares_51, ob_91, rk_91_35, ar_110, kcl_i, kcl_r, kcl_l, kcl_0, kcl_n, true_and, and_true, jp88, if_true, e36]
/-- the class: a table over the things and the men who have taken -/
theorem kfi_is {p : Nat → Prop} [DecidablePred p] {a : Nat} (h : p a) : ∀ {k x : Nat}, x ≤ a → a < x + k → (∀ b, x ≤ b → b < a → ¬ p b) → kfi p k x = some a := by
  intro k
  induction k with
  | zero => intro x h1 h2 _; omega
  | succ k ih =>
    intro x h1 h2 hb
    rw [kfi]
    by_cases q : p x
    · rw [if_pos q]
      by_cases e : x = a
      · rw [e]
      · exact absurd q (hb x (Nat.le_refl x) (by omega))
    · rw [if_neg q]
      by_cases e : x = a
      · subst e; exact absurd h q
      · exact ih (by omega) (by omega) (fun b h3 h4 => hb b (by omega) h4)
theorem hsRun_spec {c : Nat → Prop} [DecidablePred c] {val : Nat → Nat} {v0 x : Nat} : (∀ b, b < x → c b → val b ≤ (hsRun c val x (v0, none)).1) ∧ v0 ≤ (hsRun c val x (v0, none)).1 ∧ (((hsRun c val x (v0, none)).2 = none ∧ (hsRun c val x (v0, none)).1 = v0) ∨ ∃ a, a < x ∧ (hsRun c val x (v0, none)).2 = some a ∧ v0 < (hsRun c val x (v0, none)).1 ∧ c a ∧ val a = (hsRun c val x (v0, none)).1 ∧ ∀ b, b < a → c b → val b < (hsRun c val x (v0, none)).1) := by
  unfold hsRun
  refine kfo_inv (I := fun x (s : Nat × Option Nat) => (∀ b, b < x → c b → val b ≤ s.1) ∧ v0 ≤ s.1 ∧ ((s.2 = none ∧ s.1 = v0) ∨ ∃ a, a < x ∧ s.2 = some a ∧ v0 < s.1 ∧ c a ∧ val a = s.1 ∧ ∀ b, b < a → c b → val b < s.1)) (fun x s _ hs => ?_) ⟨fun b hb => absurd hb (Nat.not_lt_zero b), Nat.le_refl _, Or.inl ⟨rfl, rfl⟩⟩
  obtain ⟨h1, h2, h3⟩ := hs
  by_cases q : c x ∧ s.1 < val x
  · rw [if_pos q]
    refine ⟨fun b hb hc => ?_, by dsimp only; omega, Or.inr ⟨x, by omega, rfl, by dsimp only; omega, q.1, rfl, fun b hb hc => ?_⟩⟩
    · show val b ≤ val x
      by_cases e : b = x
      · rw [e]; exact Nat.le_refl _
      · have := h1 b (by omega) hc; omega
    · have := h1 b hb hc; show val b < val x; omega
  · rw [if_neg q]
    refine ⟨fun b hb hc => ?_, h2, ?_⟩
    · by_cases e : b = x
      · subst e
        have : ¬ s.1 < val b := fun z => q ⟨hc, z⟩
        omega
      · exact h1 b (by omega) hc
    · rcases h3 with h3 | ⟨a, ha, h3⟩
      · exact Or.inl h3
      · exact Or.inr ⟨a, by omega, h3⟩
theorem hsCh_lt {a : Nat} (h : hsCh co w m k u = some a) : a < m := by
  have := (hsRun_spec (c := hsC co w (7 - k) u) (val := fun a => 1 + hsB co w m k (u ||| 2 ^ a)) (v0 := hsB co w m k u) (x := m)).2.2
  unfold hsCh at h
  rcases this with e | ⟨b, hb, e, _⟩
  · rw [e.1] at h; cases h
  · rw [e] at h; cases h; exact hb
/-- who has taken before the thing -/
def hsU (co : Nat → Int32) (w : Int32) (m x : Nat) : Nat := kfo (fun x u => oU u (hsCh co w m (7 - x) u)) x 0
theorem hsU_lt : hsU co w m x < 2 ^ m := by
  unfold hsU
  refine kfo_inv (I := fun _ u => u < 2 ^ m) (fun x u _ hu => ?_) (Nat.two_pow_pos m)
  cases e : hsCh co w m (7 - x) u with
  | none => exact hu
  | some a => exact or_fit hu (hsCh_lt e)
theorem hsG_U : ∀ k, k ≤ 8 → ∀ z, 8 - k ≤ z → z < 8 → hsG co w m k (hsU co w m (8 - k)) z = oI (hsCh co w m (7 - z) (hsU co w m z)) := by
  intro k
  induction k with
  | zero => intro _ z h1 h2; omega
  | succ k ih =>
    intro hk z h1 h2
    rw [show 8 - (k + 1) = 7 - k by omega] at h1 ⊢
    rw [hsG]
    by_cases e : z = 7 - k
    · rw [if_pos e, e, show 7 - (7 - k) = k by omega]
    · rw [if_neg e, ← ih (by omega) z (by omega) h2]
      have : hsU co w m (8 - k) = oU (hsU co w m (7 - k)) (hsCh co w m k (hsU co w m (7 - k))) := by
        rw [show 8 - k = 7 - k + 1 by omega]
        show oU (hsU co w m (7 - k)) (hsCh co w m (7 - (7 - k)) (hsU co w m (7 - k))) = _
        rw [show 7 - (7 - k) = k by omega]
      rw [this]
abbrev hsD (co : Nat → Int32) (t u a : Nat) : Prop := pBit (Int32.ofNat u) a = 0 ∧ ¬ pBit (co a) t = 0
def hsW (co A : Nat → Int32) (m t u : Nat) : Int32 := kfo (fun a b => if hsD co t u a then (if b < 1 + A ((t + 1) * 256 + (u ||| 2 ^ a)) then 1 + A ((t + 1) * 256 + (u ||| 2 ^ a)) else b) else b) m 0
def hsV (co : Nat → Int32) (p : Int32) (A : Nat → Int32) (m t u : Nat) : Int32 := if pBit p t = 0 then A ((t + 1) * 256 + u) else if A ((t + 1) * 256 + u) < hsW co A m t u then hsW co A m t u else A ((t + 1) * 256 + u)
def hsT0 (m : Nat) (A : Nat → Int32) : Nat → Int32 := kfo (fun u A => kuf A (2048 + u) 0) (2 ^ m) A
def hsTr (co : Nat → Int32) (p : Int32) (m t : Nat) (A : Nat → Int32) : Nat → Int32 := kfo (fun u A => kuf A (t * 256 + u) (hsV co p A m t u)) (2 ^ m) A
def hsT (co : Nat → Int32) (p : Int32) (m : Nat) (A : Nat → Int32) : Nat → Int32 := kfo (fun x A => hsTr co p m (7 - x) A) 8 (hsT0 m A)
theorem hsCD {co2 : Nat → Int32} {t a : Nat} (ht : t < 8) (hw : ¬ pBit (255 &&& w) t = 0) (e : co a = co2 a) : hsC co2 w t u a ↔ hsD co t u a := by
  unfold hsC hsD
  rw [e, pBit_0 (show t < 32 by omega), pBit_0 (show t < 32 by omega), tb_and]
  rw [pBit_0 (show t < 32 by omega), tb_and, tb_255 t (by omega)] at hw
  have : tb w t = true := by
    cases h : tb w t
    · rw [h, Bool.and_false] at hw; exact absurd rfl hw
    · rfl
  rw [this, Bool.and_true]
theorem hsC_0 {t a : Nat} (ht : t < 8) (hw : pBit (255 &&& w) t = 0) : ¬ hsC co w t u a := by
  unfold hsC
  rw [pBit_0 (show t < 32 by omega), tb_and]
  rw [pBit_0 (show t < 32 by omega), tb_and, tb_255 t (by omega), decide_eq_true ht, Bool.true_and] at hw
  rw [hw, Bool.and_false]
  exact fun z => z.2 rfl
theorem hsV_ok {co2 : Nat → Int32} (hco : ∀ a, a < m → co a = co2 a) (hk : k ≤ 7) (hu : u < 2 ^ m) (hA : ∀ u, u < 2 ^ m → A ((7 - k + 1) * 256 + u) = Int32.ofNat (hsB co2 w m k u)) : hsV co (255 &&& w) A m (7 - k) u = Int32.ofNat (hsB co2 w m (k + 1) u) := by
  have L0 := hsB_le (co := co2) (w := w) (m := m) k u
  unfold hsV
  by_cases q : pBit (255 &&& w) (7 - k) = 0
  · rw [if_pos q, hA u hu]
    have : hsRun (hsC co2 w (7 - k) u) (fun a => 1 + hsB co2 w m k (u ||| 2 ^ a)) m (hsB co2 w m k u, none) = (hsB co2 w m k u, none) := by
      unfold hsRun
      refine kfo_inv (I := fun _ s => s = (hsB co2 w m k u, (none : Option Nat))) (fun x s _ hs => ?_) rfl
      rw [if_neg (fun z => hsC_0 (by omega) q z.1)]; exact hs
    rw [hsB, this]
  · rw [if_neg q]
    have R := kfo_rel (g := fun a b => if hsD co (7 - k) u a then (if b < 1 + A ((7 - k + 1) * 256 + (u ||| 2 ^ a)) then 1 + A ((7 - k + 1) * 256 + (u ||| 2 ^ a)) else b) else b) (g2 := fun a s => if hsC co2 w (7 - k) u a ∧ s.1 < 1 + hsB co2 w m k (u ||| 2 ^ a) then (1 + hsB co2 w m k (u ||| 2 ^ a), some a) else s) (n := m) (a := (0 : Int32)) (b := (hsB co2 w m k u, (none : Option Nat)))
      (R := fun _ b s => ∃ c, b = Int32.ofNat c ∧ c ≤ 9 ∧ s.1 = max (hsB co2 w m k u) c) (fun x b s hx hR => ?_) ⟨0, rfl, by decide, by dsimp only; omega⟩
    · obtain ⟨c, e1, e2, e3⟩ := R
      have eW : hsW co A m (7 - k) u = Int32.ofNat c := e1
      have eB : hsB co2 w m (k + 1) u = max (hsB co2 w m k u) c := e3
      rw [eW, eB, hA u hu]
      simp only [tn_lt (show hsB co2 w m k u < 2147483648 by omega) (show c < 2147483648 by omega)]
      by_cases z : hsB co2 w m k u < c
      · rw [if_pos z]; congr 1; omega
      · rw [if_neg z]; congr 1; omega
    · obtain ⟨c, e1, e2, e3⟩ := hR
      have L1 := hsB_le (co := co2) (w := w) (m := m) k (u ||| 2 ^ x)
      have eq := hsCD (u := u) (w := w) (show 7 - k < 8 by omega) q (hco x hx)
      by_cases z : hsD co (7 - k) u x
      · have z' := eq.2 z
        simp only [eq_true z, eq_true z', if_true, true_and]
        rw [hA _ (or_fit hu hx), e1, Int32.add_comm, tn_s]
        simp only [tn_lt (show c < 2147483648 by omega) (show hsB co2 w m k (u ||| 2 ^ x) + 1 < 2147483648 by omega)]
        by_cases y1 : c < hsB co2 w m k (u ||| 2 ^ x) + 1
        · rw [if_pos y1]
          refine ⟨_, rfl, by omega, ?_⟩
          by_cases y2 : s.1 < 1 + hsB co2 w m k (u ||| 2 ^ x)
          · rw [if_pos y2]; dsimp only; omega
          · rw [if_neg y2]; omega
        · rw [if_neg y1]
          refine ⟨c, rfl, e2, ?_⟩
          rw [if_neg (by omega)]; exact e3
      · have z' : ¬ hsC co2 w (7 - k) u x := fun e => z (eq.1 e)
        simp only [eq_false z, eq_false z', if_false, false_and]
        exact ⟨c, e1, e2, e3⟩
theorem hsT_ok {co2 : Nat → Int32} (h8 : m ≤ 8) (hco : ∀ a, a < m → co a = co2 a) {t u : Nat} (ht : t ≤ 8) (hu : u < 2 ^ m) : hsT co (255 &&& w) m A (t * 256 + u) = Int32.ofNat (hsB co2 w m (8 - t) u) := by
  have h256 := pow_m m h8
  have R := kfo_inv (g := fun x A => hsTr co (255 &&& w) m (7 - x) A) (n := 8) (a := hsT0 m A) (I := fun x A => ∀ t, 8 - x ≤ t → t ≤ 8 → ∀ u, u < 2 ^ m → A (t * 256 + u) = Int32.ofNat (hsB co2 w m (8 - t) u)) (fun x A hx hA => ?_) ?_
  · exact R t (Nat.zero_le _) ht u hu
  · unfold hsTr
    have J := kfo_inv (g := fun u A => kuf A ((7 - x) * 256 + u) (hsV co (255 &&& w) A m (7 - x) u)) (n := 2 ^ m) (a := A) (I := fun z A => (∀ t, 8 - x ≤ t → t ≤ 8 → ∀ u, u < 2 ^ m → A (t * 256 + u) = Int32.ofNat (hsB co2 w m (8 - t) u)) ∧ ∀ u, u < z → A ((7 - x) * 256 + u) = Int32.ofNat (hsB co2 w m (x + 1) u)) (fun z A hz hJ => ?_) ⟨hA, fun u hu => absurd hu (Nat.not_lt_zero u)⟩
    · intro t h1 h2 u hu
      by_cases e : t = 7 - x
      · rw [e, J.2 u hu, show 8 - (7 - x) = x + 1 by omega]
      · exact J.1 t (by omega) h2 u hu
    · obtain ⟨j1, j2⟩ := hJ
      refine ⟨fun t h1 h2 u hu => ?_, fun u hu => ?_⟩
      · rw [kuf_n (by omega)]; exact j1 t h1 h2 u hu
      · by_cases e : u = z
        · subst e
          rw [kuf_s]
          exact hsV_ok hco (by omega) hz (fun u hu => by rw [j1 (7 - x + 1) (by omega) (by omega) u hu, show 8 - (7 - x + 1) = x by omega])
        · rw [kuf_n (by omega)]; exact j2 u (by omega)
  · intro t h1 h2 u hu
    have e8 : t = 8 := by omega
    subst e8
    unfold hsT0
    have J := kfo_inv (g := fun u A => kuf A (2048 + u) 0) (n := 2 ^ m) (a := A) (I := fun z A => ∀ u, u < z → A (2048 + u) = 0) (fun z A hz hJ u hu => by
      by_cases e : u = z
      · subst e; rw [kuf_s]
      · rw [kuf_n (by omega)]; exact hJ u (by omega)) (fun u hu => absurd hu (Nat.not_lt_zero u))
    exact J u hu
theorem kin2304 {a : Nat} (h : a < 2304) : kin (Int32.ofNat a) 2304 = True := by rw [tn_kin (by omega)]; exact eq_true h
theorem c_canTake {x u a : Nat} (ha : a < 8) : kCA sc (d + 1) 80 [.ref 77, .int (Int32.ofNat x), .int (Int32.ofNat u), .int (Int32.ofNat a)] y nx hd L st ((120, cu, su), i, l, kR f t sp) K = kWP sc (d + 1) y nx L (.int (kb (hsD (i 8) x u a)) :: st) ((120, cu, su), i, l, kR f t sp) K := by
  refine kCA_of (d := d) (v := some (.int (kb (hsD (i 8) x u a)))) (S2 := ((120, cu, su), i, l, kR f t sp)) (fun K => ?_)
  rw [km_80]
  show kWP sc (d) 80 0 [.ref 77, .int (Int32.ofNat x), .int (Int32.ofNat u), .int (Int32.ofNat a)] [] ((120, cu, su), i, l, kR f t sp) K = K (some (some (.int (kb (hsD (i 8) x u a))))) ((120, cu, su), i, l, kR f t sp)
  simp only [e_X7_canTake_0, e_X7_canTake_1, e_X7_canTake_2, e_X7_canTake_3, e_X7_canTake_4, e_X7_canTake_5, e_X7_canTake_8, e_X7_canTake_9, e_X7_canTake_12, e_X7_canTake_15, e_X7_canTake_16, e_X7_canTake_17, e_X7_canTake_18, e_X7_canTake_19, e_X7_canTake_20, e_X7_canTake_21, e_X7_canTake_24, e_X7_canTake_25, e_X7_canTake_28, e_X7_canTake_29, ob_77, rk_77_0, ob_5, rk_5_3, ar_8, kcl_i, kcl_r, kcl_l, kcl_0, kcl_n, true_and, and_true, kin8 ha, cl_n (show a < 100000 by omega), kbool_0, kbool_1]
  unfold kb
  rcases @pBit_or (Int32.ofNat u) 0 a with c1 | c1
  · have c1' : (Int32.ofNat u >>> (Int32.ofNat a &&& 31)) &&& 1 = 0 := c1
    rcases @pBit_or (i 8 a) 0 x with c2 | c2
    · have c2' : (i 8 a >>> (Int32.ofNat x &&& 31)) &&& 1 = 0 := c2
      have hc : hsD (i 8) x u a = False := eq_false fun z => z.2 c2
      simp only [hc, c1', c2', not_true_eq_false, if_true, if_false]
    · have c2' : (i 8 a >>> (Int32.ofNat x &&& 31)) &&& 1 = 1 := c2
      have hc : hsD (i 8) x u a = True := eq_true ⟨c1, by rw [c2]; decide⟩
      simp only [hc, c1', c2', z10, not_true_eq_false, if_true, if_false]
  · have c1' : (Int32.ofNat u >>> (Int32.ofNat a &&& 31)) &&& 1 = 1 := c1
    have hc : hsD (i 8) x u a = False := eq_false fun z => by have z1 := z.1; rw [c1] at z1; exact absurd z1 (by decide)
    simp only [hc, c1', z10, not_false_eq_true, if_true, if_false]
theorem at_nat {x u : Nat} : (Int32.ofNat x + 1) * 256 + Int32.ofNat u = Int32.ofNat ((x + 1) * 256 + u) := by
  rw [tn_s, show (256 : Int32) = Int32.ofNat 256 from rfl, mul_nat, ← Int32.ofNat_add]
theorem at_nat0 {x u : Nat} : Int32.ofNat x * 256 + Int32.ofNat u = Int32.ofNat (x * 256 + u) := by
  rw [show (256 : Int32) = Int32.ofNat 256 from rfl, mul_nat, ← Int32.ofNat_add]
theorem c_mostWithTaker {x u : Nat} (hm : i 5 0 = Int32.ofNat m) (h8 : m ≤ 8) (hx : x < 8) (hu : u < 2 ^ m) : kCA sc (d + 2) 78 [.ref 77, .int (Int32.ofNat x), .int (Int32.ofNat u)] y nx hd L st ((120, cu, su), i, l, kR f t sp) K = kWP sc (d + 2) y nx L (.int (hsW (i 8) (i 78) m x u) :: st) ((120, cu, su), i, l, kR f t sp) K := by
  refine kCA_of (d := d + 1) (v := some (.int (hsW (i 8) (i 78) m x u))) (S2 := ((120, cu, su), i, l, kR f t sp)) (fun K => ?_)
  rw [km_78]
  show kWP sc (d + 1) 78 0 [.ref 77, .int (Int32.ofNat x), .int (Int32.ofNat u), .retAddr 0, .retAddr 0] [] ((120, cu, su), i, l, kR f t sp) K = K (some (some (.int (hsW (i 8) (i 78) m x u)))) ((120, cu, su), i, l, kR f t sp)
  have h256 := pow_m m h8
  simp only [e_X7_mostWithTaker_0, e_X7_mostWithTaker_1, e_X7_mostWithTaker_2, e_X7_mostWithTaker_3, e_X7_mostWithTaker_7, e_X7_mostWithTaker_8, e_X7_mostWithTaker_11, e_X7_mostWithTaker_14, e_X7_mostWithTaker_17, e_X7_mostWithTaker_18, e_X7_mostWithTaker_19, e_X7_mostWithTaker_20, e_X7_mostWithTaker_22, e_X7_mostWithTaker_25, e_X7_mostWithTaker_28, e_X7_mostWithTaker_29, e_X7_mostWithTaker_30, e_X7_mostWithTaker_31, e_X7_mostWithTaker_34, e_X7_mostWithTaker_35, e_X7_mostWithTaker_36, e_X7_mostWithTaker_37, e_X7_mostWithTaker_40, e_X7_mostWithTaker_41, e_X7_mostWithTaker_42, e_X7_mostWithTaker_43, e_X7_mostWithTaker_45, e_X7_mostWithTaker_46, e_X7_mostWithTaker_47, e_X7_mostWithTaker_48, e_X7_mostWithTaker_49, e_X7_mostWithTaker_50, e_X7_mostWithTaker_53, e_X7_mostWithTaker_54, e_X7_mostWithTaker_57, e_X7_mostWithTaker_60, e_X7_mostWithTaker_61, ob_77, rk_77_0, ob_5, rk_77_1, ar_78, kcl_i, kcl_r, kcl_l, kcl_0, kcl_n, true_and, and_true]
  refine (k_for (P := fun a (b : Int32) => kWP sc (d + 1) 78 5 [.ref 77, .int (Int32.ofNat x), .int (Int32.ofNat u), .int b, .int (Int32.ofNat a)] [] ((120, cu, su), i, l, kR f t sp) K) (n := m) (g := fun a b => if hsD (i 8) x u a then (if b < 1 + i 78 ((x + 1) * 256 + (u ||| 2 ^ a)) then 1 + i 78 ((x + 1) * 256 + (u ||| 2 ^ a)) else b) else b) ?_ 0).trans ?_
  · intro a b ha
    have hf := or_fit hu ha
    refine e_X7_mostWithTaker_5.trans ?_
    simp only [e_X7_mostWithTaker_0, e_X7_mostWithTaker_1, e_X7_mostWithTaker_2, e_X7_mostWithTaker_3, e_X7_mostWithTaker_7, e_X7_mostWithTaker_8, e_X7_mostWithTaker_11, e_X7_mostWithTaker_14, e_X7_mostWithTaker_17, e_X7_mostWithTaker_18, e_X7_mostWithTaker_19, e_X7_mostWithTaker_20, e_X7_mostWithTaker_22, e_X7_mostWithTaker_25, e_X7_mostWithTaker_28, e_X7_mostWithTaker_29, e_X7_mostWithTaker_30, e_X7_mostWithTaker_31, e_X7_mostWithTaker_34, e_X7_mostWithTaker_35, e_X7_mostWithTaker_36, e_X7_mostWithTaker_37, e_X7_mostWithTaker_40, e_X7_mostWithTaker_41, e_X7_mostWithTaker_42, e_X7_mostWithTaker_43, e_X7_mostWithTaker_45, e_X7_mostWithTaker_46, e_X7_mostWithTaker_47, e_X7_mostWithTaker_48, e_X7_mostWithTaker_49, e_X7_mostWithTaker_50, e_X7_mostWithTaker_53, e_X7_mostWithTaker_54, e_X7_mostWithTaker_57, e_X7_mostWithTaker_60, e_X7_mostWithTaker_61, ob_77, rk_77_0, ob_5, rk_77_1, ar_78, kcl_i, kcl_r, kcl_l, kcl_0, kcl_n, true_and, and_true, hm, jpF ha (by omega), if_false, c_canTake (show a < 8 by omega), kb_0, or_nat (show a ≤ 8 by omega), at_nat, at_nat0, kin2304 (show (x + 1) * 256 + (u ||| 2 ^ a) < 2304 by omega), cl_n (show (x + 1) * 256 + (u ||| 2 ^ a) < 100000 by omega), true_and, tn_s]
    by_cases c : hsD (i 8) x u a
    · simp only [eq_true c, not_true_eq_false, if_true, if_false]
    · simp only [eq_false c, not_false_eq_true, if_true, if_false]
  · refine e_X7_mostWithTaker_5.trans ?_
    simp only [e_X7_mostWithTaker_0, e_X7_mostWithTaker_1, e_X7_mostWithTaker_2, e_X7_mostWithTaker_3, e_X7_mostWithTaker_7, e_X7_mostWithTaker_8, e_X7_mostWithTaker_11, e_X7_mostWithTaker_14, e_X7_mostWithTaker_17, e_X7_mostWithTaker_18, e_X7_mostWithTaker_19, e_X7_mostWithTaker_20, e_X7_mostWithTaker_22, e_X7_mostWithTaker_25, e_X7_mostWithTaker_28, e_X7_mostWithTaker_29, e_X7_mostWithTaker_30, e_X7_mostWithTaker_31, e_X7_mostWithTaker_34, e_X7_mostWithTaker_35, e_X7_mostWithTaker_36, e_X7_mostWithTaker_37, e_X7_mostWithTaker_40, e_X7_mostWithTaker_41, e_X7_mostWithTaker_42, e_X7_mostWithTaker_43, e_X7_mostWithTaker_45, e_X7_mostWithTaker_46, e_X7_mostWithTaker_47, e_X7_mostWithTaker_48, e_X7_mostWithTaker_49, e_X7_mostWithTaker_50, e_X7_mostWithTaker_53, e_X7_mostWithTaker_54, e_X7_mostWithTaker_57, e_X7_mostWithTaker_60, e_X7_mostWithTaker_61, ob_77, rk_77_0, ob_5, rk_77_1, ar_78, kcl_i, kcl_r, kcl_l, kcl_0, kcl_n, true_and, and_true, hm, Int32.le_refl, if_true]
    rfl
def dn (x : Nat) : Int32 := if x < 8 then Int32.ofNat (7 - x) else -1
theorem dn_s : ∀ x, x < 8 → dn x + -1 = dn (x + 1) := by decide +kernel
theorem dn_lt {x : Nat} (h : x < 8) : dn x = Int32.ofNat (7 - x) := if_pos h
theorem c_mostShared {p : Int32} (hm : i 5 0 = Int32.ofNat m) (h8 : m ≤ 8) : kCA sc (d + 4) 69 [.ref 77, .int p] y nx hd L st ((120, cu, su), i, l, kR f t sp) K = kWP sc (d + 4) y nx L (.int (hsT (i 8) p m (i 78) 0) :: st) ((120, cu, su), aPut i 78 2304 (hsT (i 8) p m (i 78)), l, kR f t sp) K := by
  have h256 := pow_m m h8
  refine kCA_of (d := d + 3) (v := some (.int (hsT (i 8) p m (i 78) 0))) (S2 := ((120, cu, su), aPut i 78 2304 (hsT (i 8) p m (i 78)), l, kR f t sp)) (fun K => ?_)
  rw [km_69]
  show kWP sc (d + 3) 69 0 [.ref 77, .int p, .retAddr 0, .retAddr 0, .retAddr 0, .retAddr 0, .retAddr 0] [] _ K = _
  have a5 : ∀ A, aPut i 78 2304 A 5 0 = Int32.ofNat m := fun A => by rw [aP_o (by decide)]; exact hm
  have a8 : ∀ A, aPut i 78 2304 A 8 = i 8 := fun A => aP_o (by decide)
  simp only [e_X7_mostShared_0, e_X7_mostShared_1, e_X7_mostShared_2, e_X7_mostShared_5, e_X7_mostShared_8, e_X7_mostShared_9, e_X7_mostShared_10, e_X7_mostShared_11, e_X7_mostShared_13, e_X7_mostShared_14, e_X7_mostShared_17, e_X7_mostShared_18, e_X7_mostShared_21, e_X7_mostShared_24, e_X7_mostShared_25, e_X7_mostShared_26, e_X7_mostShared_27, e_X7_mostShared_28, e_X7_mostShared_31, e_X7_mostShared_34, e_X7_mostShared_36, e_X7_mostShared_38, e_X7_mostShared_41, e_X7_mostShared_42, e_X7_mostShared_43, e_X7_mostShared_44, e_X7_mostShared_45, e_X7_mostShared_46, e_X7_mostShared_49, e_X7_mostShared_50, e_X7_mostShared_53, e_X7_mostShared_54, e_X7_mostShared_56, e_X7_mostShared_57, e_X7_mostShared_61, e_X7_mostShared_62, e_X7_mostShared_65, e_X7_mostShared_66, e_X7_mostShared_69, e_X7_mostShared_70, e_X7_mostShared_71, e_X7_mostShared_72, e_X7_mostShared_75, e_X7_mostShared_76, e_X7_mostShared_78, e_X7_mostShared_79, e_X7_mostShared_80, e_X7_mostShared_82, e_X7_mostShared_83, e_X7_mostShared_86, e_X7_mostShared_87, e_X7_mostShared_90, e_X7_mostShared_91, e_X7_mostShared_93, e_X7_mostShared_94, e_X7_mostShared_96, e_X7_mostShared_99, e_X7_mostShared_101, e_X7_mostShared_102, e_X7_mostShared_103, e_X7_mostShared_105, e_X7_mostShared_108, e_X7_mostShared_111, e_X7_mostShared_114, e_X7_mostShared_116, e_X7_mostShared_117, e_X7_mostShared_120, e_X7_mostShared_123, e_X7_mostShared_126, e_X7_mostShared_129, e_X7_mostShared_130, e_X7_mostShared_133, e_X7_mostShared_134, e_X7_mostShared_135, ob_77, rk_77_0, ob_5, rk_77_1, ar_78, kcl_i, kcl_r, kcl_l, kcl_0, kcl_n, true_and, and_true, hm, shl_m m h8]
  have F := k_for (P := fun z (A : Nat → Int32) => kWP sc (d + 3) 69 12 [.ref 77, .int p, .int (Int32.ofNat (2 ^ m)), .int (Int32.ofNat z), .retAddr 0, .retAddr 0, .retAddr 0] [] ((120, cu, su), aPut i 78 2304 A, l, kR f t sp) K) (n := 2 ^ m) (g := fun u A => kuf A (2048 + u) 0) (fun z A hz => by
    have e : (2048 : Int32) + Int32.ofNat z = Int32.ofNat (2048 + z) := by rw [show (2048 : Int32) = Int32.ofNat 2048 from rfl, ← Int32.ofNat_add]
    refine e_X7_mostShared_12.trans ?_
    simp only [e_X7_mostShared_0, e_X7_mostShared_1, e_X7_mostShared_2, e_X7_mostShared_5, e_X7_mostShared_8, e_X7_mostShared_9, e_X7_mostShared_10, e_X7_mostShared_11, e_X7_mostShared_13, e_X7_mostShared_14, e_X7_mostShared_17, e_X7_mostShared_18, e_X7_mostShared_21, e_X7_mostShared_24, e_X7_mostShared_25, e_X7_mostShared_26, e_X7_mostShared_27, e_X7_mostShared_28, e_X7_mostShared_31, e_X7_mostShared_34, e_X7_mostShared_36, e_X7_mostShared_38, e_X7_mostShared_41, e_X7_mostShared_42, e_X7_mostShared_43, e_X7_mostShared_44, e_X7_mostShared_45, e_X7_mostShared_46, e_X7_mostShared_49, e_X7_mostShared_50, e_X7_mostShared_53, e_X7_mostShared_54, e_X7_mostShared_56, e_X7_mostShared_57, e_X7_mostShared_61, e_X7_mostShared_62, e_X7_mostShared_65, e_X7_mostShared_66, e_X7_mostShared_69, e_X7_mostShared_70, e_X7_mostShared_71, e_X7_mostShared_72, e_X7_mostShared_75, e_X7_mostShared_76, e_X7_mostShared_78, e_X7_mostShared_79, e_X7_mostShared_80, e_X7_mostShared_82, e_X7_mostShared_83, e_X7_mostShared_86, e_X7_mostShared_87, e_X7_mostShared_90, e_X7_mostShared_91, e_X7_mostShared_93, e_X7_mostShared_94, e_X7_mostShared_96, e_X7_mostShared_99, e_X7_mostShared_101, e_X7_mostShared_102, e_X7_mostShared_103, e_X7_mostShared_105, e_X7_mostShared_108, e_X7_mostShared_111, e_X7_mostShared_114, e_X7_mostShared_116, e_X7_mostShared_117, e_X7_mostShared_120, e_X7_mostShared_123, e_X7_mostShared_126, e_X7_mostShared_129, e_X7_mostShared_130, e_X7_mostShared_133, e_X7_mostShared_134, e_X7_mostShared_135, ob_77, rk_77_0, ob_5, rk_77_1, ar_78, kcl_i, kcl_r, kcl_l, kcl_0, kcl_n, true_and, and_true, jpF hz (by omega), if_false, e, kin2304 (show 2048 + z < 2304 by omega), cl_n (show 2048 + z < 100000 by omega), aW_s (show 2048 + z < 2304 by omega), true_and, tn_s]) (i 78)
  rw [aP_g] at F
  refine F.trans ?_
  refine e_X7_mostShared_12.trans ?_
  simp only [e_X7_mostShared_0, e_X7_mostShared_1, e_X7_mostShared_2, e_X7_mostShared_5, e_X7_mostShared_8, e_X7_mostShared_9, e_X7_mostShared_10, e_X7_mostShared_11, e_X7_mostShared_13, e_X7_mostShared_14, e_X7_mostShared_17, e_X7_mostShared_18, e_X7_mostShared_21, e_X7_mostShared_24, e_X7_mostShared_25, e_X7_mostShared_26, e_X7_mostShared_27, e_X7_mostShared_28, e_X7_mostShared_31, e_X7_mostShared_34, e_X7_mostShared_36, e_X7_mostShared_38, e_X7_mostShared_41, e_X7_mostShared_42, e_X7_mostShared_43, e_X7_mostShared_44, e_X7_mostShared_45, e_X7_mostShared_46, e_X7_mostShared_49, e_X7_mostShared_50, e_X7_mostShared_53, e_X7_mostShared_54, e_X7_mostShared_56, e_X7_mostShared_57, e_X7_mostShared_61, e_X7_mostShared_62, e_X7_mostShared_65, e_X7_mostShared_66, e_X7_mostShared_69, e_X7_mostShared_70, e_X7_mostShared_71, e_X7_mostShared_72, e_X7_mostShared_75, e_X7_mostShared_76, e_X7_mostShared_78, e_X7_mostShared_79, e_X7_mostShared_80, e_X7_mostShared_82, e_X7_mostShared_83, e_X7_mostShared_86, e_X7_mostShared_87, e_X7_mostShared_90, e_X7_mostShared_91, e_X7_mostShared_93, e_X7_mostShared_94, e_X7_mostShared_96, e_X7_mostShared_99, e_X7_mostShared_101, e_X7_mostShared_102, e_X7_mostShared_103, e_X7_mostShared_105, e_X7_mostShared_108, e_X7_mostShared_111, e_X7_mostShared_114, e_X7_mostShared_116, e_X7_mostShared_117, e_X7_mostShared_120, e_X7_mostShared_123, e_X7_mostShared_126, e_X7_mostShared_129, e_X7_mostShared_130, e_X7_mostShared_133, e_X7_mostShared_134, e_X7_mostShared_135, ob_77, rk_77_0, ob_5, rk_77_1, ar_78, kcl_i, kcl_r, kcl_l, kcl_0, kcl_n, true_and, and_true, Int32.le_refl, if_true]
  have E := k_lq (n := 8) (Q := fun x (w : (Nat → Int32) × Value × Value × Value) => kWP sc (d + 3) 69 37 [.ref 77, .int p, .int (Int32.ofNat (2 ^ m)), .int (dn x), w.2.1, w.2.2.1, w.2.2.2] [] ((120, cu, su), aPut i 78 2304 w.1, l, kR f t sp) K) (I := fun x w => w.1 = kfo (fun x A => hsTr (i 8) p m (7 - x) A) x (hsT0 m (i 78))) (b0 := (hsT0 m (i 78), .retAddr 0, .retAddr 0, .retAddr 0)) ?_ rfl
  · obtain ⟨⟨A, v4, v5, v6⟩, hA, e⟩ := E
    have hA' : A = hsT (i 8) p m (i 78) := hA
    refine e.trans ?_
    refine e_X7_mostShared_37.trans ?_
    simp only [e_X7_mostShared_0, e_X7_mostShared_1, e_X7_mostShared_2, e_X7_mostShared_5, e_X7_mostShared_8, e_X7_mostShared_9, e_X7_mostShared_10, e_X7_mostShared_11, e_X7_mostShared_13, e_X7_mostShared_14, e_X7_mostShared_17, e_X7_mostShared_18, e_X7_mostShared_21, e_X7_mostShared_24, e_X7_mostShared_25, e_X7_mostShared_26, e_X7_mostShared_27, e_X7_mostShared_28, e_X7_mostShared_31, e_X7_mostShared_34, e_X7_mostShared_36, e_X7_mostShared_38, e_X7_mostShared_41, e_X7_mostShared_42, e_X7_mostShared_43, e_X7_mostShared_44, e_X7_mostShared_45, e_X7_mostShared_46, e_X7_mostShared_49, e_X7_mostShared_50, e_X7_mostShared_53, e_X7_mostShared_54, e_X7_mostShared_56, e_X7_mostShared_57, e_X7_mostShared_61, e_X7_mostShared_62, e_X7_mostShared_65, e_X7_mostShared_66, e_X7_mostShared_69, e_X7_mostShared_70, e_X7_mostShared_71, e_X7_mostShared_72, e_X7_mostShared_75, e_X7_mostShared_76, e_X7_mostShared_78, e_X7_mostShared_79, e_X7_mostShared_80, e_X7_mostShared_82, e_X7_mostShared_83, e_X7_mostShared_86, e_X7_mostShared_87, e_X7_mostShared_90, e_X7_mostShared_91, e_X7_mostShared_93, e_X7_mostShared_94, e_X7_mostShared_96, e_X7_mostShared_99, e_X7_mostShared_101, e_X7_mostShared_102, e_X7_mostShared_103, e_X7_mostShared_105, e_X7_mostShared_108, e_X7_mostShared_111, e_X7_mostShared_114, e_X7_mostShared_116, e_X7_mostShared_117, e_X7_mostShared_120, e_X7_mostShared_123, e_X7_mostShared_126, e_X7_mostShared_129, e_X7_mostShared_130, e_X7_mostShared_133, e_X7_mostShared_134, e_X7_mostShared_135, ob_77, rk_77_0, ob_5, rk_77_1, ar_78, kcl_i, kcl_r, kcl_l, kcl_0, kcl_n, true_and, and_true, show dn 8 < 0 from by decide, if_true, hA', show kin 0 2304 = True from eq_true (by decide), show Int32.toNatClampNeg 0 = 0 from rfl, aP_s (show 0 < 2304 by decide), true_and]
  · intro x ⟨A, v4, v5, v6⟩ hx hI
    have hI' : A = kfo (fun x A => hsTr (i 8) p m (7 - x) A) x (hsT0 m (i 78)) := hI
    have dnn : (Int32.ofNat (7 - x) < 0) = False := eq_false (tn_nn (by omega))
    have bq : (if (p >>> (Int32.ofNat (7 - x) &&& 31)) &&& 1 = 0 then (0 : Int32) else 1) = pBit p (7 - x) := by
      rcases @pBit_or p 0 (7 - x) with c | c
      · rw [c]; have c' : (p >>> (Int32.ofNat (7 - x) &&& 31)) &&& 1 = 0 := c
        rw [if_pos c']
      · rw [c]; have c' : (p >>> (Int32.ofNat (7 - x) &&& 31)) &&& 1 = 1 := c
        rw [if_neg (by rw [c']; decide)]
    have R : ∃ v6', kWP sc (d + 3) 69 59 [.ref 77, .int p, .int (Int32.ofNat (2 ^ m)), .int (Int32.ofNat (7 - x)), .int (pBit p (7 - x)), .int (Int32.ofNat 0), v6] [] ((120, cu, su), aPut i 78 2304 A, l, kR f t sp) K = kWP sc (d + 3) 69 37 [.ref 77, .int p, .int (Int32.ofNat (2 ^ m)), .int (dn (x + 1)), .int (pBit p (7 - x)), .int (Int32.ofNat (2 ^ m)), v6'] [] ((120, cu, su), aPut i 78 2304 (hsTr (i 8) p m (7 - x) A), l, kR f t sp) K := by
      have G := k_lq (n := 2 ^ m) (Q := fun z (w : (Nat → Int32) × Value) => kWP sc (d + 3) 69 59 [.ref 77, .int p, .int (Int32.ofNat (2 ^ m)), .int (Int32.ofNat (7 - x)), .int (pBit p (7 - x)), .int (Int32.ofNat z), w.2] [] ((120, cu, su), aPut i 78 2304 w.1, l, kR f t sp) K) (I := fun z w => w.1 = kfo (fun u A => kuf A ((7 - x) * 256 + u) (hsV (i 8) p A m (7 - x) u)) z A) (b0 := (A, v6)) ?_ rfl
      · obtain ⟨⟨A2, v6'⟩, hA2, e⟩ := G
        have hA2' : A2 = hsTr (i 8) p m (7 - x) A := hA2
        refine ⟨v6', e.trans ?_⟩
        refine e_X7_mostShared_59.trans ?_
        simp only [e_X7_mostShared_0, e_X7_mostShared_1, e_X7_mostShared_2, e_X7_mostShared_5, e_X7_mostShared_8, e_X7_mostShared_9, e_X7_mostShared_10, e_X7_mostShared_11, e_X7_mostShared_13, e_X7_mostShared_14, e_X7_mostShared_17, e_X7_mostShared_18, e_X7_mostShared_21, e_X7_mostShared_24, e_X7_mostShared_25, e_X7_mostShared_26, e_X7_mostShared_27, e_X7_mostShared_28, e_X7_mostShared_31, e_X7_mostShared_34, e_X7_mostShared_36, e_X7_mostShared_38, e_X7_mostShared_41, e_X7_mostShared_42, e_X7_mostShared_43, e_X7_mostShared_44, e_X7_mostShared_45, e_X7_mostShared_46, e_X7_mostShared_49, e_X7_mostShared_50, e_X7_mostShared_53, e_X7_mostShared_54, e_X7_mostShared_56, e_X7_mostShared_57, e_X7_mostShared_61, e_X7_mostShared_62, e_X7_mostShared_65, e_X7_mostShared_66, e_X7_mostShared_69, e_X7_mostShared_70, e_X7_mostShared_71, e_X7_mostShared_72, e_X7_mostShared_75, e_X7_mostShared_76, e_X7_mostShared_78, e_X7_mostShared_79, e_X7_mostShared_80, e_X7_mostShared_82, e_X7_mostShared_83, e_X7_mostShared_86, e_X7_mostShared_87, e_X7_mostShared_90, e_X7_mostShared_91, e_X7_mostShared_93, e_X7_mostShared_94, e_X7_mostShared_96, e_X7_mostShared_99, e_X7_mostShared_101, e_X7_mostShared_102, e_X7_mostShared_103, e_X7_mostShared_105, e_X7_mostShared_108, e_X7_mostShared_111, e_X7_mostShared_114, e_X7_mostShared_116, e_X7_mostShared_117, e_X7_mostShared_120, e_X7_mostShared_123, e_X7_mostShared_126, e_X7_mostShared_129, e_X7_mostShared_130, e_X7_mostShared_133, e_X7_mostShared_134, e_X7_mostShared_135, ob_77, rk_77_0, ob_5, rk_77_1, ar_78, kcl_i, kcl_r, kcl_l, kcl_0, kcl_n, true_and, and_true, Int32.le_refl, if_true, hA2', ← dn_lt hx, dn_s x hx]
      · intro z ⟨B, v6'⟩ hz hJ
        have hJ' : B = kfo (fun u A => kuf A ((7 - x) * 256 + u) (hsV (i 8) p A m (7 - x) u)) z A := hJ
        refine ⟨(kuf B ((7 - x) * 256 + z) (hsV (i 8) p B m (7 - x) z), .int (B ((7 - x + 1) * 256 + z))), ?_, ?_⟩
        · show kuf B ((7 - x) * 256 + z) (hsV (i 8) p B m (7 - x) z) = kuf (kfo (fun u A => kuf A ((7 - x) * 256 + u) (hsV (i 8) p A m (7 - x) u)) z A) ((7 - x) * 256 + z) (hsV (i 8) p (kfo (fun u A => kuf A ((7 - x) * 256 + u) (hsV (i 8) p A m (7 - x) u)) z A) m (7 - x) z)
          rw [hJ']
        · have eW : hsW (i 8) (aPut i 78 2304 B 78) m (7 - x) z = hsW (i 8) B m (7 - x) z := kfo_congr (fun a ha b => by
            have := or_fit hz ha
            rw [aP_s (show (7 - x + 1) * 256 + (z ||| 2 ^ a) < 2304 by omega)])
          refine e_X7_mostShared_59.trans ?_
          unfold hsV
          simp only [e_X7_mostShared_0, e_X7_mostShared_1, e_X7_mostShared_2, e_X7_mostShared_5, e_X7_mostShared_8, e_X7_mostShared_9, e_X7_mostShared_10, e_X7_mostShared_11, e_X7_mostShared_13, e_X7_mostShared_14, e_X7_mostShared_17, e_X7_mostShared_18, e_X7_mostShared_21, e_X7_mostShared_24, e_X7_mostShared_25, e_X7_mostShared_26, e_X7_mostShared_27, e_X7_mostShared_28, e_X7_mostShared_31, e_X7_mostShared_34, e_X7_mostShared_36, e_X7_mostShared_38, e_X7_mostShared_41, e_X7_mostShared_42, e_X7_mostShared_43, e_X7_mostShared_44, e_X7_mostShared_45, e_X7_mostShared_46, e_X7_mostShared_49, e_X7_mostShared_50, e_X7_mostShared_53, e_X7_mostShared_54, e_X7_mostShared_56, e_X7_mostShared_57, e_X7_mostShared_61, e_X7_mostShared_62, e_X7_mostShared_65, e_X7_mostShared_66, e_X7_mostShared_69, e_X7_mostShared_70, e_X7_mostShared_71, e_X7_mostShared_72, e_X7_mostShared_75, e_X7_mostShared_76, e_X7_mostShared_78, e_X7_mostShared_79, e_X7_mostShared_80, e_X7_mostShared_82, e_X7_mostShared_83, e_X7_mostShared_86, e_X7_mostShared_87, e_X7_mostShared_90, e_X7_mostShared_91, e_X7_mostShared_93, e_X7_mostShared_94, e_X7_mostShared_96, e_X7_mostShared_99, e_X7_mostShared_101, e_X7_mostShared_102, e_X7_mostShared_103, e_X7_mostShared_105, e_X7_mostShared_108, e_X7_mostShared_111, e_X7_mostShared_114, e_X7_mostShared_116, e_X7_mostShared_117, e_X7_mostShared_120, e_X7_mostShared_123, e_X7_mostShared_126, e_X7_mostShared_129, e_X7_mostShared_130, e_X7_mostShared_133, e_X7_mostShared_134, e_X7_mostShared_135, ob_77, rk_77_0, ob_5, rk_77_1, ar_78, kcl_i, kcl_r, kcl_l, kcl_0, kcl_n, true_and, and_true, jpF hz (by omega), if_false, at_nat, at_nat0, kin2304 (show (7 - x + 1) * 256 + z < 2304 by omega), kin2304 (show (7 - x) * 256 + z < 2304 by omega), cl_n (show (7 - x + 1) * 256 + z < 100000 by omega), cl_n (show (7 - x) * 256 + z < 100000 by omega), aP_s (show (7 - x + 1) * 256 + z < 2304 by omega), true_and]
          by_cases c : pBit p (7 - x) = 0
          · simp only [c, if_true, aW_s (show (7 - x) * 256 + z < 2304 by omega), tn_s, e_X7_mostShared_0, e_X7_mostShared_1, e_X7_mostShared_2, e_X7_mostShared_5, e_X7_mostShared_8, e_X7_mostShared_9, e_X7_mostShared_10, e_X7_mostShared_11, e_X7_mostShared_13, e_X7_mostShared_14, e_X7_mostShared_17, e_X7_mostShared_18, e_X7_mostShared_21, e_X7_mostShared_24, e_X7_mostShared_25, e_X7_mostShared_26, e_X7_mostShared_27, e_X7_mostShared_28, e_X7_mostShared_31, e_X7_mostShared_34, e_X7_mostShared_36, e_X7_mostShared_38, e_X7_mostShared_41, e_X7_mostShared_42, e_X7_mostShared_43, e_X7_mostShared_44, e_X7_mostShared_45, e_X7_mostShared_46, e_X7_mostShared_49, e_X7_mostShared_50, e_X7_mostShared_53, e_X7_mostShared_54, e_X7_mostShared_56, e_X7_mostShared_57, e_X7_mostShared_61, e_X7_mostShared_62, e_X7_mostShared_65, e_X7_mostShared_66, e_X7_mostShared_69, e_X7_mostShared_70, e_X7_mostShared_71, e_X7_mostShared_72, e_X7_mostShared_75, e_X7_mostShared_76, e_X7_mostShared_78, e_X7_mostShared_79, e_X7_mostShared_80, e_X7_mostShared_82, e_X7_mostShared_83, e_X7_mostShared_86, e_X7_mostShared_87, e_X7_mostShared_90, e_X7_mostShared_91, e_X7_mostShared_93, e_X7_mostShared_94, e_X7_mostShared_96, e_X7_mostShared_99, e_X7_mostShared_101, e_X7_mostShared_102, e_X7_mostShared_103, e_X7_mostShared_105, e_X7_mostShared_108, e_X7_mostShared_111, e_X7_mostShared_114, e_X7_mostShared_116, e_X7_mostShared_117, e_X7_mostShared_120, e_X7_mostShared_123, e_X7_mostShared_126, e_X7_mostShared_129, e_X7_mostShared_130, e_X7_mostShared_133, e_X7_mostShared_134, e_X7_mostShared_135, ob_77, rk_77_0, ob_5, rk_77_1, ar_78, kcl_i, kcl_r, kcl_l, kcl_0, kcl_n, true_and, and_true]
          · simp only [c, if_false, c_mostWithTaker (i := aPut i 78 2304 B) (d := d + 1) (a5 B) h8 (show 7 - x < 8 by omega) hz, a8, eW, kin2304 (show (7 - x) * 256 + z < 2304 by omega), cl_n (show (7 - x) * 256 + z < 100000 by omega), aW_s (show (7 - x) * 256 + z < 2304 by omega), true_and, tn_s, e_X7_mostShared_0, e_X7_mostShared_1, e_X7_mostShared_2, e_X7_mostShared_5, e_X7_mostShared_8, e_X7_mostShared_9, e_X7_mostShared_10, e_X7_mostShared_11, e_X7_mostShared_13, e_X7_mostShared_14, e_X7_mostShared_17, e_X7_mostShared_18, e_X7_mostShared_21, e_X7_mostShared_24, e_X7_mostShared_25, e_X7_mostShared_26, e_X7_mostShared_27, e_X7_mostShared_28, e_X7_mostShared_31, e_X7_mostShared_34, e_X7_mostShared_36, e_X7_mostShared_38, e_X7_mostShared_41, e_X7_mostShared_42, e_X7_mostShared_43, e_X7_mostShared_44, e_X7_mostShared_45, e_X7_mostShared_46, e_X7_mostShared_49, e_X7_mostShared_50, e_X7_mostShared_53, e_X7_mostShared_54, e_X7_mostShared_56, e_X7_mostShared_57, e_X7_mostShared_61, e_X7_mostShared_62, e_X7_mostShared_65, e_X7_mostShared_66, e_X7_mostShared_69, e_X7_mostShared_70, e_X7_mostShared_71, e_X7_mostShared_72, e_X7_mostShared_75, e_X7_mostShared_76, e_X7_mostShared_78, e_X7_mostShared_79, e_X7_mostShared_80, e_X7_mostShared_82, e_X7_mostShared_83, e_X7_mostShared_86, e_X7_mostShared_87, e_X7_mostShared_90, e_X7_mostShared_91, e_X7_mostShared_93, e_X7_mostShared_94, e_X7_mostShared_96, e_X7_mostShared_99, e_X7_mostShared_101, e_X7_mostShared_102, e_X7_mostShared_103, e_X7_mostShared_105, e_X7_mostShared_108, e_X7_mostShared_111, e_X7_mostShared_114, e_X7_mostShared_116, e_X7_mostShared_117, e_X7_mostShared_120, e_X7_mostShared_123, e_X7_mostShared_126, e_X7_mostShared_129, e_X7_mostShared_130, e_X7_mostShared_133, e_X7_mostShared_134, e_X7_mostShared_135, ob_77, rk_77_0, ob_5, rk_77_1, ar_78, kcl_i, kcl_r, kcl_l, kcl_0, kcl_n, true_and, and_true]
    obtain ⟨v6', R⟩ := R
    refine ⟨(hsTr (i 8) p m (7 - x) A, .int (pBit p (7 - x)), .int (Int32.ofNat (2 ^ m)), v6'), ?_, ?_⟩
    · show hsTr (i 8) p m (7 - x) A = hsTr (i 8) p m (7 - x) (kfo (fun x A => hsTr (i 8) p m (7 - x) A) x (hsT0 m (i 78)))
      rw [hI']
    · refine e_X7_mostShared_37.trans ?_
      refine Eq.trans ?_ R
      simp only [e_X7_mostShared_0, e_X7_mostShared_1, e_X7_mostShared_2, e_X7_mostShared_5, e_X7_mostShared_8, e_X7_mostShared_9, e_X7_mostShared_10, e_X7_mostShared_11, e_X7_mostShared_13, e_X7_mostShared_14, e_X7_mostShared_17, e_X7_mostShared_18, e_X7_mostShared_21, e_X7_mostShared_24, e_X7_mostShared_25, e_X7_mostShared_26, e_X7_mostShared_27, e_X7_mostShared_28, e_X7_mostShared_31, e_X7_mostShared_34, e_X7_mostShared_36, e_X7_mostShared_38, e_X7_mostShared_41, e_X7_mostShared_42, e_X7_mostShared_43, e_X7_mostShared_44, e_X7_mostShared_45, e_X7_mostShared_46, e_X7_mostShared_49, e_X7_mostShared_50, e_X7_mostShared_53, e_X7_mostShared_54, e_X7_mostShared_56, e_X7_mostShared_57, e_X7_mostShared_61, e_X7_mostShared_62, e_X7_mostShared_65, e_X7_mostShared_66, e_X7_mostShared_69, e_X7_mostShared_70, e_X7_mostShared_71, e_X7_mostShared_72, e_X7_mostShared_75, e_X7_mostShared_76, e_X7_mostShared_78, e_X7_mostShared_79, e_X7_mostShared_80, e_X7_mostShared_82, e_X7_mostShared_83, e_X7_mostShared_86, e_X7_mostShared_87, e_X7_mostShared_90, e_X7_mostShared_91, e_X7_mostShared_93, e_X7_mostShared_94, e_X7_mostShared_96, e_X7_mostShared_99, e_X7_mostShared_101, e_X7_mostShared_102, e_X7_mostShared_103, e_X7_mostShared_105, e_X7_mostShared_108, e_X7_mostShared_111, e_X7_mostShared_114, e_X7_mostShared_116, e_X7_mostShared_117, e_X7_mostShared_120, e_X7_mostShared_123, e_X7_mostShared_126, e_X7_mostShared_129, e_X7_mostShared_130, e_X7_mostShared_133, e_X7_mostShared_134, e_X7_mostShared_135, ob_77, rk_77_0, ob_5, rk_77_1, ar_78, kcl_i, kcl_r, kcl_l, kcl_0, kcl_n, true_and, and_true, dn_lt hx, dnn, if_false]
      rcases @pBit_or p 0 (7 - x) with c | c
      · have c' : (p >>> (Int32.ofNat (7 - x) &&& 31)) &&& 1 = 0 := c
        simp only [c, c', if_true, e_X7_mostShared_0, e_X7_mostShared_1, e_X7_mostShared_2, e_X7_mostShared_5, e_X7_mostShared_8, e_X7_mostShared_9, e_X7_mostShared_10, e_X7_mostShared_11, e_X7_mostShared_13, e_X7_mostShared_14, e_X7_mostShared_17, e_X7_mostShared_18, e_X7_mostShared_21, e_X7_mostShared_24, e_X7_mostShared_25, e_X7_mostShared_26, e_X7_mostShared_27, e_X7_mostShared_28, e_X7_mostShared_31, e_X7_mostShared_34, e_X7_mostShared_36, e_X7_mostShared_38, e_X7_mostShared_41, e_X7_mostShared_42, e_X7_mostShared_43, e_X7_mostShared_44, e_X7_mostShared_45, e_X7_mostShared_46, e_X7_mostShared_49, e_X7_mostShared_50, e_X7_mostShared_53, e_X7_mostShared_54, e_X7_mostShared_56, e_X7_mostShared_57, e_X7_mostShared_61, e_X7_mostShared_62, e_X7_mostShared_65, e_X7_mostShared_66, e_X7_mostShared_69, e_X7_mostShared_70, e_X7_mostShared_71, e_X7_mostShared_72, e_X7_mostShared_75, e_X7_mostShared_76, e_X7_mostShared_78, e_X7_mostShared_79, e_X7_mostShared_80, e_X7_mostShared_82, e_X7_mostShared_83, e_X7_mostShared_86, e_X7_mostShared_87, e_X7_mostShared_90, e_X7_mostShared_91, e_X7_mostShared_93, e_X7_mostShared_94, e_X7_mostShared_96, e_X7_mostShared_99, e_X7_mostShared_101, e_X7_mostShared_102, e_X7_mostShared_103, e_X7_mostShared_105, e_X7_mostShared_108, e_X7_mostShared_111, e_X7_mostShared_114, e_X7_mostShared_116, e_X7_mostShared_117, e_X7_mostShared_120, e_X7_mostShared_123, e_X7_mostShared_126, e_X7_mostShared_129, e_X7_mostShared_130, e_X7_mostShared_133, e_X7_mostShared_134, e_X7_mostShared_135, ob_77, rk_77_0, ob_5, rk_77_1, ar_78, kcl_i, kcl_r, kcl_l, kcl_0, kcl_n, true_and, and_true]
        rfl
      · have c' : (p >>> (Int32.ofNat (7 - x) &&& 31)) &&& 1 = 1 := c
        simp only [c, c', z10, if_false, e_X7_mostShared_0, e_X7_mostShared_1, e_X7_mostShared_2, e_X7_mostShared_5, e_X7_mostShared_8, e_X7_mostShared_9, e_X7_mostShared_10, e_X7_mostShared_11, e_X7_mostShared_13, e_X7_mostShared_14, e_X7_mostShared_17, e_X7_mostShared_18, e_X7_mostShared_21, e_X7_mostShared_24, e_X7_mostShared_25, e_X7_mostShared_26, e_X7_mostShared_27, e_X7_mostShared_28, e_X7_mostShared_31, e_X7_mostShared_34, e_X7_mostShared_36, e_X7_mostShared_38, e_X7_mostShared_41, e_X7_mostShared_42, e_X7_mostShared_43, e_X7_mostShared_44, e_X7_mostShared_45, e_X7_mostShared_46, e_X7_mostShared_49, e_X7_mostShared_50, e_X7_mostShared_53, e_X7_mostShared_54, e_X7_mostShared_56, e_X7_mostShared_57, e_X7_mostShared_61, e_X7_mostShared_62, e_X7_mostShared_65, e_X7_mostShared_66, e_X7_mostShared_69, e_X7_mostShared_70, e_X7_mostShared_71, e_X7_mostShared_72, e_X7_mostShared_75, e_X7_mostShared_76, e_X7_mostShared_78, e_X7_mostShared_79, e_X7_mostShared_80, e_X7_mostShared_82, e_X7_mostShared_83, e_X7_mostShared_86, e_X7_mostShared_87, e_X7_mostShared_90, e_X7_mostShared_91, e_X7_mostShared_93, e_X7_mostShared_94, e_X7_mostShared_96, e_X7_mostShared_99, e_X7_mostShared_101, e_X7_mostShared_102, e_X7_mostShared_103, e_X7_mostShared_105, e_X7_mostShared_108, e_X7_mostShared_111, e_X7_mostShared_114, e_X7_mostShared_116, e_X7_mostShared_117, e_X7_mostShared_120, e_X7_mostShared_123, e_X7_mostShared_126, e_X7_mostShared_129, e_X7_mostShared_130, e_X7_mostShared_133, e_X7_mostShared_134, e_X7_mostShared_135, ob_77, rk_77_0, ob_5, rk_77_1, ar_78, kcl_i, kcl_r, kcl_l, kcl_0, kcl_n, true_and, and_true]
        rfl
theorem hsCh_of {co2 : Nat → Int32} (hco : ∀ a, a < m → co a = co2 a) (hk : k ≤ 7) : (hsB co2 w m k u = hsB co2 w m (k + 1) u → hsCh co2 w m k u = none) ∧ (¬ hsB co2 w m k u = hsB co2 w m (k + 1) u → ∃ a, hsCh co2 w m k u = some a ∧ kfi (fun a => hsD co (7 - k) u a ∧ 1 + hsB co2 w m k (u ||| 2 ^ a) = hsB co2 w m (k + 1) u) m 0 = some a) := by
  have S := (hsRun_spec (c := hsC co2 w (7 - k) u) (val := fun a => 1 + hsB co2 w m k (u ||| 2 ^ a)) (v0 := hsB co2 w m k u) (x := m)).2.2
  have e1 : (hsRun (hsC co2 w (7 - k) u) (fun a => 1 + hsB co2 w m k (u ||| 2 ^ a)) m (hsB co2 w m k u, none)).1 = hsB co2 w m (k + 1) u := rfl
  have e2 : (hsRun (hsC co2 w (7 - k) u) (fun a => 1 + hsB co2 w m k (u ||| 2 ^ a)) m (hsB co2 w m k u, none)).2 = hsCh co2 w m k u := rfl
  rw [e1, e2] at S
  constructor
  · intro h
    rcases S with S | ⟨a, _, _, h2, _⟩
    · exact S.1
    · omega
  · intro h
    rcases S with S | ⟨a, ha, h1, h2, h3, h4, h5⟩
    · exact absurd S.2.symm h
    · refine ⟨a, h1, ?_⟩
      have hw : ¬ pBit (255 &&& w) (7 - k) = 0 := fun z => hsC_0 (by omega) z h3
      refine kfi_is ⟨(hsCD (by omega) hw (hco a ha)).1 h3, h4⟩ (Nat.zero_le _) (by omega) (fun b _ hb hp => ?_)
      have := h5 b hb ((hsCD (by omega) hw (hco b (by omega))).2 hp.1)
      omega
theorem c_leastTaker {co2 : Nat → Int32} (hm : i 5 0 = Int32.ofNat m) (h8 : m ≤ 8) (hco : ∀ a, a < m → i 8 a = co2 a) (hk : k ≤ 7) (hu : u < 2 ^ m) (hA : ∀ t, t ≤ 8 → ∀ u, u < 2 ^ m → i 78 (t * 256 + u) = Int32.ofNat (hsB co2 w m (8 - t) u)) : kCA sc (d + 2) 79 [.ref 77, .int (Int32.ofNat (7 - k)), .int (Int32.ofNat u)] y nx hd L st ((120, cu, su), i, l, kR f t sp) K = kWP sc (d + 2) y nx L (.int (oI (hsCh co2 w m k u)) :: st) ((120, cu, su), i, l, kR f t sp) K := by
  have h256 := pow_m m h8
  have C := hsCh_of (w := w) (u := u) hco hk
  have L0 := hsB_le (co := co2) (w := w) (m := m) k u
  have L1 := hsB_le (co := co2) (w := w) (m := m) (k + 1) u
  refine kCA_of (d := d + 1) (v := some (.int (oI (hsCh co2 w m k u)))) (S2 := ((120, cu, su), i, l, kR f t sp)) (fun K => ?_)
  rw [km_79]
  show kWP sc (d + 1) 79 0 [.ref 77, .int (Int32.ofNat (7 - k)), .int (Int32.ofNat u), .retAddr 0, .retAddr 0] [] _ K = _
  have eA0 : i 78 ((7 - k) * 256 + u) = Int32.ofNat (hsB co2 w m (k + 1) u) := by rw [hA (7 - k) (by omega) u hu, show 8 - (7 - k) = k + 1 by omega]
  have eA1 : ∀ u, u < 2 ^ m → i 78 ((7 - k + 1) * 256 + u) = Int32.ofNat (hsB co2 w m k u) := fun u hu => by rw [hA (7 - k + 1) (by omega) u hu, show 8 - (7 - k + 1) = k by omega]
  simp only [e_X7_leastTaker_0, e_X7_leastTaker_1, e_X7_leastTaker_4, e_X7_leastTaker_5, e_X7_leastTaker_8, e_X7_leastTaker_9, e_X7_leastTaker_10, e_X7_leastTaker_11, e_X7_leastTaker_12, e_X7_leastTaker_13, e_X7_leastTaker_14, e_X7_leastTaker_17, e_X7_leastTaker_18, e_X7_leastTaker_19, e_X7_leastTaker_20, e_X7_leastTaker_23, e_X7_leastTaker_24, e_X7_leastTaker_25, e_X7_leastTaker_26, e_X7_leastTaker_27, e_X7_leastTaker_28, e_X7_leastTaker_31, e_X7_leastTaker_32, e_X7_leastTaker_33, e_X7_leastTaker_34, e_X7_leastTaker_38, e_X7_leastTaker_39, e_X7_leastTaker_42, e_X7_leastTaker_45, e_X7_leastTaker_48, e_X7_leastTaker_49, e_X7_leastTaker_50, e_X7_leastTaker_51, e_X7_leastTaker_53, e_X7_leastTaker_56, e_X7_leastTaker_59, e_X7_leastTaker_60, e_X7_leastTaker_61, e_X7_leastTaker_64, e_X7_leastTaker_65, e_X7_leastTaker_66, e_X7_leastTaker_67, e_X7_leastTaker_70, e_X7_leastTaker_71, e_X7_leastTaker_72, e_X7_leastTaker_73, e_X7_leastTaker_75, e_X7_leastTaker_76, e_X7_leastTaker_77, e_X7_leastTaker_78, e_X7_leastTaker_79, e_X7_leastTaker_80, e_X7_leastTaker_81, e_X7_leastTaker_84, e_X7_leastTaker_86, e_X7_leastTaker_87, e_X7_leastTaker_90, e_X7_leastTaker_93, e_X7_leastTaker_94, ob_77, rk_77_1, ar_78, rk_77_0, ob_5, kcl_i, kcl_r, kcl_l, kcl_0, kcl_n, true_and, and_true, at_nat, at_nat0, kin2304 (show (7 - k + 1) * 256 + u < 2304 by omega), kin2304 (show (7 - k) * 256 + u < 2304 by omega), cl_n (show (7 - k + 1) * 256 + u < 100000 by omega), cl_n (show (7 - k) * 256 + u < 100000 by omega), true_and, eA0, eA1 u hu, tn_eq (show hsB co2 w m k u < 2147483648 by omega) (show hsB co2 w m (k + 1) u < 2147483648 by omega)]
  by_cases c : hsB co2 w m k u = hsB co2 w m (k + 1) u
  · simp only [eq_true c, not_true_eq_false, if_false, C.1 c]
    rfl
  · obtain ⟨a, ea, ek⟩ := C.2 c
    simp only [eq_false c, not_false_eq_true, if_true, e_X7_leastTaker_0, e_X7_leastTaker_1, e_X7_leastTaker_4, e_X7_leastTaker_5, e_X7_leastTaker_8, e_X7_leastTaker_9, e_X7_leastTaker_10, e_X7_leastTaker_11, e_X7_leastTaker_12, e_X7_leastTaker_13, e_X7_leastTaker_14, e_X7_leastTaker_17, e_X7_leastTaker_18, e_X7_leastTaker_19, e_X7_leastTaker_20, e_X7_leastTaker_23, e_X7_leastTaker_24, e_X7_leastTaker_25, e_X7_leastTaker_26, e_X7_leastTaker_27, e_X7_leastTaker_28, e_X7_leastTaker_31, e_X7_leastTaker_32, e_X7_leastTaker_33, e_X7_leastTaker_34, e_X7_leastTaker_38, e_X7_leastTaker_39, e_X7_leastTaker_42, e_X7_leastTaker_45, e_X7_leastTaker_48, e_X7_leastTaker_49, e_X7_leastTaker_50, e_X7_leastTaker_51, e_X7_leastTaker_53, e_X7_leastTaker_56, e_X7_leastTaker_59, e_X7_leastTaker_60, e_X7_leastTaker_61, e_X7_leastTaker_64, e_X7_leastTaker_65, e_X7_leastTaker_66, e_X7_leastTaker_67, e_X7_leastTaker_70, e_X7_leastTaker_71, e_X7_leastTaker_72, e_X7_leastTaker_73, e_X7_leastTaker_75, e_X7_leastTaker_76, e_X7_leastTaker_77, e_X7_leastTaker_78, e_X7_leastTaker_79, e_X7_leastTaker_80, e_X7_leastTaker_81, e_X7_leastTaker_84, e_X7_leastTaker_86, e_X7_leastTaker_87, e_X7_leastTaker_90, e_X7_leastTaker_93, e_X7_leastTaker_94, ob_77, rk_77_1, ar_78, rk_77_0, ob_5, kcl_i, kcl_r, kcl_l, kcl_0, kcl_n, true_and, and_true]
    refine (k_find (P := fun x => kWP sc (d + 1) 79 36 [.ref 77, .int (Int32.ofNat (7 - k)), .int (Int32.ofNat u), .int (Int32.ofNat (hsB co2 w m (k + 1) u)), .int (Int32.ofNat x)] [] ((120, cu, su), i, l, kR f t sp) K) (Q := fun z => K (some (some (.int (Int32.ofNat z)))) ((120, cu, su), i, l, kR f t sp)) (p := fun a => hsD (i 8) (7 - k) u a ∧ 1 + hsB co2 w m k (u ||| 2 ^ a) = hsB co2 w m (k + 1) u) (n := m) ?_).trans ?_
    · intro x hx
      have hf := or_fit hu hx
      have L2 := hsB_le (co := co2) (w := w) (m := m) k (u ||| 2 ^ x)
      have e1 : (1 : Int32) + Int32.ofNat (hsB co2 w m k (u ||| 2 ^ x)) = Int32.ofNat (1 + hsB co2 w m k (u ||| 2 ^ x)) := by rw [Int32.add_comm, tn_s, Nat.add_comm]
      refine e_X7_leastTaker_36.trans ?_
      simp only [e_X7_leastTaker_0, e_X7_leastTaker_1, e_X7_leastTaker_4, e_X7_leastTaker_5, e_X7_leastTaker_8, e_X7_leastTaker_9, e_X7_leastTaker_10, e_X7_leastTaker_11, e_X7_leastTaker_12, e_X7_leastTaker_13, e_X7_leastTaker_14, e_X7_leastTaker_17, e_X7_leastTaker_18, e_X7_leastTaker_19, e_X7_leastTaker_20, e_X7_leastTaker_23, e_X7_leastTaker_24, e_X7_leastTaker_25, e_X7_leastTaker_26, e_X7_leastTaker_27, e_X7_leastTaker_28, e_X7_leastTaker_31, e_X7_leastTaker_32, e_X7_leastTaker_33, e_X7_leastTaker_34, e_X7_leastTaker_38, e_X7_leastTaker_39, e_X7_leastTaker_42, e_X7_leastTaker_45, e_X7_leastTaker_48, e_X7_leastTaker_49, e_X7_leastTaker_50, e_X7_leastTaker_51, e_X7_leastTaker_53, e_X7_leastTaker_56, e_X7_leastTaker_59, e_X7_leastTaker_60, e_X7_leastTaker_61, e_X7_leastTaker_64, e_X7_leastTaker_65, e_X7_leastTaker_66, e_X7_leastTaker_67, e_X7_leastTaker_70, e_X7_leastTaker_71, e_X7_leastTaker_72, e_X7_leastTaker_73, e_X7_leastTaker_75, e_X7_leastTaker_76, e_X7_leastTaker_77, e_X7_leastTaker_78, e_X7_leastTaker_79, e_X7_leastTaker_80, e_X7_leastTaker_81, e_X7_leastTaker_84, e_X7_leastTaker_86, e_X7_leastTaker_87, e_X7_leastTaker_90, e_X7_leastTaker_93, e_X7_leastTaker_94, ob_77, rk_77_1, ar_78, rk_77_0, ob_5, kcl_i, kcl_r, kcl_l, kcl_0, kcl_n, true_and, and_true, hm, jpF hx (by omega), if_false, c_canTake (show x < 8 by omega), kb_0, or_nat (show x ≤ 8 by omega), at_nat, at_nat0, kin2304 (show (7 - k + 1) * 256 + (u ||| 2 ^ x) < 2304 by omega), cl_n (show (7 - k + 1) * 256 + (u ||| 2 ^ x) < 100000 by omega), true_and, eA1 _ hf, e1, tn_eq (show 1 + hsB co2 w m k (u ||| 2 ^ x) < 2147483648 by omega) (show hsB co2 w m (k + 1) u < 2147483648 by omega), tn_s]
      by_cases c1 : hsD (i 8) (7 - k) u x
      · by_cases c2 : 1 + hsB co2 w m k (u ||| 2 ^ x) = hsB co2 w m (k + 1) u
        · simp only [eq_true c1, eq_true c2, not_true_eq_false, if_true, if_false, and_self]
        · simp only [eq_true c1, eq_false c2, not_true_eq_false, not_false_eq_true, if_true, if_false, and_false]
      · simp only [eq_false c1, not_false_eq_true, if_true, if_false, false_and]
    · rw [ek, ea]; rfl
theorem c_tellShares {co2 : Nat → Int32} (hm : i 5 0 = Int32.ofNat m) (h8 : m ≤ 8) (hco : ∀ a, a < m → i 8 a = co2 a) (hA : ∀ t, t ≤ 8 → ∀ u, u < 2 ^ m → i 78 (t * 256 + u) = Int32.ofNat (hsB co2 w m (8 - t) u)) : kCA sc (d + 3) 70 [.ref 77, .ref 3] y nx hd L st ((120, cu, su), wPut i 0, l, kR f t sp) K = kWP sc (d + 3) y nx L st ((120, cu, su), wPut i 8, tC l 0 (dl (fun x => (hsG co2 w m 8 0 x).toInt64) 8), kR f t sp) K := by
  refine kCA_of (d := d + 2) (v := none) (S2 := ((120, cu, su), wPut i 8, tC l 0 (dl (fun x => (hsG co2 w m 8 0 x).toInt64) 8), kR f t sp)) (fun K => ?_)
  rw [km_70]
  show kWP sc (d + 2) 70 0 [.ref 77, .ref 3, .retAddr 0, .retAddr 0, .retAddr 0] [] _ K = _
  simp only [e_X7_tellShares_0, e_X7_tellShares_1, e_X7_tellShares_2, e_X7_tellShares_3, e_X7_tellShares_5, e_X7_tellShares_7, e_X7_tellShares_10, e_X7_tellShares_11, e_X7_tellShares_12, e_X7_tellShares_13, e_X7_tellShares_16, e_X7_tellShares_18, e_X7_tellShares_19, e_X7_tellShares_21, e_X7_tellShares_22, e_X7_tellShares_25, e_X7_tellShares_27, e_X7_tellShares_28, e_X7_tellShares_31, e_X7_tellShares_32, e_X7_tellShares_33, e_X7_tellShares_35, e_X7_tellShares_36, e_X7_tellShares_37, e_X7_tellShares_38, e_X7_tellShares_41, e_X7_tellShares_44, ob_77, ob_3, kcl_i, kcl_r, kcl_l, kcl_0, kcl_n, true_and, and_true]
  have E := k_lq (n := 8) (Q := fun x (w' : Value) => kWP sc (d + 2) 70 4 [.ref 77, .ref 3, .int (Int32.ofNat (hsU co2 w m x)), .int (Int32.ofNat x), w'] [] ((120, cu, su), wPut i x, tC l 0 (dl (fun x => (hsG co2 w m 8 0 x).toInt64) x), kR f t sp) K) (I := fun _ _ => True) (b0 := .retAddr 0) ?_ trivial
  · obtain ⟨v, _, e⟩ := E
    refine e.trans ?_
    refine e_X7_tellShares_4.trans ?_
    simp only [e_X7_tellShares_0, e_X7_tellShares_1, e_X7_tellShares_2, e_X7_tellShares_3, e_X7_tellShares_5, e_X7_tellShares_7, e_X7_tellShares_10, e_X7_tellShares_11, e_X7_tellShares_12, e_X7_tellShares_13, e_X7_tellShares_16, e_X7_tellShares_18, e_X7_tellShares_19, e_X7_tellShares_21, e_X7_tellShares_22, e_X7_tellShares_25, e_X7_tellShares_27, e_X7_tellShares_28, e_X7_tellShares_31, e_X7_tellShares_32, e_X7_tellShares_33, e_X7_tellShares_35, e_X7_tellShares_36, e_X7_tellShares_37, e_X7_tellShares_38, e_X7_tellShares_41, e_X7_tellShares_44, ob_77, ob_3, kcl_i, kcl_r, kcl_l, kcl_0, kcl_n, true_and, and_true, jp88, if_true]
  · intro x v hx _
    refine ⟨.int (hsG co2 w m 8 0 x), trivial, ?_⟩
    have hG : hsG co2 w m 8 0 x = oI (hsCh co2 w m (7 - x) (hsU co2 w m x)) := hsG_U 8 (by decide) x (Nat.zero_le _) hx
    have W := fun (y nx : Nat) (L st : List Value) (hd : List (Int × Nat)) (K : Option (Option Value) → kS → Prop) => c_leastTaker (sc := sc) (d := d) (y := y) (nx := nx) (hd := hd) (L := L) (st := st) (cu := cu) (su := su) (i := wPut i x) (l := tC l 0 (dl (fun x => (hsG co2 w m 8 0 x).toInt64) x)) (f := f) (t := t) (sp := sp) (K := K) (m := m) (k := 7 - x) (u := hsU co2 w m x) (w := w) (co2 := co2) (by rw [w5]; exact hm) h8 (by rw [wP_o (by decide)]; exact hco) (by omega) hsU_lt (by rw [wP_o (by decide)]; exact hA)
    rw [show 7 - (7 - x) = x by omega, ← hG] at W
    have eU : hsU co2 w m (x + 1) = oU (hsU co2 w m x) (hsCh co2 w m (7 - x) (hsU co2 w m x)) := rfl
    refine e_X7_tellShares_4.trans ?_
    simp only [e_X7_tellShares_0, e_X7_tellShares_1, e_X7_tellShares_2, e_X7_tellShares_3, e_X7_tellShares_5, e_X7_tellShares_7, e_X7_tellShares_10, e_X7_tellShares_11, e_X7_tellShares_12, e_X7_tellShares_13, e_X7_tellShares_16, e_X7_tellShares_18, e_X7_tellShares_19, e_X7_tellShares_21, e_X7_tellShares_22, e_X7_tellShares_25, e_X7_tellShares_27, e_X7_tellShares_28, e_X7_tellShares_31, e_X7_tellShares_32, e_X7_tellShares_33, e_X7_tellShares_35, e_X7_tellShares_36, e_X7_tellShares_37, e_X7_tellShares_38, e_X7_tellShares_41, e_X7_tellShares_44, ob_77, ob_3, kcl_i, kcl_r, kcl_l, kcl_0, kcl_n, true_and, and_true, jp8 hx, if_false, W, c_radd (show x < 128 by omega), tC_dl (D := fun x => (hsG co2 w m 8 0 x).toInt64), tn_s]
    rw [eU]
    cases e : hsCh co2 w m (7 - x) (hsU co2 w m x) with
    | none =>
      have : hsG co2 w m 8 0 x = -1 := by rw [hG, e]; rfl
      simp only [this, if_true]
      rfl
    | some a =>
      have ha := hsCh_lt e
      have : hsG co2 w m 8 0 x = Int32.ofNat a := by rw [hG, e]; rfl
      simp only [this, m1_ne (show a < 100000 by omega), if_false, or_nat (show a ≤ 8 by omega)]
      rfl
theorem J_shares (h : IV m i l f t sp) : JJ 119 227 [] i l f t sp := by
  obtain ⟨⟨h5, h91, h8, e9, hle, hp⟩, _⟩ := id h
  have hco : ∀ a, a < m → i 8 a = mCo i a := fun a ha => (hp a ha).2.2
  have eS : i 10 0 = i 96 17 := (IV_now h).1
  have hT : ∀ t, t ≤ 8 → ∀ u, u < 2 ^ m → hsT (i 8) (255 &&& (i 96 17 ^^^ (-1))) m (i 78) (t * 256 + u) = Int32.ofNat (hsB (mCo i) (i 96 17 ^^^ (-1)) m (8 - t) u) := fun t ht u hu => hsT_ok h8 hco ht hu
  have h256 := pow_m m h8
  have ag1 : kAg kSc i (aPut i 78 2304 (hsT (i 8) (255 &&& (i 96 17 ^^^ (-1))) m (i 78))) := ag_a ag_r (fun _ _ => rfl)
  refine JJ_q h (Int32.ofNat (hsB (mCo i) (i 96 17 ^^^ (-1)) m 8 0)) 8 (aPut i 78 2304 (hsT (i 8) (255 &&& (i 96 17 ^^^ (-1))) m (i 78))) (hsS (uPut (wPut (aPut i 78 2304 (hsT (i 8) (255 &&& (i 96 17 ^^^ (-1))) m (i 78))) 8)) (hsE (wPut (aPut i 78 2304 (hsT (i 8) (255 &&& (i 96 17 ^^^ (-1))) m (i 78))) 8) m)) (dl (fun x => (hsG (mCo i) (i 96 17 ^^^ (-1)) m 8 0 x).toInt64) 8) dl_len (by decide) ag1 ?_ ?_ ?_ ?_
  · exact ag_u (ag_a (ag_a (ag_uu ag_r) (fun _ _ => rfl)) (fun _ _ => rfl)) rfl
  · rw [hsS_o (by decide) (by decide) (by decide), uP_o (by decide)]; exact kupi_s
  · intro sc d y nx hd L st cu su K
    have e0 : hsT (i 8) (255 &&& (i 96 17 ^^^ (-1))) m (i 78) 0 = Int32.ofNat (hsB (mCo i) (i 96 17 ^^^ (-1)) m 8 0) := hT 0 (Nat.zero_le _) 0 (Nat.two_pow_pos m)
    have T := fun (y nx : Nat) (L st : List Value) (hd : List (Int × Nat)) (K : Option (Option Value) → kS → Prop) => c_tellShares (sc := sc) (d := d + 496) (y := y) (nx := nx) (hd := hd) (L := L) (st := st) (cu := cu) (su := su) (i := aPut i 78 2304 (hsT (i 8) (255 &&& (i 96 17 ^^^ (-1))) m (i 78))) (l := l) (f := f) (t := t) (sp := sp) (K := K) (m := m) (w := i 96 17 ^^^ (-1)) (co2 := mCo i) (by rw [aP_o (by decide)]; exact h5) h8 (by rw [aP_o (by decide)]; exact hco) (fun t ht u hu => by rw [aP_s (by omega)]; exact hT t ht u hu)
    refine kCA_of (d := d + 499) (v := some (.int _)) (fun K => ?_)
    rw [km_119]
    show kWP sc (d + 499) 119 0 [.ref 0, .retAddr 0] [] _ K = _
    simp only [e_X10_shares_0, e_X10_shares_1, e_X10_shares_4, e_X10_shares_7, e_X10_shares_8, e_X10_shares_11, e_X10_shares_14, e_X10_shares_15, e_X10_shares_16, e_X10_shares_17, e_X10_shares_20, e_X10_shares_21, e_X10_shares_22, e_X10_shares_25, e_X10_shares_28, e_X10_shares_29, e_X10_shares_32, e_X10_shares_33, e_X10_shares_36, e_X10_shares_39, e_X10_shares_40, ob_0, rk_0_7, rk_0_3, ob_10, ob_13, ob_77, rk_0_1, ob_3, kcl_i, kcl_r, kcl_l, kcl_0, kcl_n, true_and, and_true, eS, c_mostShared (d := d + 495) h5 h8, c_start, T, e0, e_X10_shares_0, e_X10_shares_1, e_X10_shares_4, e_X10_shares_7, e_X10_shares_8, e_X10_shares_11, e_X10_shares_14, e_X10_shares_15, e_X10_shares_16, e_X10_shares_17, e_X10_shares_20, e_X10_shares_21, e_X10_shares_22, e_X10_shares_25, e_X10_shares_28, e_X10_shares_29, e_X10_shares_32, e_X10_shares_33, e_X10_shares_36, e_X10_shares_39, e_X10_shares_40, ob_0, rk_0_7, rk_0_3, ob_10, ob_13, ob_77, rk_0_1, ob_3, kcl_i, kcl_r, kcl_l, kcl_0, kcl_n, true_and, and_true]
  · have W := m_shares (i := wPut (aPut i 78 2304 (hsT (i 8) (255 &&& (i 96 17 ^^^ (-1))) m (i 78))) 8) (l := tC l 0 (dl (fun x => (hsG (mCo i) (i 96 17 ^^^ (-1)) m 8 0 x).toInt64) 8)) (f := f) (t := t) (sp := sp) (m := m) (by rw [w91, aP_o (by decide)]; exact h91) h8
    have eC : mCo (wPut (aPut i 78 2304 (hsT (i 8) (255 &&& (i 96 17 ^^^ (-1))) m (i 78))) 8) = mCo i := by
      rw [mCo_w]; unfold mCo; rw [aP_o (by decide), aP_o (by decide), aP_o (by decide)]
    rw [eC, wP_o (show 96 ≠ 3 by decide), aP_o (show 96 ≠ 78 by decide)] at W
    exact W
end TC
