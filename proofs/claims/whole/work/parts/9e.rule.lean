/-! a rule's text read by the reference: signs, numbers, codes -/
section TC
variable {sc : Nat × (Nat → Int32)} {d y nx : Nat} {hd : List (Int × Nat)} {L st : List Value} {S : kS} {cu su : Nat} {i : Nat → Nat → Int32} {l : Nat → Nat → Int64} {f t c b m : Nat} {sp : Nat → Nat} {K : Option (Option Value) → kS → Prop}
variable {N M Z S1 Q A S C C' : Nat → Int32} {n n2 k x a o g c h p to x' g' c' : Nat} {v r q u : Int32} {T : Nat → Int32}
/-- the codes that are read, how many -/
def kS3 (i : Nat → Nat → Int32) (C : Nat → Int32) (c : Nat) : Nat → Nat → Int32 := fun e z => if e = 101 then C z else if e = 91 ∧ z = 20 then Int32.ofNat c else i e z
theorem kS3_101 : kS3 i C c 101 = C := by funext z; unfold kS3; rw [if_pos rfl]
theorem kS3_20 : kS3 i C c 91 20 = Int32.ofNat c := rfl
theorem kS3_o {e : Nat} (h1 : e ≠ 101) (h2 : e ≠ 91) : kS3 i C c e = i e := by funext z; unfold kS3; rw [if_neg h1, if_neg (fun e => h2 e.1)]
theorem kS3_f {z : Nat} (h : z ≠ 20) : kS3 i C c 91 z = i 91 z := by unfold kS3; rw [if_neg (by decide), if_neg (fun e => h e.2)]
theorem kS3_98 : kS3 i C c 98 = i 98 := kS3_o (by decide) (by decide)
theorem kV_101 {x : Nat} {v : Int32} : kupi (tS (kS3 i C c) a o g) 101 x v = tS (kS3 i (kuf C x v) c) a o g := by
  rw [tU (by decide)]
  congr 1
  funext e z; unfold kupi kS3 kuf
  by_cases h1 : e = 101
  · subst h1; by_cases h2 : z = x
    · simp [h2]
    · simp [h2]
  · simp [h1]
theorem kV_20 {k2 : Nat} : kupi (tS (kS3 i C c) a o g) 91 20 (Int32.ofNat k2) = tS (kS3 i C k2) a o g := by
  funext e z; unfold kupi tS kS3
  by_cases h : e = 91 ∧ z = 20
  · obtain ⟨rfl, rfl⟩ := h; rfl
  · simp only [h, if_false]
theorem tS3_20 : tS (kS3 i C c) a o g 91 20 = Int32.ofNat c := rfl
theorem m_codes {v : Int32} {x o g c : Nat} {C : Nat → Int32} (hc : c < 80) : kCA sc (d + 1) 182 [.ref 91, .int v] y nx hd L st ((120, cu, su), tS (kS3 i C c) x o g, l, kR f t sp) K = kWP sc (d + 1) y nx L st ((120, cu, su), tS (kS3 i (kuf C c v) (c + 1)) x o g, l, kR f t sp) K := by
  refine kCA_of (d := d) (v := none) (S2 := ((120, cu, su), tS (kS3 i (kuf C c v) (c + 1)) x o g, l, kR f t sp)) (fun K => ?_)
  rw [km_182]
  show kWP sc (d) 182 0 [.ref 91, .int v] [] ((120, cu, su), tS (kS3 i C c) x o g, l, kR f t sp) K = K (some (none)) ((120, cu, su), tS (kS3 i (kuf C c v) (c + 1)) x o g, l, kR f t sp)
  simp only [e_X11_codes_0, e_X11_codes_1, e_X11_codes_4, e_X11_codes_5, e_X11_codes_8, e_X11_codes_9, e_X11_codes_10, e_X11_codes_11, e_X11_codes_12, e_X11_codes_15, e_X11_codes_16, e_X11_codes_17, e_X11_codes_20, ob_91, rk_91_18, ar_101, kcl_i, kcl_r, kcl_l, kcl_0, kcl_n, true_and, and_true, tS3_20, kin80 hc, cl_n (show c < 100000 by omega), kV_101, tn_s, kV_20, true_and]
theorem m_takesT {w : Int32} (ho : o ≤ 80) (hx : x ≤ o) (hT : ∀ x, x < o → i 98 x = T x) : kCA sc (d + 2) 172 [.ref 91, .int w] y nx hd L st ((120, cu, su), tS (kS3 i C c) x o g, l, kR f t sp) K = kWP sc (d + 2) y nx L (.int (kb (x < o ∧ T x = w)) :: st) ((120, cu, su), tS (kS3 i C c) (if x < o ∧ T x = w then x + 1 else x) o g, l, kR f t sp) K := by
  rw [m_takes ho hx, kS3_98]
  by_cases q : x < o
  · rw [hT x q]
  · simp only [q, false_and]
theorem m_isDigitT (ho : o ≤ 80) (hx : x ≤ o) (hT : ∀ x, x < o → i 98 x = T x) : kCA sc (d + 2) 173 [.ref 91] y nx hd L st ((120, cu, su), tS (kS3 i C c) x o g, l, kR f t sp) K = kWP sc (d + 2) y nx L (.int (kb (x < o ∧ isDg (T x) = true)) :: st) ((120, cu, su), tS (kS3 i C c) x o g, l, kR f t sp) K := by
  rw [m_isDigit ho hx, kS3_98]
  by_cases q : x < o
  · rw [hT x q]
  · simp only [q, false_and]
theorem m_takesOfT {b n : Nat} (ho : o ≤ 80) (hx : x ≤ o) (hT : ∀ x, x < o → i 98 x = T x) (hc : kStA ≤ b ∧ b < kStA + kStr.length) (hn : kstl b = n) (h100 : n < 100000) : kCA sc (d + 2) 175 [.ref 91, .ref b] y nx hd L st ((120, cu, su), tS (kS3 i C c) x o g, l, kR f t sp) K = kWP sc (d + 2) y nx L (.int (if x < o then pAm (kchr b) n (T x) else -1) :: st) ((120, cu, su), tS (kS3 i C c) (if x < o ∧ ¬ pAm (kchr b) n (T x) = -1 then x + 1 else x) o g, l, kR f t sp) K := by
  rw [m_takesOf ho hx hc hn h100, kS3_98]
  by_cases q : x < o
  · rw [hT x q]
  · simp only [q, false_and, if_false]
theorem l_numS (ho : o ≤ 80) (hT : ∀ x, x < o → i 98 x = T x) (hk : k < 3) (hx : x < o) (hg : isDg (T x) = true) : kWP sc (d + 2) 176 13 [.ref 91, .int 3, .int v, .int (Int32.ofNat k)] [] ((120, cu, su), tS (kS3 i C c) x o g, l, kR f t sp) K = kWP sc (d + 2) 176 13 [.ref 91, .int 3, .int (10 * v + T x - 48), .int (Int32.ofNat (k + 1))] [] ((120, cu, su), tS (kS3 i C c) (x + 1) o g, l, kR f t sp) K := by
  refine e_X11_number_13.trans ?_
  have e98 : ∀ z, tS (kS3 i C c) z o g 98 = i 98 := fun z => by rw [tS_98, kS3_98]
  simp only [e_X11_number_0, e_X11_number_1, e_X11_number_4, e_X11_number_7, e_X11_number_8, e_X11_number_9, e_X11_number_10, e_X11_number_11, e_X11_number_12, e_X11_number_14, e_X11_number_15, e_X11_number_18, e_X11_number_19, e_X11_number_22, e_X11_number_25, e_X11_number_27, e_X11_number_28, e_X11_number_29, e_X11_number_30, e_X11_number_33, e_X11_number_34, e_X11_number_37, e_X11_number_38, e_X11_number_39, e_X11_number_41, e_X11_number_42, e_X11_number_43, e_X11_number_44, e_X11_number_45, e_X11_number_48, e_X11_number_49, e_X11_number_50, e_X11_number_53, e_X11_number_56, e_X11_number_59, e_X11_number_60, ob_91, rk_91_10, ar_98, kcl_i, kcl_r, kcl_l, kcl_0, kcl_n, true_and, and_true, jpF (n := 3) hk (by decide), show (3 : Int32) = Int32.ofNat 3 from rfl, if_false, m_isDigitT ho (Nat.le_of_lt hx) hT, kb_0, hx, hg, and_self, not_true_eq_false, tS_12, e98, hT x hx, kin80 (show x < 80 by omega), cl_n (show x < 100000 by omega), tn_s, tW_12, true_and]
theorem l_numE (ho : o ≤ 80) (hx : x ≤ o) (hT : ∀ x, x < o → i 98 x = T x) (hk : k ≤ 3) (h : ¬ (k < 3 ∧ x < o ∧ isDg (T x) = true)) : kWP sc (d + 2) 176 13 [.ref 91, .int 3, .int v, .int (Int32.ofNat k)] [] ((120, cu, su), tS (kS3 i C c) x o g, l, kR f t sp) K = K (some (some (.int v))) ((120, cu, su), tS (kS3 i C c) x o g, l, kR f t sp) := by
  refine e_X11_number_13.trans ?_
  by_cases c1 : k = 3
  · subst c1
    simp only [e_X11_number_0, e_X11_number_1, e_X11_number_4, e_X11_number_7, e_X11_number_8, e_X11_number_9, e_X11_number_10, e_X11_number_11, e_X11_number_12, e_X11_number_14, e_X11_number_15, e_X11_number_18, e_X11_number_19, e_X11_number_22, e_X11_number_25, e_X11_number_27, e_X11_number_28, e_X11_number_29, e_X11_number_30, e_X11_number_33, e_X11_number_34, e_X11_number_37, e_X11_number_38, e_X11_number_39, e_X11_number_41, e_X11_number_42, e_X11_number_43, e_X11_number_44, e_X11_number_45, e_X11_number_48, e_X11_number_49, e_X11_number_50, e_X11_number_53, e_X11_number_56, e_X11_number_59, e_X11_number_60, ob_91, rk_91_10, ar_98, kcl_i, kcl_r, kcl_l, kcl_0, kcl_n, true_and, and_true, show ((3 : Int32) ≤ Int32.ofNat 3) = True from eq_true (by decide), if_true]
  · have c2 : ¬ (x < o ∧ isDg (T x) = true) := fun z => h ⟨by omega, z⟩
    simp only [e_X11_number_0, e_X11_number_1, e_X11_number_4, e_X11_number_7, e_X11_number_8, e_X11_number_9, e_X11_number_10, e_X11_number_11, e_X11_number_12, e_X11_number_14, e_X11_number_15, e_X11_number_18, e_X11_number_19, e_X11_number_22, e_X11_number_25, e_X11_number_27, e_X11_number_28, e_X11_number_29, e_X11_number_30, e_X11_number_33, e_X11_number_34, e_X11_number_37, e_X11_number_38, e_X11_number_39, e_X11_number_41, e_X11_number_42, e_X11_number_43, e_X11_number_44, e_X11_number_45, e_X11_number_48, e_X11_number_49, e_X11_number_50, e_X11_number_53, e_X11_number_56, e_X11_number_59, e_X11_number_60, ob_91, rk_91_10, ar_98, kcl_i, kcl_r, kcl_l, kcl_0, kcl_n, true_and, and_true, jpF (n := 3) (show k < 3 by omega) (by decide), show (3 : Int32) = Int32.ofNat 3 from rfl, if_false, m_isDigitT ho hx hT, kb_0, c2, not_false_eq_true, if_true]
theorem dg_ex {v : Int32} (h : isDg v = true) : ∃ k, k ≤ 9 ∧ v = Int32.ofNat (48 + k) ∧ v - 48 = Int32.ofNat k := by
  rw [isDg_iff] at h
  have h1 : ¬ v < Int32.ofNat 48 := h.1
  have h2 : v < Int32.ofNat (48 + 10) := Int32.lt_of_le_of_lt (Int32.not_lt.1 h.2) (by decide)
  obtain ⟨z, hz, e, e2⟩ := off_nat (o := 48) (n := 10) (by decide) (by decide) h1 h2
  exact ⟨z, by omega, e, e2⟩
theorem dg_ne {v : Int32} (h : isDg v = true) : ¬ v = 45 ∧ ¬ v = 40 := by
  constructor
  · rintro rfl; exact absurd h (by decide)
  · rintro rfl; exact absurd h (by decide)
theorem ten_d {a b : Nat} {v : Int32} (h : v = Int32.ofNat (48 + b)) : 10 * Int32.ofNat a + v - 48 = Int32.ofNat (10 * a + b) := by
  rw [h, show (10 : Int32) = Int32.ofNat 10 from rfl, mul_nat, ← Int32.ofNat_add, show (48 : Int32) = Int32.ofNat 48 from rfl, sub_nat (by omega), show 10 * a + (48 + b) - 48 = 10 * a + b by omega]
theorem d_ten {a b : Nat} {v : Int32} (h : v - 48 = Int32.ofNat b) : Int32.ofNat a * 10 + (v - 48) = Int32.ofNat (10 * a + b) := by
  rw [h, show (10 : Int32) = Int32.ofNat 10 from rfl, mul_nat, ← Int32.ofNat_add, show a * 10 + b = 10 * a + b by omega]
/-- a number of at most three digits -/
theorem num_ok (ho : o ≤ 40) (hx : x < o) (hg : isDg (T x) = true) : ∃ k v : Nat, 1 ≤ k ∧ k ≤ 3 ∧ x + k ≤ o ∧ v < 1000 ∧ (∀ (w s : List Int32) (g h : Nat), goL T k x (w, s, g, h, true) = some (Int32.ofNat v :: w, s, g, k, false)) ∧ (x + k < o → isDg (T (x + k)) = true → k = 3) ∧
    ∀ (i : Nat → Nat → Int32) (hT : ∀ x, x < o → i 98 x = T x) (sc : Nat × (Nat → Int32)) (d y nx : Nat) (hd : List (Int × Nat)) (L st : List Value) (cu su : Nat) (l : Nat → Nat → Int64) (f t : Nat) (sp : Nat → Nat) (K : Option (Option Value) → kS → Prop) (C : Nat → Int32) (c g : Nat), kCA sc (d + 3) 176 [.ref 91, .int 3] y nx hd L st ((120, cu, su), tS (kS3 i C c) x o g, l, kR f t sp) K = kWP sc (d + 3) y nx L (.int (Int32.ofNat v) :: st) ((120, cu, su), tS (kS3 i C c) (x + k) o g, l, kR f t sp) K := by
  have start : ∀ (i : Nat → Nat → Int32) (hT : ∀ x, x < o → i 98 x = T x) (sc : Nat × (Nat → Int32)) (d cu su : Nat) (l : Nat → Nat → Int64) (f t : Nat) (sp : Nat → Nat) (K : Option (Option Value) → kS → Prop) (C : Nat → Int32) (c g : Nat), kWP sc (d + 2) 176 0 [.ref 91, .int 3, .retAddr 0, .retAddr 0] [] ((120, cu, su), tS (kS3 i C c) x o g, l, kR f t sp) K = kWP sc (d + 2) 176 13 [.ref 91, .int 3, .int (Int32.ofNat 0), .int (Int32.ofNat 0)] [] ((120, cu, su), tS (kS3 i C c) x o g, l, kR f t sp) K := by
    intro i hT sc d cu su l f t sp K C c g
    simp only [e_X11_number_0, e_X11_number_1, e_X11_number_4, e_X11_number_7, e_X11_number_8, e_X11_number_9, e_X11_number_10, e_X11_number_11, e_X11_number_12, e_X11_number_14, e_X11_number_15, e_X11_number_18, e_X11_number_19, e_X11_number_22, e_X11_number_25, e_X11_number_27, e_X11_number_28, e_X11_number_29, e_X11_number_30, e_X11_number_33, e_X11_number_34, e_X11_number_37, e_X11_number_38, e_X11_number_39, e_X11_number_41, e_X11_number_42, e_X11_number_43, e_X11_number_44, e_X11_number_45, e_X11_number_48, e_X11_number_49, e_X11_number_50, e_X11_number_53, e_X11_number_56, e_X11_number_59, e_X11_number_60, ob_91, rk_91_10, ar_98, kcl_i, kcl_r, kcl_l, kcl_0, kcl_n, true_and, and_true, m_isDigitT (show o ≤ 80 by omega) (Nat.le_of_lt hx) hT, kb_0, hx, hg, and_self, not_true_eq_false, if_false]
    rfl
  obtain ⟨a1, ha1, e1, f1⟩ := dg_ex hg
  have nd := dg_ne hg
  have s1 : ∀ (w s : List Int32) (g h : Nat), stepL (w, s, g, h, true) (T x) = some (Int32.ofNat a1 :: w, s, g, 1, false) := fun w s g h => by
    show stepP w s g h (T x) = _
    unfold stepP
    rw [if_neg nd.1, if_neg nd.2, if_pos hg, f1]
  have n1 : 10 * Int32.ofNat 0 + T x - 48 = Int32.ofNat a1 := by rw [ten_d e1, show 10 * 0 + a1 = a1 by omega]
  by_cases c2 : x + 1 < o ∧ isDg (T (x + 1)) = true
  · obtain ⟨a2, ha2, e2, f2⟩ := dg_ex c2.2
    have s2 : ∀ (w s : List Int32) (g : Nat), stepL (Int32.ofNat a1 :: w, s, g, 1, false) (T (x + 1)) = some (Int32.ofNat (10 * a1 + a2) :: w, s, g, 2, false) := fun w s g => by
      show stepJ (Int32.ofNat a1 :: w) s g 1 (T (x + 1)) = _
      unfold stepJ
      rw [if_pos c2.2, if_pos (by decide)]
      dsimp only
      rw [d_ten f2]
    have n2 : 10 * Int32.ofNat a1 + T (x + 1) - 48 = Int32.ofNat (10 * a1 + a2) := ten_d e2
    have g2 : ∀ (w s : List Int32) (g h : Nat), goL T 2 x (w, s, g, h, true) = some (Int32.ofNat (10 * a1 + a2) :: w, s, g, 2, false) := fun w s g h => by
      rw [show (2 : Nat) = 1 + 1 from rfl, goL_add (s := (w, s, g, h, true)) (goL_1 (s1 w s g h)), goL_1 (s2 w s g)]
    by_cases c3 : x + 2 < o ∧ isDg (T (x + 2)) = true
    · obtain ⟨a3, ha3, e3, f3⟩ := dg_ex c3.2
      refine ⟨3, 10 * (10 * a1 + a2) + a3, by decide, by decide, by omega, by omega, fun w s g h => ?_, fun _ _ => rfl, fun i hT sc d y nx hd L st cu su l f t sp K C c g => ?_⟩
      · rw [show (3 : Nat) = 2 + 1 from rfl, goL_add (s := (w, s, g, h, true)) (g2 w s g h)]
        refine goL_1 ?_
        show stepJ (Int32.ofNat (10 * a1 + a2) :: w) s g 2 (T (x + 2)) = _
        unfold stepJ
        rw [if_pos c3.2, if_pos (by decide)]
        dsimp only
        rw [d_ten f3]
      · refine kCA_of (d := d + 2) (v := some (.int _)) (fun K => ?_)
        rw [km_176]
        show kWP sc (d + 2) 176 0 [.ref 91, .int 3, .retAddr 0, .retAddr 0] [] _ K = _
        rw [start i hT, l_numS (by omega) hT (by decide) hx hg, n1, l_numS (by omega) hT (by decide) c2.1 c2.2, n2, l_numS (by omega) hT (by decide) c3.1 c3.2, ten_d e3, l_numE (by omega) (by omega) hT (by decide) (fun z => absurd z.1 (by decide))]
    · refine ⟨2, 10 * a1 + a2, by decide, by decide, by omega, by omega, g2, fun z1 z2 => absurd ⟨z1, z2⟩ c3, fun i hT sc d y nx hd L st cu su l f t sp K C c g => ?_⟩
      refine kCA_of (d := d + 2) (v := some (.int _)) (fun K => ?_)
      rw [km_176]
      show kWP sc (d + 2) 176 0 [.ref 91, .int 3, .retAddr 0, .retAddr 0] [] _ K = _
      rw [start i hT, l_numS (by omega) hT (by decide) hx hg, n1, l_numS (by omega) hT (by decide) c2.1 c2.2, n2, l_numE (by omega) (by omega) hT (by decide) (fun z => c3 z.2)]
  · refine ⟨1, a1, by decide, by decide, by omega, by omega, fun w s g h => goL_1 (s1 w s g h), fun z1 z2 => absurd ⟨z1, z2⟩ c2, fun i hT sc d y nx hd L st cu su l f t sp K C c g => ?_⟩
    refine kCA_of (d := d + 2) (v := some (.int _)) (fun K => ?_)
    rw [km_176]
    show kWP sc (d + 2) 176 0 [.ref 91, .int 3, .retAddr 0, .retAddr 0] [] _ K = _
    rw [start i hT, l_numS (by omega) hT (by decide) hx hg, n1, l_numE (by omega) (by omega) hT (by decide) (fun z => c2 z.2)]
/-- letters and signs of two -/
theorem chr7 : ∀ k, k < 7 → kchr 1000007 k = trL k := by decide +kernel
theorem str7 : (kStA ≤ 1000007 ∧ 1000007 < kStA + kStr.length) ∧ kstl 1000007 = 7 := by decide +kernel
theorem le_trL : ∀ k, k < 7 → isLe (trL k) = true ∧ isDg (trL k) = false ∧ ¬ trL k = 45 ∧ ¬ trL k = 40 := by decide +kernel
theorem pAm_le {v : Int32} : (pAm (kchr 1000007) 7 v = -1 ∧ isLe v = false) ∨ ∃ k, k < 7 ∧ pAm (kchr 1000007) 7 v = Int32.ofNat k ∧ v = trL k := by
  rcases @pAm_ok 7 (kchr 1000007) v with e | ⟨k, hk, e, e2⟩
  · refine Or.inl ⟨e, ?_⟩
    have hn : ∀ k, k < 7 → ¬ v = trL k := by
      intro k hk hv
      unfold pAm at e
      cases hf : kfi (fun z => kchr 1000007 z = v) 7 0 with
      | none => exact kfi_none hf k (Nat.zero_le _) (by omega) (by rw [chr7 k hk]; exact hv.symm)
      | some z =>
        rw [hf] at e
        have := kfi_some hf
        exact m1_ne (by omega) e
    unfold isLe
    refine decide_eq_false ?_
    rintro (z | z | z | z | z | z | z)
    · exact hn 0 (by decide) z
    · exact hn 1 (by decide) z
    · exact hn 2 (by decide) z
    · exact hn 3 (by decide) z
    · exact hn 4 (by decide) z
    · exact hn 5 (by decide) z
    · exact hn 6 (by decide) z
  · exact Or.inr ⟨k, hk, e, by rw [← e2, chr7 k hk]⟩
end TC
