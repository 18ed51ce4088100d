/-! a rule's text: what both keep of it -/
section TC
variable {sc : Nat × (Nat → Int32)} {d y nx : Nat} {hd : List (Int × Nat)} {L st : List Value} {S : kS} {cu su : Nat} {i : Nat → Nat → Int32} {l : Nat → Nat → Int64} {f t c b m : Nat} {sp : Nat → Nat} {K : Option (Option Value) → kS → Prop}
variable {N M Z S1 Q A S C C' C1 acts acts2 code code2 C0 : Nat → Int32} {n n2 k x a o g c h p to x' g' c' r x1 g1 c1 e n1 : Nat} {v q u : Int32} {T : Nat → Int32} {w s σ : List Int32} {v3 : Value} {i0 j : Nat → Nat → Int32}
theorem rDep_c : ∀ {k}, (∀ x, x < k → code x = code2 x) → rDep code k = rDep code2 k := by
  intro k h
  rw [← dep_SL, ← dep_SL, SL_c h]
theorem RR_c (h : RR acts n code n2) (ha : ∀ x, x < n → acts x = acts2 x) (hc : ∀ x, x < n2 → code x = code2 x) : RR acts2 n code2 n2 := by
  obtain ⟨⟨h1, h2, h3, h4⟩, h5, h6⟩ := h
  refine ⟨⟨h1, fun k hk => ?_, ?_, fun x hx => ?_⟩, h5, fun x hx => ?_⟩
  · have := h2 k hk
    rw [← rDep_c (code := code) (code2 := code2) (fun x hx => hc x (by omega)), ← hc k hk]; exact this
  · rcases h3 with e | e
    · exact Or.inl e
    · exact Or.inr (by rw [← rDep_c (code := code) (code2 := code2) hc]; exact e)
  · rw [← hc x hx]; exact h4 x hx
  · rw [← ha x hx, h6 x hx]
    unfold aOf
    by_cases e : n2 = 0
    · rw [if_pos e, if_pos e]
    · rw [if_neg e, if_neg e]
      have : n = n2 := by rw [h5]; unfold nOf; rw [if_neg e]
      rw [hc x (by omega)]
theorem RR_of (hL : SL n1 A = (SL c C).map trC) (h40 : n1 ≤ 40) (hok : okC (SL c C)) (hd : depL (SL c C) = 1) : RR A n1 C c := by
  have hlen : n1 = c := by
    have := congrArg List.length hL
    rw [SL_len, List.length_map, SL_len] at this
    exact this
  subst hlen
  have h0 : ¬ n1 = 0 := fun e => by subst e; exact absurd (show (0 : Nat) = 1 from hd) (by decide)
  obtain ⟨o1, o2⟩ := ok_SL hok
  rw [SL_map] at hL
  have hA := SL_inj hL
  refine ⟨⟨h40, o1, Or.inr (by rw [← dep_SL]; exact hd), o2⟩, ?_, fun x hx => ?_⟩
  · unfold nOf; rw [if_neg h0]
  · rw [hA x hx]; unfold aOf; rw [if_neg h0]
/-- the first rule's text -/
theorem first_go : goL (kchr 1000000) 7 0 ([], [], 0, 0, true) = some ([1098, 2045, 1116, 2042, 3, 1119], [2043], 0, 0, false) := by decide +kernel
theorem first_rel : (rel 1 [2043] [1098, 2045, 1116, 2042, 3, 1119]).2 = SL 7 firstA := by decide +kernel
theorem first_chr : ∀ k, k < 7 → kchar (kchr 1000000 k) = kchr 1000000 k := by decide +kernel
theorem str0 : (kStA ≤ 1000000 ∧ 1000000 < kStA + kStr.length) ∧ kstl 1000000 = 7 := by decide +kernel
theorem RR_first (hL : SL n1 A = SL 7 firstA) : RR A n1 C 0 := by
  have hlen : n1 = 7 := by
    have := congrArg List.length hL
    rw [SL_len, SL_len] at this
    exact this
  subst hlen
  refine ⟨⟨by decide, fun k hk => absurd hk (Nat.not_lt_zero k), Or.inl rfl, fun k hk => absurd hk (Nat.not_lt_zero k)⟩, rfl, fun x hx => ?_⟩
  rw [SL_inj hL x hx]; rfl
/-- the text of the first rule is told -/
theorem c_tell1 (hn : i 1 1 = 0) : ∃ X : Nat → Int32, (∀ x, x < 7 → X x = kchr 1000000 x) ∧ ∀ (sc : Nat × (Nat → Int32)) (d y nx : Nat) (hd : List (Int × Nat)) (L st : List Value) (cu su : Nat) (l : Nat → Nat → Int64) (f t : Nat) (sp : Nat → Nat) (K : Option (Option Value) → kS → Prop), kCA sc (d + 2) 89 [.ref 1, .ref 1000000] y nx hd L st ((120, cu, su), i, l, kR f t sp) K = kWP sc (d + 2) y nx L st ((120, cu, su), xPut i (7, X), l, kR f t sp) K := by
  have R := kfo_inv (n := 7) (a := ((0, i 2) : Nat × (Nat → Int32))) (g := fun x X => qPut X (kchr 1000000 x)) (I := fun x X => X.1 = x ∧ ∀ z, z < x → X.2 z = kchr 1000000 z) (fun x X hx hX => by
    obtain ⟨h1, h2⟩ := hX
    unfold qPut
    rw [if_neg (by omega)]
    refine ⟨by dsimp only; omega, fun z hz => ?_⟩
    show kuf X.2 X.1 _ z = _
    by_cases e : z = X.1
    · rw [e, kuf_s, h1, first_chr x hx]
    · rw [kuf_n e]; exact h2 z (by omega)) ⟨rfl, fun z hz => absurd hz (Nat.not_lt_zero z)⟩
  refine ⟨(kfo (fun x X => qPut X (kchr 1000000 x)) 7 ((0, i 2) : Nat × (Nat → Int32))).2, R.2, fun sc d y nx hd L st cu su l f t sp K => ?_⟩
  have e7 : ((7, (kfo (fun x X => qPut X (kchr 1000000 x)) 7 ((0, i 2) : Nat × (Nat → Int32))).2) : Nat × (Nat → Int32)) = kfo (fun x X => qPut X (kchr 1000000 x)) 7 ((0, i 2) : Nat × (Nat → Int32)) := Prod.ext R.1.symm rfl
  rw [e7]
  have i0 : xPut i (0, i 2) = i := by
    have := @xP_g i
    have e : xGet i = (0, i 2) := by unfold xGet; rw [hn]; rfl
    rw [e] at this; exact this
  have s0 := str0
  have P := k_forI (P := fun x (X : Nat × (Nat → Int32)) => ∀ K, kWP sc (d + 1) 89 2 [.ref 1, .ref 1000000, .int (Int32.ofNat 0)] [] ((120, cu, su), i, l, kR f t sp) K = kWP sc (d + 1) 89 2 [.ref 1, .ref 1000000, .int (Int32.ofNat x)] [] ((120, cu, su), xPut i X, l, kR f t sp) K) (n := 7) (I := fun x X => X.1 = x) (g := fun x X => qPut X (kchr 1000000 x)) (fun x X hx hX => by
    have hX' : X.1 = x := hX
    refine ⟨?_, ?_⟩
    · apply propext
      have st : ∀ K, kWP sc (d + 1) 89 2 [.ref 1, .ref 1000000, .int (Int32.ofNat x)] [] ((120, cu, su), xPut i X, l, kR f t sp) K = kWP sc (d + 1) 89 2 [.ref 1, .ref 1000000, .int (Int32.ofNat (x + 1))] [] ((120, cu, su), xPut i (qPut X (kchr 1000000 x)), l, kR f t sp) K := by
        intro K
        have kx : kin (Int32.ofNat x) (kstl 1000000) = True := by rw [s0.2, tn_kin (by omega)]; exact eq_true hx
        refine e_X9_tell_2.trans ?_
        simp only [e_X9_tell_0, e_X9_tell_1, e_X9_tell_3, e_X9_tell_7, e_X9_tell_10, e_X9_tell_11, e_X9_tell_12, e_X9_tell_13, e_X9_tell_16, e_X9_tell_19, e_X9_tell_22, e_X9_tell_25, ob_1, kcl_i, kcl_r, kcl_l, kcl_0, kcl_n, true_and, and_true, e_X9_tell_4 s0.1 s0.2, jpF hx (by decide), if_false, kx, cl_n (show x < 100000 by omega), c_put (show X.1 ≤ 80 by omega), tn_s, true_and]
      constructor
      · intro h K; rw [h K, st K]
      · intro h K; rw [h K, st K]
    · show (qPut X (kchr 1000000 x)).1 = x + 1
      unfold qPut; rw [if_neg (by omega)]; dsimp only; omega) (0, i 2) rfl
  refine kCA_of (d := d + 1) (v := none) (fun K => ?_)
  rw [km_89]
  show kWP sc (d + 1) 89 0 [.ref 1, .ref 1000000, .retAddr 0] [] _ K = _
  have P1 := P.1
  have h0 : (∀ K, kWP sc (d + 1) 89 2 [.ref 1, .ref 1000000, .int (Int32.ofNat 0)] [] ((120, cu, su), i, l, kR f t sp) K = kWP sc (d + 1) 89 2 [.ref 1, .ref 1000000, .int (Int32.ofNat 0)] [] ((120, cu, su), xPut i (0, i 2), l, kR f t sp) K) := fun K => by rw [i0]
  have P2 := (cast P1 h0) K
  simp only [e_X9_tell_0, e_X9_tell_1, e_X9_tell_3, e_X9_tell_7, e_X9_tell_10, e_X9_tell_11, e_X9_tell_12, e_X9_tell_13, e_X9_tell_16, e_X9_tell_19, e_X9_tell_22, e_X9_tell_25, ob_1, kcl_i, kcl_r, kcl_l, kcl_0, kcl_n, true_and, and_true]
  refine P2.trans ?_
  refine e_X9_tell_2.trans ?_
  simp only [e_X9_tell_0, e_X9_tell_1, e_X9_tell_3, e_X9_tell_7, e_X9_tell_10, e_X9_tell_11, e_X9_tell_12, e_X9_tell_13, e_X9_tell_16, e_X9_tell_19, e_X9_tell_22, e_X9_tell_25, ob_1, kcl_i, kcl_r, kcl_l, kcl_0, kcl_n, true_and, and_true, e_X9_tell_4 s0.1 s0.2, Int32.le_refl, if_true]
/-- the class reads a rule -/
def CR (i : Nat → Nat → Int32) (t : Nat) (r : Int32) (Y : Nat → Nat → Int32) : Prop :=
  ∀ (sc : Nat × (Nat → Int32)) (d y nx : Nat) (hd : List (Int × Nat)) (L st : List Value) (cu su : Nat) (l : Nat → Nat → Int64) (f : Nat) (sp : Nat → Nat) (K : Option (Option Value) → kS → Prop), kCA sc (d + 8) 137 [.ref 0] y nx hd L st ((120, cu, su), i, l, kR f t sp) K = kWP sc (d + 8) y nx L (.int r :: st) ((120, cu, su), Y, l, kR f t sp) K
theorem c_readRule (hf : kRc t = true) (hn : ¬ i 1 1 = 0) (hQ : QQ t i v n A p S g h u) : CR i t v (kupi (qP i t n A p S g h u) 1 1 0) := by
  intro sc d y nx hd L st cu su l f sp K
  refine kCA_of (d := d + 7) (v := some (.int v)) (fun K => ?_)
  rw [km_137]
  show kWP sc (d + 7) 137 0 [.ref 0, .retAddr 0] [] _ K = _
  simp only [e_X10_readRule_0, e_X10_readRule_1, e_X10_readRule_4, e_X10_readRule_7, e_X10_readRule_10, e_X10_readRule_11, e_X10_readRule_14, e_X10_readRule_16, e_X10_readRule_19, e_X10_readRule_20, e_X10_readRule_23, e_X10_readRule_26, e_X10_readRule_27, e_X10_readRule_28, e_X10_readRule_31, e_X10_readRule_34, e_X10_readRule_35, ob_0, rk_0_0, ob_1, rk_0_11, ob_r hf, kcl_i, kcl_r, kcl_l, kcl_0, kcl_n, true_and, and_true, hn, not_false_eq_true, if_true, if_false, hQ sc (d + 1), c_empty]
theorem c_readRule0 (hf : kRc t = true) (hn : i 1 1 = 0) : ∃ n A p S g h u X, n ≤ 40 ∧ SL n A = SL 7 firstA ∧ CR i t (-1) (kupi (qP (xPut i (7, X)) t n A p S g h u) 1 1 0) := by
  obtain ⟨X, hX, hC⟩ := c_tell1 hn
  obtain ⟨n, A, p, S, g, h, u, h1, h2, h3⟩ := (q_read (i := xPut i (7, X)) (b := t) (T := kchr 1000000) (n2 := 7) (to := 7) hf xP_n (by decide) (fun x hx => by rw [xP_s (by omega)]; exact hX x hx) rfl).2.2 _ first_go rfl rfl (by decide)
  refine ⟨n, A, p, S, g, h, u, X, h1, h2.trans first_rel, fun sc d y nx hd L st cu su l f sp K => ?_⟩
  refine kCA_of (d := d + 7) (v := some (.int (-1))) (fun K => ?_)
  rw [km_137]
  show kWP sc (d + 7) 137 0 [.ref 0, .retAddr 0] [] _ K = _
  simp only [e_X10_readRule_0, e_X10_readRule_1, e_X10_readRule_4, e_X10_readRule_7, e_X10_readRule_10, e_X10_readRule_11, e_X10_readRule_14, e_X10_readRule_16, e_X10_readRule_19, e_X10_readRule_20, e_X10_readRule_23, e_X10_readRule_26, e_X10_readRule_27, e_X10_readRule_28, e_X10_readRule_31, e_X10_readRule_34, e_X10_readRule_35, ob_0, rk_0_0, ob_1, rk_0_11, ob_r hf, kcl_i, kcl_r, kcl_l, kcl_0, kcl_n, true_and, and_true, hn, not_true_eq_false, if_true, if_false, hC sc (d + 5), h3 sc (d + 1), c_empty]
end TC
