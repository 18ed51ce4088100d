/-! a rule's text: both read alike -/
section TC
variable {sc : Nat × (Nat → Int32)} {d y nx : Nat} {hd : List (Int × Nat)} {L st : List Value} {S : kS} {cu su : Nat} {i : Nat → Nat → Int32} {l : Nat → Nat → Int64} {f t c b m : Nat} {sp : Nat → Nat} {K : Option (Option Value) → kS → Prop}
variable {N M Z S1 Q A S C C' : Nat → Int32} {n n2 k x a o g c h p to x' g' c' r : Nat} {v q u : Int32} {T : Nat → Int32} {w s σ : List Int32}
def opS (r : Nat) : Nat := 1000008 + r
def opN (r : Nat) : Nat := if r = 0 then 3 else 2
def opO (r : Nat) : Nat := if r = 0 then 0 else if r = 1 then 3 else 5
theorem str_op : ∀ r, r < 3 → (kStA ≤ opS r ∧ opS r < kStA + kStr.length) ∧ kstl (opS r) = opN r := by decide +kernel
theorem chr_op : ∀ r, r < 3 → ∀ k, k < opN r → kchr (opS r) k = trS (opO r + k) := by decide +kernel
theorem opN_le : opN r ≤ 3 := by unfold opN; split <;> decide
theorem op_7 : ∀ r, r < 3 → ∀ k, k < opN r → opO r + k < 7 ∧ bnd (2000 + trS (opO r + k)) = r + 1 := by decide +kernel
theorem trS_f : ∀ j, j < 7 → isDg (trS j) = false ∧ ¬ trS j = 41 := by decide +kernel
theorem trC_s : ∀ j, j < 7 → trC (Int32.ofNat (2000 + j)) = 2000 + trS j ∧ ¬ Int32.ofNat (2000 + j) = 3000 ∧ ¬ Int32.ofNat (2000 + j) < 2000 ∧ Int32.ofNat (2000 + j) < 2007 := by decide +kernel
theorem trC_l : ∀ j, j < 7 → trC (Int32.ofNat (1000 + j)) = 1000 + trL j ∧ ¬ Int32.ofNat (1000 + j) = 3000 ∧ Int32.ofNat (1000 + j) < 2000 ∧ Int32.ofNat (1000 + j) < 1007 := by decide +kernel
theorem trC_n {n : Nat} (h : n < 1000) : trC (Int32.ofNat n) = Int32.ofNat n ∧ ¬ Int32.ofNat n = 3000 ∧ Int32.ofNat n < 2000 ∧ Int32.ofNat n < 1000 := by
  have h1 : Int32.ofNat n < 1000 := by rw [show (1000 : Int32) = Int32.ofNat 1000 from rfl, tn_lt (by omega) (by decide)]; exact h
  refine ⟨?_, ?_, Int32.lt_trans h1 (by decide), h1⟩
  · unfold trC; rw [if_pos h1]
  · rw [show (3000 : Int32) = Int32.ofNat 3000 from rfl, tn_eq (by omega) (by decide)]; omega
theorem trC_m : trC 3000 = 3000 := by decide
theorem bnd_op (hr : r < 3) (h : bnd (2000 + v) = r + 1) : ∃ k, k < opN r ∧ v = trS (opO r + k) := by
  have key : ∀ w : Int32, 2000 + v = w → v = w - 2000 := fun w e => by rw [← e, Int32.add_comm, Int32.add_sub_cancel]
  unfold bnd at h
  by_cases c1 : 2000 + v = 2042 ∨ 2000 + v = 2047
  · rw [if_pos c1] at h
    have : r = 2 := by omega
    subst this
    rcases c1 with e | e
    · exact ⟨0, by decide, by rw [key _ e]; decide⟩
    · exact ⟨1, by decide, by rw [key _ e]; decide⟩
  · rw [if_neg c1] at h
    by_cases c2 : 2000 + v = 2043 ∨ 2000 + v = 2045
    · rw [if_pos c2] at h
      have : r = 1 := by omega
      subst this
      rcases c2 with e | e
      · exact ⟨0, by decide, by rw [key _ e]; decide⟩
      · exact ⟨1, by decide, by rw [key _ e]; decide⟩
    · rw [if_neg c2] at h
      by_cases c3 : 2000 + v = 2060 ∨ 2000 + v = 2061 ∨ 2000 + v = 2062
      · rw [if_pos c3] at h
        have : r = 0 := by omega
        subst this
        rcases c3 with e | e | e
        · exact ⟨0, by decide, by rw [key _ e]; decide⟩
        · exact ⟨2, by decide, by rw [key _ e]; decide⟩
        · exact ⟨1, by decide, by rw [key _ e]; decide⟩
      · rw [if_neg c3] at h
        by_cases c4 : 2000 + v = 3000
        · rw [if_pos c4] at h; omega
        · rw [if_neg c4] at h; omega
theorem bnd_3 (h : ¬ v = 1000) : bnd (2000 + v) ≤ 3 := by
  have : ¬ 2000 + v = 3000 := fun e => h (by have e2 : v = 3000 - 2000 := by rw [← e, Int32.add_comm, Int32.add_sub_cancel]
                                             rw [e2]; decide)
  unfold bnd
  split
  · decide
  · split
    · decide
    · split
      · decide
      · decide
theorem pAm_op (hr : r < 3) : (pAm (kchr (opS r)) (opN r) v = -1 ∧ ¬ bnd (2000 + v) = r + 1) ∨ ∃ k, k < opN r ∧ pAm (kchr (opS r)) (opN r) v = Int32.ofNat k ∧ v = trS (opO r + k) := by
  have hN := @opN_le r
  rcases @pAm_ok (opN r) (kchr (opS r)) v with e | ⟨k, hk, e, e2⟩
  · refine Or.inl ⟨e, fun hb => ?_⟩
    obtain ⟨k, hk, hv⟩ := bnd_op hr hb
    unfold pAm at e
    cases hf : kfi (fun z => kchr (opS r) z = v) (opN r) 0 with
    | none => exact kfi_none hf k (Nat.zero_le _) (by omega) (by rw [chr_op r hr k hk]; exact hv.symm)
    | some z =>
      rw [hf] at e
      have := kfi_some hf
      exact m1_ne (by omega) e
  · exact Or.inr ⟨k, hk, e, by rw [← e2, chr_op r hr k hk]⟩
/-- an act that joins, taken behind a part -/
theorem stepJ_op (hr : r < 3) (hk : k < opN r) (h1 : r = 0 → ¬ topb (rel 2 s w).1 = 1) : stepJ w s g h (trS (opO r + k)) = some ((rel (if r = 0 then 2 else r + 1) s w).2, (2000 + trS (opO r + k)) :: (rel (if r = 0 then 2 else r + 1) s w).1, g, 0, true) := by
  obtain ⟨o1, o2⟩ := op_7 r hr k hk
  obtain ⟨f1, f2⟩ := trS_f _ o1
  unfold stepJ
  rw [if_neg (by rw [f1]; decide), if_neg f2, o2, if_neg (by omega)]
  by_cases c : r = 0
  · subst c
    rw [if_pos rfl, if_neg (h1 rfl), if_pos rfl]
  · rw [if_neg (by omega), if_neg c]
/-- the signs behind which a part may end -/
def nxt (T : Nat → Int32) (o x : Nat) (w s : List Int32) (g h md : Nat) : Prop := x < o → stepJ w s g h (T x) = none ∨ T x = 41 ∨ (1 ≤ bnd (2000 + T x) ∧ bnd (2000 + T x) ≤ md)
def bdE (T : Nat → Int32) (o x x' : Nat) (s0 : LT) : Prop := ∃ s2, goL T (x' - x) x s0 = some s2 ∧ (x' < o → stepL s2 (T x') = none) ∧ (x' = o → s2.2.2.2.2 = true ∨ 0 < s2.2.2.1)
def RM (z : Nat) (args : List Value) (bd : Nat) (i : Nat → Nat → Int32) (o x g c : Nat) (C : Nat → Int32) (v : Int32) (x' g' c' : Nat) (C' : Nat → Int32) : Prop :=
  ∀ (sc : Nat × (Nat → Int32)) (D y nx : Nat) (hd : List (Int × Nat)) (L st : List Value) (cu su : Nat) (l : Nat → Nat → Int64) (f t : Nat) (sp : Nat → Nat) (K : Option (Option Value) → kS → Prop), bd ≤ D → kCA sc D z (.ref 91 :: args) y nx hd L st ((120, cu, su), tS (kS3 i C c) x o g, l, kR f t sp) K = kWP sc D y nx L (.int v :: st) ((120, cu, su), tS (kS3 i C' c') x' o g', l, kR f t sp) K
def TH (T : Nat → Int32) (o x : Nat) : Prop := ∀ (g c : Nat) (C : Nat → Int32) (σ : List Int32) (h0 : Nat), g ≤ 4 → c ≤ x → okC (SL c C) → ∃ (v : Int32) (x' g' c' : Nat) (C' : Nat → Int32), (∀ i : Nat → Nat → Int32, (∀ x, x < o → i 98 x = T x) → RM 183 [] (6 * (o - x) + 5) i o x g c C v x' g' c' C') ∧ x ≤ x' ∧ x' ≤ o ∧ c' + x ≤ c + x' ∧
  ((v = 1 ∧ g' = g ∧ okC (SL c' C') ∧ depL (SL c' C') = depL (SL c C) + 1 ∧ ∃ (k : Nat) (w : List Int32) (h : Nat), goL T (x' - x) x ((SL c C).map trC, σ, g, h0, true) = some (w, List.replicate k 3000 ++ σ, g, h, false) ∧ (SL c' C').map trC = List.replicate k 3000 ++ w ∧ nxt T o x' w (List.replicate k 3000 ++ σ) g h 3) ∨
   (v = 0 ∧ bdE T o x x' ((SL c C).map trC, σ, g, h0, true)))
def RK (T : Nat → Int32) (o r x : Nat) : Prop := ∀ (g c : Nat) (C : Nat → Int32) (σ : List Int32) (h0 : Nat), g ≤ 4 → c ≤ x → okC (SL c C) → topb σ ≤ r → ∃ (v : Int32) (x' g' c' : Nat) (C' : Nat → Int32), (∀ i : Nat → Nat → Int32, (∀ x, x < o → i 98 x = T x) → RM 184 [.int (Int32.ofNat r)] (6 * (o - x) + 9 - r) i o x g c C v x' g' c' C') ∧ x ≤ x' ∧ x' ≤ o ∧ c' + x ≤ c + x' ∧
  ((v = 1 ∧ g' = g ∧ okC (SL c' C') ∧ depL (SL c' C') = depL (SL c C) + 1 ∧ ∃ (w s : List Int32) (h : Nat), goL T (x' - x) x ((SL c C).map trC, σ, g, h0, true) = some (w, s, g, h, false) ∧ rel (r + 1) s w = (σ, (SL c' C').map trC) ∧ nxt T o x' w s g h r) ∨
   (v = 0 ∧ bdE T o x x' ((SL c C).map trC, σ, g, h0, true)))
theorem nxt_d (h1000 : ∀ x, x < o → ¬ T x = 1000) (h3 : ¬ (1 ≤ h ∧ h ≤ 2) ∨ (x < o → isDg (T x) = true → False)) : nxt T o x w s g h 3 := by
  intro hx
  by_cases c1 : isDg (T x) = true
  · rcases h3 with z | z
    · refine Or.inl ?_
      unfold stepJ
      rw [if_pos c1, if_neg z]
    · exact absurd c1 (fun q => z hx q)
  · by_cases c2 : T x = 41
    · exact Or.inr (Or.inl c2)
    · by_cases c3 : bnd (2000 + T x) = 0
      · refine Or.inl ?_
        unfold stepJ
        rw [if_neg c1, if_neg c2, if_pos c3]
      · exact Or.inr (Or.inr ⟨by omega, bnd_3 (h1000 x hx)⟩)
theorem bdE_to {s0 s1 : LT} {x1 : Nat} (h1 : x ≤ x1) (h2 : x1 ≤ x') (a : goL T (x1 - x) x s0 = some s1) (b : bdE T o x1 x' s1) : bdE T o x x' s0 := by
  obtain ⟨s2, b1, b2, b3⟩ := b
  exact ⟨s2, goL_to h1 h2 a b1, b2, b3⟩
theorem goL_s {s0 s1 : LT} (h : stepL s0 (T x) = some s1) : goL T (x + 1 - x) x s0 = some s1 := by rw [show x + 1 - x = 1 by omega]; exact goL_1 h
theorem rank3_of (h : TH T o x) : RK T o 3 x := by
  intro g c C σ h0 hg hc hok htop
  obtain ⟨v, x', g', c', C', hm, h1, h2, h3, h4⟩ := h g c C σ h0 hg hc hok
  refine ⟨v, x', g', c', C', ?_, h1, h2, h3, ?_⟩
  · intro i hT sc D y nx hd L st cu su l f t sp K hD
    obtain ⟨e, rfl⟩ : ∃ e, D = e + 1 := ⟨D - 1, by omega⟩
    have hv : kbool v = v := by
      rcases h4 with z | z
      · rw [z.1]; decide
      · rw [z.1]; decide
    have W := fun (y nx : Nat) (hd : List (Int × Nat)) (L st : List Value) (K : Option (Option Value) → kS → Prop) => hm i hT sc e y nx hd L st cu su l f t sp K (by omega)
    refine kCA_of (d := e) (v := some (.int v)) (fun K => ?_)
    rw [km_184]
    show kWP sc e 184 0 [.ref 91, .int (Int32.ofNat 3), .retAddr 0, .retAddr 0] [] _ K = _
    simp only [e_X11_readsRank_0, e_X11_readsRank_1, e_X11_readsRank_2, e_X11_readsRank_5, e_X11_readsRank_6, e_X11_readsRank_9, e_X11_readsRank_10, e_X11_readsRank_11, e_X11_readsRank_12, e_X11_readsRank_13, e_X11_readsRank_14, e_X11_readsRank_17, e_X11_readsRank_20, e_X11_readsRank_21, e_X11_readsRank_22, e_X11_readsRank_23, e_X11_readsRank_25, e_X11_readsRank_28, e_X11_readsRank_29, e_X11_readsRank_30, e_X11_readsRank_33, e_X11_readsRank_35, e_X11_readsRank_38, e_X11_readsRank_39, e_X11_readsRank_40, e_X11_readsRank_43, e_X11_readsRank_45, e_X11_readsRank_48, e_X11_readsRank_50, e_X11_readsRank_53, e_X11_readsRank_54, e_X11_readsRank_55, e_X11_readsRank_58, e_X11_readsRank_59, e_X11_readsRank_60, e_X11_readsRank_61, e_X11_readsRank_62, e_X11_readsRank_63, e_X11_readsRank_64, e_X11_readsRank_67, e_X11_readsRank_70, e_X11_readsRank_71, e_X11_readsRank_72, e_X11_readsRank_73, e_X11_readsRank_76, e_X11_readsRank_77, e_X11_readsRank_78, e_X11_readsRank_79, e_X11_readsRank_82, e_X11_readsRank_83, e_X11_readsRank_86, e_X11_readsRank_87, e_X11_readsRank_88, e_X11_readsRank_91, e_X11_readsRank_92, e_X11_readsRank_95, e_X11_readsRank_96, e_X11_readsRank_97, e_X11_readsRank_100, e_X11_readsRank_101, e_X11_readsRank_104, e_X11_readsRank_105, e_X11_readsRank_108, e_X11_readsRank_109, e_X11_readsRank_110, e_X11_readsRank_113, e_X11_readsRank_114, ob_91, kcl_i, kcl_r, kcl_l, kcl_0, kcl_n, true_and, and_true, show (Int32.ofNat 3 = 3) = True from eq_true rfl, not_true_eq_false, if_true, if_false, W, hv, true_and]
  · rcases h4 with ⟨a1, a2, a3, a4, k, w, h, a5, a6, a7⟩ | z
    · exact Or.inl ⟨a1, a2, a3, a4, w, _, h, a5, by rw [rel_m (by decide), rel_t (by omega), a6], a7⟩
    · exact Or.inr z
end TC
