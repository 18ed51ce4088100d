/-! order: the talks in turn -/
section TC
variable {sc : Nat × (Nat → Int32)} {d y nx : Nat} {hd : List (Int × Nat)} {L st : List Value} {S : kS} {cu su : Nat} {i : Nat → Nat → Int32} {l : Nat → Nat → Int64} {f t c b m : Nat} {sp : Nat → Nat} {K : Option (Option Value) → kS → Prop}
variable {N : Nat} {A B G F Pn le co Y Y0 Y2 : Nat → Int32} {i1 i2 i3 : Nat → Nat → Int32} {ln : Nat → Nat} {Tc X : Nat → Nat → Nat} {n n2 k x a o g u w h qn s lf : Nat} {v r p q P : Int32} {y0 : Nat → Nat}
/-- the minutes if he talks of it now -/
def oM (ln : Nat → Nat) (co : Nat → Int32) (Tc : Nat → Nat → Nat) (u a w : Nat) : Nat := if w = 8 then 1 + Tc u a else if pBit (Int32.ofNat u &&& co a) w = 0 then 1000 else ln w + Tc (wo u w) a
abbrev pT (ln : Nat → Nat) (co : Nat → Int32) (Tc : Nat → Nat → Nat) (u h lf j : Nat) : Prop := j / 9 ≠ h ∧ oM ln co Tc u (j / 9) (j % 9) = lf
def oN (u w : Nat) : Nat := if w = 8 then u else wo u w
def oL (ln : Nat → Nat) (w : Nat) : Nat := if w = 8 then 1 else ln w
def trow (ln : Nat → Nat) (co : Nat → Int32) (m : Nat) (Tc : Nat → Nat → Nat) : Nat → Nat → Nat → Nat → List Int64
  | 0, _, _, _ => []
  | f + 1, u, h, lf => if lf = 0 then [] else match kfi (fun j => pT ln co Tc u h lf j) (m * 9) 0 with
    | none => []
    | some j => (Int32.ofNat (j / 9)).toInt64 :: (Int32.ofNat (j % 9)).toInt64 :: trow ln co m Tc f (oN u (j % 9)) (j / 9) (lf - oL ln (j % 9))
theorem kfi_before {p : Nat → Prop} [DecidablePred p] : ∀ {k x y : Nat}, kfi p k x = some y → ∀ q, x ≤ q → q < y → ¬ p q := by
  intro k
  induction k with
  | zero => intro x y e; cases e
  | succ k ih =>
    intro x y e q h1 h2
    rw [kfi] at e
    by_cases w : p x
    · rw [if_pos w] at e; cases e; omega
    · rw [if_neg w] at e
      by_cases e3 : q = x
      · subst e3; exact w
      · exact ih e q (by omega) h2
/-- what the class's table keeps -/
def tOk (ln : Nat → Nat) (co : Nat → Int32) (m qn k : Nat) (Tc : Nat → Nat → Nat) : Prop := ∀ u, u ≤ k → Int32.ofNat u &&& (Int32.ofNat k ^^^ (-1)) = 0 → ∀ h, h < 9 → Tc u h = nV 1000 ln co qn m Tc u h
theorem ar1 {lf b e z1 z2 : Nat} (e1 : lf = min b (1 + z2)) (e2 : b = min e z1) (he : e = 0 ∨ e = 1000) (h0 : 0 < lf) (h1 : lf < 1000) (c : ¬ lf = z1) : lf = 1 + z2 := by omega
theorem ex_talk (hT : tOk ln co m qn k Tc) (h8 : m ≤ 8) (hu : u ≤ k) (hk : k < 256) (hs : Int32.ofNat u &&& (Int32.ofNat k ^^^ (-1)) = 0) (hh : h < 9) (hv : Tc u h = lf) (h0 : 0 < lf) (h1 : lf < 1000) : ∃ j, kfi (fun j => pT ln co Tc u h lf j) (m * 9) 0 = some j ∧ j < m * 9 ∧ pT ln co Tc u h lf j := by
  have hE : ∀ h, h < 9 → Tc u h = eV 1000 ln co m u (fun a w => Tc (wo u w) a) (e0 1000 qn u) h := fun h hh => by rw [hT u hu hs h hh, nV_e]
  have hex : ∃ a, a < m ∧ a ≠ h ∧ ∃ w, w < 9 ∧ oM ln co Tc u a w = lf := by
    have b1 := nB_spec (N := 1000) (F := eF 1000 ln co u (fun a w => Tc (wo u w) a)) (m := m) (h := h)
    have b2 := nB_spec (N := 1000) (F := eB 1000 ln co m u (fun a w => Tc (wo u w) a) (e0 1000 qn u)) (m := m) (h := h)
    have he0 : e0 1000 qn u h = 0 ∨ e0 1000 qn u h = 1000 := by
      unfold e0; split
      · split
        · exact Or.inr rfl
        · exact Or.inl rfl
      · exact Or.inr rfl
    by_cases c : lf = nB 1000 (eF 1000 ln co u (fun a w => Tc (wo u w) a)) m h
    · rcases b1.2.2 with e | ⟨a, ha, hne, e⟩
      · rw [e] at c; omega
      · rcases (eF_spec (N := 1000) (ln := ln) (co := co) (u := u) (X := fun a w => Tc (wo u w) a) (a := a)).2.2 with e3 | ⟨w, hw, e3⟩
        · rw [e, e3] at c; omega
        · refine ⟨a, ha, hne, w, by omega, ?_⟩
          rw [c, e, e3]
          unfold oM eG
          rw [if_neg (by omega)]
    · have e1 := hE h hh
      rw [hv, eV_eq] at e1
      have e4 := ar1 e1 eB_eq he0 h0 h1 c
      clear e1
      rcases b2.2.2 with e | ⟨a, ha, hne, e⟩
      · rw [e] at e4; omega
      · refine ⟨a, ha, hne, 8, by decide, ?_⟩
        rw [e] at e4
        have t1 := eV_tri (N := 1000) (ln := ln) (co := co) (u := u) (X := fun a w => Tc (wo u w) a) (y0 := e0 1000 qn u) hne ha
        rw [← hE h hh, ← hE a (by omega), hv] at t1
        have t2 := hE a (by omega)
        rw [eV_eq] at t2
        unfold oM
        rw [if_pos rfl]
        omega
  obtain ⟨a, ha, hne, w, hw, e⟩ := hex
  have d1 : (a * 9 + w) / 9 = a := by omega
  have d2 : (a * 9 + w) % 9 = w := by omega
  have hp : pT ln co Tc u h lf (a * 9 + w) := by unfold pT; rw [d1, d2]; exact ⟨hne, e⟩
  cases hk : kfi (fun j => pT ln co Tc u h lf j) (m * 9) 0 with
  | none => exact absurd hp (kfi_none hk _ (Nat.zero_le _) (by omega))
  | some j =>
    have := kfi_some hk
    exact ⟨j, rfl, by omega, this.2.2⟩
theorem c_min (h8 : m ≤ 8) (hl : lnOk (i 9) ln) (hT : tOk ln (i 8) m qn k Tc) (hA : ∀ u, u ≤ k → Int32.ofNat u &&& (Int32.ofNat k ^^^ (-1)) = 0 → ∀ h, h < 9 → i 78 (u * 9 + h) = Int32.ofNat (Tc u h)) (hk : k < 256) (hu : u ≤ k) (hs : Int32.ofNat u &&& (Int32.ofNat k ^^^ (-1)) = 0) (ha : a < m) (hw : w < 9) : kCA sc (d + 2) 74 [.ref 77, .int (Int32.ofNat u), .int (Int32.ofNat a), .int (Int32.ofNat w)] y nx hd L st ((120, cu, su), i, l, kR f t sp) K = kWP sc (d + 2) y nx L (.int (Int32.ofNat (oM ln (i 8) Tc u a w)) :: st) ((120, cu, su), i, l, kR f t sp) K := by
  unfold oM
  by_cases c : w = 8
  · subst c
    rw [show Int32.ofNat 8 = 8 from rfl, c_minutesBy8 (by omega) (by omega), hA u hu hs a (by omega), if_pos rfl, Int32.add_comm, tn_s, Nat.add_comm 1]
  · have hw8 : w < 8 := by omega
    rw [c_minutesBy (by omega) (by omega) hw8, if_neg c]
    unfold cG
    by_cases c2 : pBit (Int32.ofNat u &&& i 8 a) w = 0
    · rw [if_pos c2, if_pos c2]; rfl
    · have h1 := @wo_le u w
      rw [if_neg c2, if_neg c2, hA (wo u w) (by omega) (sub_wo (by omega) hw8 hs) a (by omega), (hl w hw8).1, ← Int32.ofNat_add]
theorem oM_lt (h8 : m ≤ 8) (hl : lnOk le ln) (hT : tOk ln co m qn k Tc) (hk : k < 256) (hu : u ≤ k) (hs : Int32.ofNat u &&& (Int32.ofNat k ^^^ (-1)) = 0) (ha : a < m) (hw : w < 9) : oM ln co Tc u a w < 2000 := by
  have b : ∀ u, u ≤ k → Int32.ofNat u &&& (Int32.ofNat k ^^^ (-1)) = 0 → Tc u a ≤ 1000 := fun u hu hs => by rw [hT u hu hs a (by omega)]; exact nV_le
  unfold oM
  by_cases c : w = 8
  · rw [if_pos c]; have := b u hu hs; omega
  · rw [if_neg c]
    split
    · omega
    · have h1 := @wo_le u w
      have := b (wo u w) (by omega) (sub_wo (by omega) (by omega) hs)
      have := hl w (by omega)
      omega
theorem c_leastTalk {j0 : Nat} (hm : i 5 0 = Int32.ofNat m) (h8 : m ≤ 8) (hl : lnOk (i 9) ln) (hT : tOk ln (i 8) m qn k Tc) (hA : ∀ u, u ≤ k → Int32.ofNat u &&& (Int32.ofNat k ^^^ (-1)) = 0 → ∀ h, h < 9 → i 78 (u * 9 + h) = Int32.ofNat (Tc u h)) (hk : k < 256) (hu : u ≤ k) (hs : Int32.ofNat u &&& (Int32.ofNat k ^^^ (-1)) = 0) (hh : h < 9) {hat : Int32} (hhat : (if hat = -1 then 8 else hat) = Int32.ofNat h) (hne : ∀ a, a < 8 → ((Int32.ofNat a = hat) = (a = h))) (hj : kfi (fun j => pT ln (i 8) Tc u h (Tc u h) j) (m * 9) 0 = some j0) : kCA sc (d + 3) 75 [.ref 77, .int (Int32.ofNat u), .int hat] y nx hd L st ((120, cu, su), i, l, kR f t sp) K = kWP sc (d + 3) y nx L (.int (Int32.ofNat j0) :: st) ((120, cu, su), i, l, kR f t sp) K := by
  refine kCA_of (d := d + 2) (v := some (.int (Int32.ofNat j0))) (S2 := ((120, cu, su), i, l, kR f t sp)) (fun K => ?_)
  rw [km_75]
  show kWP sc (d + 2) 75 0 [.ref 77, .int (Int32.ofNat u), .int hat, .retAddr 0, .retAddr 0, .retAddr 0] [] _ K = _
  have hj1 := kfi_some hj
  have hj2 := kfi_before hj
  have hb : Tc u h ≤ 1000 := by rw [hT u hu hs h hh]; exact nV_le
  have m0 : (Int32.ofNat m ≤ 0) = False := by rw [show (0 : Int32) = Int32.ofNat 0 from rfl, tn_le (by omega) (by decide)]; exact eq_false (by omega)
  simp only [e_X7_leastTalk_0, e_X7_leastTalk_1, e_X7_leastTalk_4, e_X7_leastTalk_5, e_X7_leastTalk_6, e_X7_leastTalk_9, e_X7_leastTalk_10, e_X7_leastTalk_11, e_X7_leastTalk_12, e_X7_leastTalk_16, e_X7_leastTalk_17, e_X7_leastTalk_20, e_X7_leastTalk_23, e_X7_leastTalk_26, e_X7_leastTalk_27, e_X7_leastTalk_31, e_X7_leastTalk_33, e_X7_leastTalk_36, e_X7_leastTalk_38, e_X7_leastTalk_39, e_X7_leastTalk_42, e_X7_leastTalk_43, e_X7_leastTalk_44, e_X7_leastTalk_46, e_X7_leastTalk_48, e_X7_leastTalk_51, e_X7_leastTalk_52, e_X7_leastTalk_55, e_X7_leastTalk_57, e_X7_leastTalk_59, e_X7_leastTalk_60, e_X7_leastTalk_62, e_X7_leastTalk_63, e_X7_leastTalk_64, e_X7_leastTalk_67, e_X7_leastTalk_70, e_X7_leastTalk_73, e_X7_leastTalk_76, e_X7_leastTalk_77, ob_77, rk_77_1, ar_78, rk_77_0, ob_5, kcl_i, kcl_r, kcl_l, kcl_0, kcl_n, true_and, and_true, c_place, hhat, at9, kin2304 (show u * 9 + h < 2304 by omega), cl_n (show u * 9 + h < 100000 by omega), hA u hu hs h hh, true_and]
  refine Eq.trans ?_ ((k_for (P := fun j (_ : Unit) => kWP sc (d + 2) 75 29 [.ref 77, .int (Int32.ofNat u), .int hat, .int (Int32.ofNat (Tc u h)), .int (Int32.ofNat (j / 9)), .int (Int32.ofNat (j % 9))] [] ((120, cu, su), i, l, kR f t sp) K) (n := j0) (g := fun _ u => u) ?_ ()).trans ?_)
  · refine e_X7_leastTalk_14.trans ?_
    simp only [e_X7_leastTalk_0, e_X7_leastTalk_1, e_X7_leastTalk_4, e_X7_leastTalk_5, e_X7_leastTalk_6, e_X7_leastTalk_9, e_X7_leastTalk_10, e_X7_leastTalk_11, e_X7_leastTalk_12, e_X7_leastTalk_16, e_X7_leastTalk_17, e_X7_leastTalk_20, e_X7_leastTalk_23, e_X7_leastTalk_26, e_X7_leastTalk_27, e_X7_leastTalk_31, e_X7_leastTalk_33, e_X7_leastTalk_36, e_X7_leastTalk_38, e_X7_leastTalk_39, e_X7_leastTalk_42, e_X7_leastTalk_43, e_X7_leastTalk_44, e_X7_leastTalk_46, e_X7_leastTalk_48, e_X7_leastTalk_51, e_X7_leastTalk_52, e_X7_leastTalk_55, e_X7_leastTalk_57, e_X7_leastTalk_59, e_X7_leastTalk_60, e_X7_leastTalk_62, e_X7_leastTalk_63, e_X7_leastTalk_64, e_X7_leastTalk_67, e_X7_leastTalk_70, e_X7_leastTalk_73, e_X7_leastTalk_76, e_X7_leastTalk_77, ob_77, rk_77_1, ar_78, rk_77_0, ob_5, kcl_i, kcl_r, kcl_l, kcl_0, kcl_n, true_and, and_true, hm, m0, if_false]
    rfl
  · intro j _ hjj
    have ha : j / 9 < m := by omega
    have hw : j % 9 < 9 := Nat.mod_lt _ (by decide)
    have hM := oM_lt h8 hl hT hk hu hs ha hw
    have hnp : ¬ pT ln (i 8) Tc u h (Tc u h) j := hj2 j (Nat.zero_le _) hjj
    have stp : kWP sc (d + 2) 75 64 [.ref 77, .int (Int32.ofNat u), .int hat, .int (Int32.ofNat (Tc u h)), .int (Int32.ofNat (j / 9)), .int (Int32.ofNat (j % 9))] [] ((120, cu, su), i, l, kR f t sp) K = kWP sc (d + 2) 75 29 [.ref 77, .int (Int32.ofNat u), .int hat, .int (Int32.ofNat (Tc u h)), .int (Int32.ofNat ((j + 1) / 9)), .int (Int32.ofNat ((j + 1) % 9))] [] ((120, cu, su), i, l, kR f t sp) K := by
      by_cases c : j % 9 = 8
      · have d1 : (j + 1) / 9 = j / 9 + 1 := by omega
        have d2 : (j + 1) % 9 = 0 := by omega
        rw [d1, d2]
        simp only [e_X7_leastTalk_0, e_X7_leastTalk_1, e_X7_leastTalk_4, e_X7_leastTalk_5, e_X7_leastTalk_6, e_X7_leastTalk_9, e_X7_leastTalk_10, e_X7_leastTalk_11, e_X7_leastTalk_12, e_X7_leastTalk_16, e_X7_leastTalk_17, e_X7_leastTalk_20, e_X7_leastTalk_23, e_X7_leastTalk_26, e_X7_leastTalk_27, e_X7_leastTalk_31, e_X7_leastTalk_33, e_X7_leastTalk_36, e_X7_leastTalk_38, e_X7_leastTalk_39, e_X7_leastTalk_42, e_X7_leastTalk_43, e_X7_leastTalk_44, e_X7_leastTalk_46, e_X7_leastTalk_48, e_X7_leastTalk_51, e_X7_leastTalk_52, e_X7_leastTalk_55, e_X7_leastTalk_57, e_X7_leastTalk_59, e_X7_leastTalk_60, e_X7_leastTalk_62, e_X7_leastTalk_63, e_X7_leastTalk_64, e_X7_leastTalk_67, e_X7_leastTalk_70, e_X7_leastTalk_73, e_X7_leastTalk_76, e_X7_leastTalk_77, ob_77, rk_77_1, ar_78, rk_77_0, ob_5, kcl_i, kcl_r, kcl_l, kcl_0, kcl_n, true_and, and_true, tn_s, c]
        refine e_X7_leastTalk_29.trans ?_
        simp only [e_X7_leastTalk_0, e_X7_leastTalk_1, e_X7_leastTalk_4, e_X7_leastTalk_5, e_X7_leastTalk_6, e_X7_leastTalk_9, e_X7_leastTalk_10, e_X7_leastTalk_11, e_X7_leastTalk_12, e_X7_leastTalk_16, e_X7_leastTalk_17, e_X7_leastTalk_20, e_X7_leastTalk_23, e_X7_leastTalk_26, e_X7_leastTalk_27, e_X7_leastTalk_31, e_X7_leastTalk_33, e_X7_leastTalk_36, e_X7_leastTalk_38, e_X7_leastTalk_39, e_X7_leastTalk_42, e_X7_leastTalk_43, e_X7_leastTalk_44, e_X7_leastTalk_46, e_X7_leastTalk_48, e_X7_leastTalk_51, e_X7_leastTalk_52, e_X7_leastTalk_55, e_X7_leastTalk_57, e_X7_leastTalk_59, e_X7_leastTalk_60, e_X7_leastTalk_62, e_X7_leastTalk_63, e_X7_leastTalk_64, e_X7_leastTalk_67, e_X7_leastTalk_70, e_X7_leastTalk_73, e_X7_leastTalk_76, e_X7_leastTalk_77, ob_77, rk_77_1, ar_78, rk_77_0, ob_5, kcl_i, kcl_r, kcl_l, kcl_0, kcl_n, true_and, and_true, gt89, if_true, tn_s]
        refine e_X7_leastTalk_14.trans ?_
        simp only [e_X7_leastTalk_0, e_X7_leastTalk_1, e_X7_leastTalk_4, e_X7_leastTalk_5, e_X7_leastTalk_6, e_X7_leastTalk_9, e_X7_leastTalk_10, e_X7_leastTalk_11, e_X7_leastTalk_12, e_X7_leastTalk_16, e_X7_leastTalk_17, e_X7_leastTalk_20, e_X7_leastTalk_23, e_X7_leastTalk_26, e_X7_leastTalk_27, e_X7_leastTalk_31, e_X7_leastTalk_33, e_X7_leastTalk_36, e_X7_leastTalk_38, e_X7_leastTalk_39, e_X7_leastTalk_42, e_X7_leastTalk_43, e_X7_leastTalk_44, e_X7_leastTalk_46, e_X7_leastTalk_48, e_X7_leastTalk_51, e_X7_leastTalk_52, e_X7_leastTalk_55, e_X7_leastTalk_57, e_X7_leastTalk_59, e_X7_leastTalk_60, e_X7_leastTalk_62, e_X7_leastTalk_63, e_X7_leastTalk_64, e_X7_leastTalk_67, e_X7_leastTalk_70, e_X7_leastTalk_73, e_X7_leastTalk_76, e_X7_leastTalk_77, ob_77, rk_77_1, ar_78, rk_77_0, ob_5, kcl_i, kcl_r, kcl_l, kcl_0, kcl_n, true_and, and_true, hm, jpF (show j / 9 + 1 < m by omega) (by omega), if_false]
        rfl
      · have d1 : (j + 1) / 9 = j / 9 := by omega
        have d2 : (j + 1) % 9 = j % 9 + 1 := by omega
        rw [d1, d2]
        simp only [e_X7_leastTalk_0, e_X7_leastTalk_1, e_X7_leastTalk_4, e_X7_leastTalk_5, e_X7_leastTalk_6, e_X7_leastTalk_9, e_X7_leastTalk_10, e_X7_leastTalk_11, e_X7_leastTalk_12, e_X7_leastTalk_16, e_X7_leastTalk_17, e_X7_leastTalk_20, e_X7_leastTalk_23, e_X7_leastTalk_26, e_X7_leastTalk_27, e_X7_leastTalk_31, e_X7_leastTalk_33, e_X7_leastTalk_36, e_X7_leastTalk_38, e_X7_leastTalk_39, e_X7_leastTalk_42, e_X7_leastTalk_43, e_X7_leastTalk_44, e_X7_leastTalk_46, e_X7_leastTalk_48, e_X7_leastTalk_51, e_X7_leastTalk_52, e_X7_leastTalk_55, e_X7_leastTalk_57, e_X7_leastTalk_59, e_X7_leastTalk_60, e_X7_leastTalk_62, e_X7_leastTalk_63, e_X7_leastTalk_64, e_X7_leastTalk_67, e_X7_leastTalk_70, e_X7_leastTalk_73, e_X7_leastTalk_76, e_X7_leastTalk_77, ob_77, rk_77_1, ar_78, rk_77_0, ob_5, kcl_i, kcl_r, kcl_l, kcl_0, kcl_n, true_and, and_true, tn_s]
    refine e_X7_leastTalk_29.trans ?_
    simp only [e_X7_leastTalk_0, e_X7_leastTalk_1, e_X7_leastTalk_4, e_X7_leastTalk_5, e_X7_leastTalk_6, e_X7_leastTalk_9, e_X7_leastTalk_10, e_X7_leastTalk_11, e_X7_leastTalk_12, e_X7_leastTalk_16, e_X7_leastTalk_17, e_X7_leastTalk_20, e_X7_leastTalk_23, e_X7_leastTalk_26, e_X7_leastTalk_27, e_X7_leastTalk_31, e_X7_leastTalk_33, e_X7_leastTalk_36, e_X7_leastTalk_38, e_X7_leastTalk_39, e_X7_leastTalk_42, e_X7_leastTalk_43, e_X7_leastTalk_44, e_X7_leastTalk_46, e_X7_leastTalk_48, e_X7_leastTalk_51, e_X7_leastTalk_52, e_X7_leastTalk_55, e_X7_leastTalk_57, e_X7_leastTalk_59, e_X7_leastTalk_60, e_X7_leastTalk_62, e_X7_leastTalk_63, e_X7_leastTalk_67, e_X7_leastTalk_70, e_X7_leastTalk_73, e_X7_leastTalk_76, e_X7_leastTalk_77, ob_77, rk_77_1, ar_78, rk_77_0, ob_5, kcl_i, kcl_r, kcl_l, kcl_0, kcl_n, true_and, and_true, gt8 hw, if_false, hne (j / 9) (by omega), c_min h8 hl hT hA hk hu hs ha hw, tn_eq (show oM ln (i 8) Tc u (j / 9) (j % 9) < 2147483648 by omega) (show Tc u h < 2147483648 by omega)]
    by_cases c1 : j / 9 = h
    · simp only [eq_true c1, if_true]
      rw [← c1]; rw [← c1] at stp; exact stp
    · have c2 : ¬ oM ln (i 8) Tc u (j / 9) (j % 9) = Tc u h := fun z => hnp ⟨c1, z⟩
      simp only [eq_false c1, eq_false c2, if_false, not_false_eq_true, if_true]
      exact stp
  · have ha : j0 / 9 < m := by omega
    have hw : j0 % 9 < 9 := Nat.mod_lt _ (by decide)
    have hM := oM_lt h8 hl hT hk hu hs ha hw
    have c1 : ¬ j0 / 9 = h := hj1.2.2.1
    have c2 := hj1.2.2.2
    refine e_X7_leastTalk_29.trans ?_
    simp only [e_X7_leastTalk_0, e_X7_leastTalk_1, e_X7_leastTalk_4, e_X7_leastTalk_5, e_X7_leastTalk_6, e_X7_leastTalk_9, e_X7_leastTalk_10, e_X7_leastTalk_11, e_X7_leastTalk_12, e_X7_leastTalk_16, e_X7_leastTalk_17, e_X7_leastTalk_20, e_X7_leastTalk_23, e_X7_leastTalk_26, e_X7_leastTalk_27, e_X7_leastTalk_31, e_X7_leastTalk_33, e_X7_leastTalk_36, e_X7_leastTalk_38, e_X7_leastTalk_39, e_X7_leastTalk_42, e_X7_leastTalk_43, e_X7_leastTalk_44, e_X7_leastTalk_46, e_X7_leastTalk_48, e_X7_leastTalk_51, e_X7_leastTalk_52, e_X7_leastTalk_55, e_X7_leastTalk_57, e_X7_leastTalk_59, e_X7_leastTalk_60, e_X7_leastTalk_62, e_X7_leastTalk_63, e_X7_leastTalk_64, e_X7_leastTalk_67, e_X7_leastTalk_70, e_X7_leastTalk_73, e_X7_leastTalk_76, e_X7_leastTalk_77, ob_77, rk_77_1, ar_78, rk_77_0, ob_5, kcl_i, kcl_r, kcl_l, kcl_0, kcl_n, true_and, and_true, gt8 hw, if_false, hne (j0 / 9) (by omega), c_min h8 hl hT hA hk hu hs ha hw, eq_false c1, c2, not_true_eq_false, if_true, at9, show j0 / 9 * 9 + j0 % 9 = j0 from by omega]
end TC
