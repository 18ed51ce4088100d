/-! order: telling -/
section TC
variable {sc : Nat × (Nat → Int32)} {d y nx : Nat} {hd : List (Int × Nat)} {L st : List Value} {S : kS} {cu su : Nat} {i : Nat → Nat → Int32} {l : Nat → Nat → Int64} {f t c b m : Nat} {sp : Nat → Nat} {K : Option (Option Value) → kS → Prop}
variable {N : Nat} {A B G F Pn le co Y Y0 Y2 : Nat → Int32} {i1 i2 i3 : Nat → Nat → Int32} {ln : Nat → Nat} {Tc X : Nat → Nat → Nat} {n n2 k x a o g u w h qn s lf : Nat} {v r p q P : Int32} {y0 : Nat → Nat}
theorem div9 {j : Nat} (h : j < 100000) : Int32.ofNat j / 9 = Int32.ofNat (j / 9) := by
  rw [show (9 : Int32) = Int32.ofNat 9 from rfl, ← Int32.ofNat_div (by omega) (by omega)]
theorem rem9 {j : Nat} (h : j < 100000) : Int32.ofNat j - Int32.ofNat j / 9 * 9 = Int32.ofNat (j % 9) := im_nat (n := 9) h (by decide)
theorem rem9' {j : Nat} (h : j < 100000) : Int32.ofNat j - Int32.ofNat (j / 9) * 9 = Int32.ofNat (j % 9) := by rw [← div9 h]; exact rem9 h
theorem n90 : (¬ (9 : Int32) = 0) = True := eq_true (by decide)
/-- one talk onwards -/
theorem talk_on (hl : lnOk le ln) (hT : tOk ln co m qn k Tc) (hk : k < 256) (hu : u ≤ k) (hs : Int32.ofNat u &&& (Int32.ofNat k ^^^ (-1)) = 0) (h1 : lf < 1000) (hw : w < 9) (hM : oM ln co Tc u a w = lf) : Tc (oN u w) a = lf - oL ln w ∧ 1 ≤ oL ln w ∧ oL ln w ≤ lf ∧ oN u w ≤ k ∧ Int32.ofNat (oN u w) &&& (Int32.ofNat k ^^^ (-1)) = 0 ∧ (w = 8 ∨ ¬ pBit (Int32.ofNat u &&& co a) w = 0) := by
  unfold oM at hM
  unfold oN oL
  by_cases c : w = 8
  · rw [if_pos c] at hM
    simp only [eq_true c, if_true]
    exact ⟨by omega, by omega, by omega, hu, hs, Or.inl trivial⟩
  · rw [if_neg c] at hM
    simp only [eq_false c, if_false]
    by_cases c2 : pBit (Int32.ofNat u &&& co a) w = 0
    · rw [if_pos c2] at hM; omega
    · rw [if_neg c2] at hM
      have := @wo_le u w
      have := hl w (by omega)
      exact ⟨by omega, by omega, by omega, by omega, sub_wo (by omega) (by omega) hs, Or.inr c2⟩
theorem wi_nat (hu : u < 256) (hw : w < 9) : (if Int32.ofNat w = 8 then Int32.ofNat u else Int32.ofNat u &&& ((1 <<< (Int32.ofNat w &&& 31)) ^^^ (-1))) = Int32.ofNat (oN u w) := by
  unfold oN
  by_cases c : w = 8
  · rw [if_pos (by rw [c]; rfl), if_pos c]
  · rw [if_neg (by rw [e8_f (show w < 8 by omega)]; exact fun z => z), if_neg c, w_nat u hu w (by omega)]
theorem l_tell (hm : i 5 0 = Int32.ofNat m) (h8 : m ≤ 8) (hl : lnOk (i 9) ln) (hT : tOk ln (i 8) m qn k Tc) (hA : ∀ u, u ≤ k → Int32.ofNat u &&& (Int32.ofNat k ^^^ (-1)) = 0 → ∀ h, h < 9 → i 78 (u * 9 + h) = Int32.ofNat (Tc u h)) (hk : k < 256) {p0 p1 : Int32} : ∀ (F u h lf x n : Nat) (hat : Int32) (l : Nat → Nat → Int64) (v7 : Value), lf ≤ F → Tc u h = lf → x + lf < 60 → n + 2 * lf ≤ 128 → u ≤ k → Int32.ofNat u &&& (Int32.ofNat k ^^^ (-1)) = 0 → h < 9 → (if hat = -1 then 8 else hat) = Int32.ofNat h → (∀ a, a < 8 → ((Int32.ofNat a = hat) = (a = h))) → kWP sc (d + 3) 68 9 [.ref 77, .int p0, .int p1, .ref 3, .int (Int32.ofNat u), .int hat, .int (Int32.ofNat x), v7] [] ((120, cu, su), wPut i n, l, kR f t sp) K = K (some none) ((120, cu, su), wPut i (n + (trow ln (i 8) m Tc F u h lf).length), tC l n (trow ln (i 8) m Tc F u h lf), kR f t sp) := by
  intro F
  induction F with
  | zero =>
    intro u h lf x n hat l v7 hF hv hx hn hu hs hh hhat hne
    have : lf = 0 := by omega
    subst this
    refine e_X7_tellTalks_9.trans ?_
    simp only [e_X7_tellTalks_0, e_X7_tellTalks_1, e_X7_tellTalks_3, e_X7_tellTalks_4, e_X7_tellTalks_6, e_X7_tellTalks_7, e_X7_tellTalks_11, e_X7_tellTalks_13, e_X7_tellTalks_16, e_X7_tellTalks_17, e_X7_tellTalks_20, e_X7_tellTalks_22, e_X7_tellTalks_24, e_X7_tellTalks_27, e_X7_tellTalks_28, e_X7_tellTalks_31, e_X7_tellTalks_32, e_X7_tellTalks_34, e_X7_tellTalks_36, e_X7_tellTalks_39, e_X7_tellTalks_41, e_X7_tellTalks_43, e_X7_tellTalks_44, e_X7_tellTalks_47, e_X7_tellTalks_48, e_X7_tellTalks_50, e_X7_tellTalks_52, e_X7_tellTalks_53, e_X7_tellTalks_55, e_X7_tellTalks_56, e_X7_tellTalks_58, e_X7_tellTalks_59, e_X7_tellTalks_62, e_X7_tellTalks_63, e_X7_tellTalks_65, e_X7_tellTalks_67, e_X7_tellTalks_68, e_X7_tellTalks_69, e_X7_tellTalks_72, e_X7_tellTalks_74, e_X7_tellTalks_76, e_X7_tellTalks_78, e_X7_tellTalks_79, e_X7_tellTalks_82, e_X7_tellTalks_84, e_X7_tellTalks_87, e_X7_tellTalks_90, ob_77, rk_77_1, ar_78, ob_3, kcl_i, kcl_r, kcl_l, kcl_0, kcl_n, true_and, and_true, jpF (n := 60) (show x < 60 by omega) (by decide), show (60 : Int32) = Int32.ofNat 60 from rfl, if_false, c_place, hhat, at9, kin2304 (show u * 9 + h < 2304 by omega), cl_n (show u * 9 + h < 100000 by omega), wP_o (show 78 ≠ 3 by decide), hA u hu hs h hh, hv, true_and, show ((Int32.ofNat 0 : Int32) ≤ 0) = True from eq_true (by decide), if_true]
    rfl
  | succ F ih =>
    intro u h lf x n hat l v7 hF hv hx hn hu hs hh hhat hne
    refine e_X7_tellTalks_9.trans ?_
    simp only [e_X7_tellTalks_0, e_X7_tellTalks_1, e_X7_tellTalks_3, e_X7_tellTalks_4, e_X7_tellTalks_6, e_X7_tellTalks_7, e_X7_tellTalks_11, e_X7_tellTalks_13, e_X7_tellTalks_16, e_X7_tellTalks_17, e_X7_tellTalks_20, e_X7_tellTalks_22, e_X7_tellTalks_24, e_X7_tellTalks_27, e_X7_tellTalks_28, e_X7_tellTalks_31, e_X7_tellTalks_32, e_X7_tellTalks_34, e_X7_tellTalks_36, e_X7_tellTalks_39, e_X7_tellTalks_41, e_X7_tellTalks_43, e_X7_tellTalks_44, e_X7_tellTalks_47, e_X7_tellTalks_48, e_X7_tellTalks_50, e_X7_tellTalks_52, e_X7_tellTalks_53, e_X7_tellTalks_55, e_X7_tellTalks_56, e_X7_tellTalks_58, e_X7_tellTalks_59, e_X7_tellTalks_62, e_X7_tellTalks_63, e_X7_tellTalks_65, e_X7_tellTalks_67, e_X7_tellTalks_68, e_X7_tellTalks_69, e_X7_tellTalks_72, e_X7_tellTalks_74, e_X7_tellTalks_76, e_X7_tellTalks_78, e_X7_tellTalks_79, e_X7_tellTalks_82, e_X7_tellTalks_84, e_X7_tellTalks_87, e_X7_tellTalks_90, ob_77, rk_77_1, ar_78, ob_3, kcl_i, kcl_r, kcl_l, kcl_0, kcl_n, true_and, and_true, jpF (n := 60) (show x < 60 by omega) (by decide), show (60 : Int32) = Int32.ofNat 60 from rfl, if_false, c_place, hhat, at9, kin2304 (show u * 9 + h < 2304 by omega), cl_n (show u * 9 + h < 100000 by omega), wP_o (show 78 ≠ 3 by decide), hA u hu hs h hh, hv, true_and, le0_nat (show lf < 100000 by omega)]
    by_cases c0 : lf = 0
    · have c00 : (0 < lf) = False := eq_false (by omega)
      simp only [c00, not_false_eq_true, if_true, trow, eq_true c0]
      rfl
    · obtain ⟨j, hj, hjm, hp⟩ := ex_talk hT h8 hu hk hs hh hv (by omega) (by omega)
      have ha : j / 9 < m := by omega
      have hw : j % 9 < 9 := Nat.mod_lt _ (by decide)
      have hon := talk_on hl hT hk hu hs (show lf < 1000 by omega) hw hp.2
      have hj' : kfi (fun j => pT ln (wPut i n 8) Tc u h (Tc u h) j) (m * 9) 0 = some j := by rw [wP_o (by decide), hv]; exact hj
      have T := fun (y nx : Nat) (L st : List Value) (hd : List (Int × Nat)) (K : Option (Option Value) → kS → Prop) => c_leastTalk (sc := sc) (d := d) (y := y) (nx := nx) (hd := hd) (L := L) (st := st) (cu := cu) (su := su) (i := wPut i n) (l := l) (f := f) (t := t) (sp := sp) (K := K) (m := m) (k := k) (qn := qn) (Tc := Tc) (ln := ln) (u := u) (h := h) (hat := hat) (by rw [w5]; exact hm) h8 (by rw [wP_o (by decide)]; exact hl) (by rw [wP_o (by decide)]; exact hT) (by rw [wP_o (by decide)]; exact hA) hk hu hs hh hhat hne hj'
      have I := ih (oN u (j % 9)) (j / 9) (lf - oL ln (j % 9)) (x + 1) (n + 1 + 1) (Int32.ofNat (j / 9)) (kupl (kupl l 4 n (Int32.ofNat (j / 9)).toInt64) 4 (n + 1) (Int32.ofNat (j % 9)).toInt64) (.int (Int32.ofNat j)) (by omega) hon.1 (by omega) (by omega) hon.2.2.2.1 hon.2.2.2.2.1 (by omega) (if_neg (m1_ne (by omega))) (fun a ha' => by rw [tn_eq (by omega) (by omega)])
      have c00 : (0 < lf) = True := eq_true (by omega)
      simp only [c00, not_true_eq_false, if_false, T, m1_ne (show j < 100000 by omega), not_false_eq_true, if_true, n90, true_and, div9 (show j < 100000 by omega), rem9' (show j < 100000 by omega), c_radd (show n < 128 by omega), c_radd (show n + 1 < 128 by omega), c_without, wi_nat (show u < 256 by omega) hw, tn_s, e_X7_tellTalks_0, e_X7_tellTalks_1, e_X7_tellTalks_3, e_X7_tellTalks_4, e_X7_tellTalks_6, e_X7_tellTalks_7, e_X7_tellTalks_11, e_X7_tellTalks_13, e_X7_tellTalks_16, e_X7_tellTalks_17, e_X7_tellTalks_20, e_X7_tellTalks_22, e_X7_tellTalks_24, e_X7_tellTalks_27, e_X7_tellTalks_28, e_X7_tellTalks_31, e_X7_tellTalks_32, e_X7_tellTalks_34, e_X7_tellTalks_36, e_X7_tellTalks_39, e_X7_tellTalks_41, e_X7_tellTalks_43, e_X7_tellTalks_44, e_X7_tellTalks_47, e_X7_tellTalks_48, e_X7_tellTalks_50, e_X7_tellTalks_52, e_X7_tellTalks_53, e_X7_tellTalks_55, e_X7_tellTalks_56, e_X7_tellTalks_58, e_X7_tellTalks_59, e_X7_tellTalks_62, e_X7_tellTalks_63, e_X7_tellTalks_65, e_X7_tellTalks_67, e_X7_tellTalks_68, e_X7_tellTalks_69, e_X7_tellTalks_72, e_X7_tellTalks_74, e_X7_tellTalks_76, e_X7_tellTalks_78, e_X7_tellTalks_79, e_X7_tellTalks_82, e_X7_tellTalks_84, e_X7_tellTalks_87, e_X7_tellTalks_90, ob_77, rk_77_1, ar_78, ob_3, kcl_i, kcl_r, kcl_l, kcl_0, kcl_n, true_and, and_true]
      refine I.trans ?_
      rw [trow, if_neg c0, hj]
      show K (some none) (_, wPut i (n + 1 + 1 + (trow ln (i 8) m Tc F (oN u (j % 9)) (j / 9) (lf - oL ln (j % 9))).length), tC _ (n + 1 + 1) (trow ln (i 8) m Tc F (oN u (j % 9)) (j / 9) (lf - oL ln (j % 9))), _) = K (some none) (_, wPut i (n + ((trow ln (i 8) m Tc F (oN u (j % 9)) (j / 9) (lf - oL ln (j % 9))).length + 1 + 1)), tC _ (n + 1 + 1) (trow ln (i 8) m Tc F (oN u (j % 9)) (j / 9) (lf - oL ln (j % 9))), _)
      rw [show n + 1 + 1 + (trow ln (i 8) m Tc F (oN u (j % 9)) (j / 9) (lf - oL ln (j % 9))).length = n + ((trow ln (i 8) m Tc F (oN u (j % 9)) (j / 9) (lf - oL ln (j % 9))).length + 1 + 1) by omega]
theorem trow_len : ∀ F u h lf, (trow ln co m Tc F u h lf).length ≤ 2 * F := by
  intro F
  induction F with
  | zero => intro u h lf; exact Nat.le_refl _
  | succ F ih =>
    intro u h lf
    rw [trow]
    split
    · exact Nat.zero_le _
    · split
      · exact Nat.zero_le _
      · rename_i j _
        have := ih (oN u (j % 9)) (j / 9) (lf - oL ln (j % 9))
        show (trow ln co m Tc F (oN u (j % 9)) (j / 9) (lf - oL ln (j % 9))).length + 1 + 1 ≤ _
        omega
theorem c_tellTalks (hm : i 5 0 = Int32.ofNat m) (h8 : m ≤ 8) (hl : lnOk (i 9) ln) (hT : tOk ln (i 8) m qn k Tc) (hA : ∀ u, u ≤ k → Int32.ofNat u &&& (Int32.ofNat k ^^^ (-1)) = 0 → ∀ h, h < 9 → i 78 (u * 9 + h) = Int32.ofNat (Tc u h)) (hk : k < 256) {hat : Int32} (hh : h < 9) (hhat : (if hat = -1 then 8 else hat) = Int32.ofNat h) (hne : ∀ a, a < 8 → ((Int32.ofNat a = hat) = (a = h))) (hv : Tc k h = lf) (h60 : lf < 60) : kCA sc (d + 4) 68 [.ref 77, .int (Int32.ofNat k), .int hat, .ref 3] y nx hd L st ((120, cu, su), wPut i 0, l, kR f t sp) K = kWP sc (d + 4) y nx L st ((120, cu, su), wPut i (trow ln (i 8) m Tc lf k h lf).length, tC l 0 (trow ln (i 8) m Tc lf k h lf), kR f t sp) K := by
  refine kCA_of (d := d + 3) (v := none) (S2 := ((120, cu, su), wPut i (trow ln (i 8) m Tc lf k h lf).length, tC l 0 (trow ln (i 8) m Tc lf k h lf), kR f t sp)) (fun K => ?_)
  rw [km_68]
  show kWP sc (d + 3) 68 0 [.ref 77, .int (Int32.ofNat k), .int hat, .ref 3, .retAddr 0, .retAddr 0, .retAddr 0, .retAddr 0] [] _ K = _
  have hkk : Int32.ofNat k &&& (Int32.ofNat k ^^^ (-1)) = 0 := by
    have := rm_sub (s := 0) hk (by decide)
    rw [rm_0 hk] at this; exact this
  have W := l_tell (sc := sc) (d := d) (cu := cu) (su := su) (f := f) (t := t) (sp := sp) (K := K) hm h8 hl hT hA hk (p0 := Int32.ofNat k) (p1 := hat) lf k h lf 0 0 hat l (.retAddr 0) (Nat.le_refl _) hv (by omega) (by omega) (Nat.le_refl _) hkk hh hhat hne
  rw [Nat.zero_add] at W
  simp only [e_X7_tellTalks_0, e_X7_tellTalks_1, e_X7_tellTalks_3, e_X7_tellTalks_4, e_X7_tellTalks_6, e_X7_tellTalks_7, e_X7_tellTalks_11, e_X7_tellTalks_13, e_X7_tellTalks_16, e_X7_tellTalks_17, e_X7_tellTalks_20, e_X7_tellTalks_22, e_X7_tellTalks_24, e_X7_tellTalks_27, e_X7_tellTalks_28, e_X7_tellTalks_31, e_X7_tellTalks_32, e_X7_tellTalks_34, e_X7_tellTalks_36, e_X7_tellTalks_39, e_X7_tellTalks_41, e_X7_tellTalks_43, e_X7_tellTalks_44, e_X7_tellTalks_47, e_X7_tellTalks_48, e_X7_tellTalks_50, e_X7_tellTalks_52, e_X7_tellTalks_53, e_X7_tellTalks_55, e_X7_tellTalks_56, e_X7_tellTalks_58, e_X7_tellTalks_59, e_X7_tellTalks_62, e_X7_tellTalks_63, e_X7_tellTalks_65, e_X7_tellTalks_67, e_X7_tellTalks_68, e_X7_tellTalks_69, e_X7_tellTalks_72, e_X7_tellTalks_74, e_X7_tellTalks_76, e_X7_tellTalks_78, e_X7_tellTalks_79, e_X7_tellTalks_82, e_X7_tellTalks_84, e_X7_tellTalks_87, e_X7_tellTalks_90, ob_77, rk_77_1, ar_78, ob_3, kcl_i, kcl_r, kcl_l, kcl_0, kcl_n, true_and, and_true]
  exact W
/-- the reference -/
theorem vy {n : Nat} : vPut (yS i Y) n = yS (vPut i n) Y := by
  unfold vPut
  funext c z
  unfold kupi yS
  by_cases h : c = 108
  · subst h; simp
  · simp [h]
theorem mCo_v : mCo (vPut i n) = mCo i := by unfold mCo; rw [vP_o (by decide), vP_o (by decide), vP_o (by decide)]
theorem m_goesByV {P : Int32} {s h a w : Nat} (hs : s < 256) (hh : h < 9) (ha : a < 8) (hw : w < 9) : kCA sc (d + 3) 221 [.ref 91, .int P, .int (Int32.ofNat s), .int (Int32.ofNat h), .int (Int32.ofNat a), .int (Int32.ofNat w)] y nx hd L st ((120, cu, su), vPut (yS i Y) n, l, kR f t sp) K = kWP sc (d + 3) y nx L (.int (rG (i 93) (mCo i) Y P s h a w) :: st) ((120, cu, su), vPut (yS i Y) n, l, kR f t sp) K := by
  rw [vy, m_goesBy hs hh ha hw, mCo_v, vP_o (show 93 ≠ 91 by decide)]
/-- the reference's table beside the class's -/
def rOk (k : Nat) (Tc : Nat → Nat → Nat) (Y : Nat → Int32) : Prop := ∀ s, s < 256 → ∀ h, h < 9 → ∃ c, Y (s * 9 + h) = Int32.ofNat c ∧ Rl (10 * pcn (rm k s) + 1) (Tc (rm k s) h) c
theorem rG_iff (h8 : m ≤ 8) (hl : lnOk le ln) (hr : rOk k Tc Y) (hk : k < 256) (hs : s < 256) (hh : h < 9) (ha : a < m) (hw : w < 9) (h1 : lf < 900) : (rG le co Y (Int32.ofNat k) s h a w = Int32.ofNat lf) = (a ≠ h ∧ oM ln co Tc (rm k s) a w = lf) := by
  have hrk := @rm_le k s
  apply propext
  unfold rG oM
  by_cases c1 : a = h
  · rw [if_pos c1, show (1000000 : Int32) = Int32.ofNat 1000000 from rfl, tn_eq (by decide) (by omega)]
    exact ⟨fun z => by omega, fun z => absurd c1 z.1⟩
  · rw [if_neg c1]
    by_cases c2 : w = 8
    · obtain ⟨c, e, R⟩ := hr s hs a (by omega)
      have := pcn_le (rm k s) (by omega)
      have hc : c ≤ 1000000 := by unfold Rl at R; omega
      rw [if_pos c2, if_pos c2, e, Int32.add_comm, tn_s, tn_eq (by omega) (by omega)]
      unfold Rl at R
      exact ⟨fun z => ⟨c1, by omega⟩, fun z => by have := z.2; omega⟩
    · rw [if_neg c2, if_neg c2, rm_nat hk hs]
      by_cases c3 : pBit (Int32.ofNat (rm k s) &&& co a) w = 0
      · rw [if_pos c3, if_pos c3, show (1000000 : Int32) = Int32.ofNat 1000000 from rfl, tn_eq (by decide) (by omega)]
        exact ⟨fun z => by omega, fun z => by have := z.2; omega⟩
      · obtain ⟨c, e, R⟩ := hr (s ||| 2 ^ w) (or_256 hs (by omega)) a (by omega)
        have := pcn_le (rm k (s ||| 2 ^ w)) (by have := @rm_le k (s ||| 2 ^ w); omega)
        have h2 := hl w (by omega)
        have hc : c ≤ 1000000 := by unfold Rl at R; omega
        rw [if_neg c3, if_neg c3, e, h2.1, ← Int32.ofNat_add, tn_eq (by omega) (by omega)]
        rw [rm_wo hk] at R this
        unfold Rl at R
        exact ⟨fun z => ⟨c1, by omega⟩, fun z => by have := z.2; omega⟩
end TC
