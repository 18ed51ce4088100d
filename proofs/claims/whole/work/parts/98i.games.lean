/-! games: the reference, and both together -/
section TC
variable {sc : Nat × (Nat → Int32)} {d y nx : Nat} {hd : List (Int × Nat)} {L st : List Value} {S : kS} {cu su : Nat} {i : Nat → Nat → Int32} {l : Nat → Nat → Int64} {f t c b m : Nat} {sp : Nat → Nat} {K : Option (Option Value) → kS → Prop}
variable {N M Z S1 Q : Nat → Int32} {i1 i2 i3 : Nat → Nat → Int32} {l2 : Nat → Nat → Int64} {n k x : Nat} {v r : Int32} {zs zs2 : List Int64} {le A B : Nat → Int32}
theorem kfi_snoc {p : Nat → Prop} [DecidablePred p] : ∀ {k x : Nat}, kfi p (k + 1) x = match kfi p k x with | some y => some y | none => if p (x + k) then some (x + k) else none := by
  intro k
  induction k with
  | zero => intro x; rfl
  | succ k ih =>
    intro x
    rw [kfi]
    by_cases q : p x
    · rw [if_pos q]
      have : kfi p (k + 1) x = some x := by rw [kfi, if_pos q]
      rw [this]
    · rw [if_neg q, ih]
      have : kfi p (k + 1) x = kfi p k (x + 1) := by rw [kfi, if_neg q]
      rw [this, show x + 1 + k = x + (k + 1) by omega]
def gDn (W : Nat → Int32) (n T z : Nat) (v : Int32) : Int32 := if W (n - (T - z)) = 0 then Int32.ofNat (T - z) else v
theorem dn_eq {W : Nat → Int32} {n : Nat} : ∀ T s, kfo (gDn W n T) T s = match kfi (fun x => W (n - (x + 1)) = 0) T 0 with | some y => Int32.ofNat (y + 1) | none => s := by
  intro T
  induction T with
  | zero => intro s; rfl
  | succ T ih =>
    intro s
    rw [kfo_shift]
    have e : (fun x => gDn W n (T + 1) (x + 1)) = gDn W n T := by
      funext z v; unfold gDn; rw [show T + 1 - (z + 1) = T - z by omega]
    rw [e, ih, kfi_snoc]
    cases kfi (fun x => W (n - (x + 1)) = 0) T 0 with
    | some y => rfl
    | none =>
      show gDn W n (T + 1) 0 s = _
      unfold gDn
      show (if W (n - (T + 1)) = 0 then Int32.ofNat (T + 1) else s) = match (if W (n - (0 + T + 1)) = 0 then some (0 + T) else none) with | some y => Int32.ofNat (y + 1) | none => s
      rw [Nat.zero_add]
      by_cases q : W (n - (T + 1)) = 0
      · rw [if_pos q, if_pos q]
      · rw [if_neg q, if_neg q]
theorem dn_wK {W : Nat → Int32} {n T : Nat} : kfo (gDn W n T) T 0 = Int32.ofNat (wK W n T) := by
  rw [dn_eq]; unfold wK
  cases kfi (fun x => W (n - (x + 1)) = 0) T 0 <;> rfl
theorem wK_lt {W V : Nat → Int32} {a : Nat} (ha : a ≤ n) (h : ∀ j, j < n → W j = V j) : wK W n a = wK V n a := by
  unfold wK
  rw [kfi_congr (q := fun x => V (n - (x + 1)) = 0) (fun z h1 h2 => by rw [h _ (by omega)])]
def hP (i : Nat → Nat → Int32) (w : (Nat → Int32) × (Nat → Int32)) : Nat → Nat → Int32 := aPut (aPut i 111 61 w.1) 112 61 w.2
theorem hP_111 {w : (Nat → Int32) × (Nat → Int32)} (h : x < 61) : hP i w 111 x = w.1 x := by unfold hP; rw [aP_o (by decide), aP_s h]
theorem hP_112 {w : (Nat → Int32) × (Nat → Int32)} (h : x < 61) : hP i w 112 x = w.2 x := by unfold hP; rw [aP_s h]
theorem hP_o {w : (Nat → Int32) × (Nat → Int32)} {c : Nat} (h1 : c ≠ 111) (h2 : c ≠ 112) : hP i w c = i c := by unfold hP; rw [aP_o h2, aP_o h1]
theorem hW_112 {w : (Nat → Int32) × (Nat → Int32)} {v : Int32} (h : x < 61) : kupi (hP i w) 112 x v = hP i (w.1, kuf w.2 x v) := aW_s h
theorem hW_111 {w : (Nat → Int32) × (Nat → Int32)} {v : Int32} (h : x < 61) : kupi (hP i w) 111 x v = hP i (kuf w.1 x v, w.2) := by
  unfold hP
  rw [← aW_s h]
  funext c j
  unfold kupi aPut
  by_cases e : c = 112
  · subst e; simp
  · simp [e]
theorem hP_g : hP i (i 111, i 112) = i := by
  unfold hP
  rw [aP_g]; exact aP_g
def gLa (a : Nat) (w : (Nat → Int32) × (Nat → Int32)) (n : Nat) : (Nat → Int32) × (Nat → Int32) := (kuf w.1 n (Int32.ofNat (wK w.2 n (min a (n - 1)))), w.2)
def gLb (b : Nat) (w : (Nat → Int32) × (Nat → Int32)) (n : Nat) : (Nat → Int32) × (Nat → Int32) := (w.1, kuf w.2 n (Int32.ofNat (wK w.1 n (min b (n - 1)))))
def gLay (a b x : Nat) (w : (Nat → Int32) × (Nat → Int32)) : (Nat → Int32) × (Nat → Int32) := gLb b (gLa a w (x + 1)) (x + 1)
def pLay (a b : Nat) (w : (Nat → Int32) × (Nat → Int32)) : (Nat → Int32) × (Nat → Int32) := kfo (gLay a b) 60 w
theorem min_nat {a b : Nat} (ha : a < 100000) (hb : b < 100000) : (if Int32.ofNat b < Int32.ofNat a then Int32.ofNat b else Int32.ofNat a) = Int32.ofNat (min a b) := by
  simp only [tn_lt (show b < 2147483648 by omega) (show a < 2147483648 by omega)]
  by_cases q : b < a
  · rw [if_pos q, Nat.min_eq_right (by omega)]
  · rw [if_neg q, Nat.min_eq_left (by omega)]
theorem tn_dn {T z : Nat} (h : z < T) : Int32.ofNat (T - z) + -1 = Int32.ofNat (T - (z + 1)) := by
  rw [tn_subn (by omega)]; rfl
theorem m_laysGame {a b : Nat} (ha : a ≤ 9) (hb : b ≤ 9) : kCA sc (d + 1) 233 [.ref 91, .int (Int32.ofNat a), .int (Int32.ofNat b)] y nx hd L st ((120, cu, su), i, l, kR f t sp) K = kWP sc (d + 1) y nx L st ((120, cu, su), hP i (pLay a b (i 111, i 112)), l, kR f t sp) K := by
  refine kCA_of (d := d) (v := none) (S2 := ((120, cu, su), hP i (pLay a b (i 111, i 112)), l, kR f t sp)) (fun K => ?_)
  rw [km_233]
  show kWP sc (d) 233 0 [.ref 91, .int (Int32.ofNat a), .int (Int32.ofNat b), .retAddr 0, .retAddr 0] [] ((120, cu, su), i, l, kR f t sp) K = K (some (none)) ((120, cu, su), hP i (pLay a b (i 111, i 112)), l, kR f t sp)
  simp only [e_X11_laysGame_0, e_X11_laysGame_1, e_X11_laysGame_3, e_X11_laysGame_5, e_X11_laysGame_8, e_X11_laysGame_9, e_X11_laysGame_12, e_X11_laysGame_13, e_X11_laysGame_14, e_X11_laysGame_15, e_X11_laysGame_16, e_X11_laysGame_19, e_X11_laysGame_20, e_X11_laysGame_21, e_X11_laysGame_22, e_X11_laysGame_23, e_X11_laysGame_24, e_X11_laysGame_25, e_X11_laysGame_26, e_X11_laysGame_29, e_X11_laysGame_33, e_X11_laysGame_36, e_X11_laysGame_37, e_X11_laysGame_40, e_X11_laysGame_41, e_X11_laysGame_42, e_X11_laysGame_45, e_X11_laysGame_46, e_X11_laysGame_48, e_X11_laysGame_49, e_X11_laysGame_50, e_X11_laysGame_53, e_X11_laysGame_55, e_X11_laysGame_58, e_X11_laysGame_59, e_X11_laysGame_62, e_X11_laysGame_63, e_X11_laysGame_64, e_X11_laysGame_65, e_X11_laysGame_68, e_X11_laysGame_71, e_X11_laysGame_72, e_X11_laysGame_73, e_X11_laysGame_74, e_X11_laysGame_75, e_X11_laysGame_78, e_X11_laysGame_82, e_X11_laysGame_85, e_X11_laysGame_86, e_X11_laysGame_89, e_X11_laysGame_90, e_X11_laysGame_91, e_X11_laysGame_94, e_X11_laysGame_95, e_X11_laysGame_97, e_X11_laysGame_98, e_X11_laysGame_99, e_X11_laysGame_102, e_X11_laysGame_104, e_X11_laysGame_107, e_X11_laysGame_108, e_X11_laysGame_111, e_X11_laysGame_112, e_X11_laysGame_113, e_X11_laysGame_114, e_X11_laysGame_117, e_X11_laysGame_120, e_X11_laysGame_123, e_X11_laysGame_126, ob_91, rk_91_37, ar_111, rk_91_38, ar_112, kcl_i, kcl_r, kcl_l, kcl_0, kcl_n, true_and, and_true]
  have E := k_lq (n := 60) (Q := fun x (w : ((Nat → Int32) × (Nat → Int32)) × Value) => kWP sc d 233 2 [.ref 91, .int (Int32.ofNat a), .int (Int32.ofNat b), .int (Int32.ofNat (x + 1)), w.2] [] ((120, cu, su), hP i w.1, l, kR f t sp) K) (I := fun x w => w.1 = kfo (gLay a b) x (i 111, i 112)) (b0 := ((i 111, i 112), .retAddr 0)) ?_ rfl
  · obtain ⟨⟨w, v4⟩, hw, e⟩ := E
    have hw' : w = pLay a b (i 111, i 112) := hw
    rw [hP_g] at e
    refine e.trans ?_
    refine e_X11_laysGame_2.trans ?_
    simp only [e_X11_laysGame_0, e_X11_laysGame_1, e_X11_laysGame_3, e_X11_laysGame_5, e_X11_laysGame_8, e_X11_laysGame_9, e_X11_laysGame_12, e_X11_laysGame_13, e_X11_laysGame_14, e_X11_laysGame_15, e_X11_laysGame_16, e_X11_laysGame_19, e_X11_laysGame_20, e_X11_laysGame_21, e_X11_laysGame_22, e_X11_laysGame_23, e_X11_laysGame_24, e_X11_laysGame_25, e_X11_laysGame_26, e_X11_laysGame_29, e_X11_laysGame_33, e_X11_laysGame_36, e_X11_laysGame_37, e_X11_laysGame_40, e_X11_laysGame_41, e_X11_laysGame_42, e_X11_laysGame_45, e_X11_laysGame_46, e_X11_laysGame_48, e_X11_laysGame_49, e_X11_laysGame_50, e_X11_laysGame_53, e_X11_laysGame_55, e_X11_laysGame_58, e_X11_laysGame_59, e_X11_laysGame_62, e_X11_laysGame_63, e_X11_laysGame_64, e_X11_laysGame_65, e_X11_laysGame_68, e_X11_laysGame_71, e_X11_laysGame_72, e_X11_laysGame_73, e_X11_laysGame_74, e_X11_laysGame_75, e_X11_laysGame_78, e_X11_laysGame_82, e_X11_laysGame_85, e_X11_laysGame_86, e_X11_laysGame_89, e_X11_laysGame_90, e_X11_laysGame_91, e_X11_laysGame_94, e_X11_laysGame_95, e_X11_laysGame_97, e_X11_laysGame_98, e_X11_laysGame_99, e_X11_laysGame_102, e_X11_laysGame_104, e_X11_laysGame_107, e_X11_laysGame_108, e_X11_laysGame_111, e_X11_laysGame_112, e_X11_laysGame_113, e_X11_laysGame_114, e_X11_laysGame_117, e_X11_laysGame_120, e_X11_laysGame_123, e_X11_laysGame_126, ob_91, rk_91_37, ar_111, rk_91_38, ar_112, kcl_i, kcl_r, kcl_l, kcl_0, kcl_n, true_and, and_true, show ((60 : Int32) < Int32.ofNat (60 + 1)) = True from eq_true (by decide), if_true]
    rw [hw']
  · intro x ⟨w, v4⟩ hx hI
    have hI' : w = kfo (gLay a b) x (i 111, i 112) := hI
    refine ⟨(gLay a b x w, .int 0), ?_, ?_⟩
    · show gLay a b x w = gLay a b x (kfo (gLay a b) x (i 111, i 112)); rw [hI']
    · have c1 : ((60 : Int32) < Int32.ofNat (x + 1)) = False := by rw [show (60 : Int32) = Int32.ofNat 60 from rfl, tn_lt (by omega) (by omega)]; exact eq_false (by omega)
      have c3 : kin (Int32.ofNat (x + 1)) 61 = True := by rw [tn_kin (by omega)]; exact eq_true (by omega)
      have c4 : Int32.ofNat (x + 1) - 1 = Int32.ofNat x := tn_sub (a := x + 1) (by omega)
      refine e_X11_laysGame_2.trans ?_
      simp only [e_X11_laysGame_0, e_X11_laysGame_1, e_X11_laysGame_3, e_X11_laysGame_5, e_X11_laysGame_8, e_X11_laysGame_9, e_X11_laysGame_12, e_X11_laysGame_13, e_X11_laysGame_14, e_X11_laysGame_15, e_X11_laysGame_16, e_X11_laysGame_19, e_X11_laysGame_20, e_X11_laysGame_21, e_X11_laysGame_22, e_X11_laysGame_23, e_X11_laysGame_24, e_X11_laysGame_25, e_X11_laysGame_26, e_X11_laysGame_29, e_X11_laysGame_33, e_X11_laysGame_36, e_X11_laysGame_37, e_X11_laysGame_40, e_X11_laysGame_41, e_X11_laysGame_42, e_X11_laysGame_45, e_X11_laysGame_46, e_X11_laysGame_48, e_X11_laysGame_49, e_X11_laysGame_50, e_X11_laysGame_53, e_X11_laysGame_55, e_X11_laysGame_58, e_X11_laysGame_59, e_X11_laysGame_62, e_X11_laysGame_63, e_X11_laysGame_64, e_X11_laysGame_65, e_X11_laysGame_68, e_X11_laysGame_71, e_X11_laysGame_72, e_X11_laysGame_73, e_X11_laysGame_74, e_X11_laysGame_75, e_X11_laysGame_78, e_X11_laysGame_82, e_X11_laysGame_85, e_X11_laysGame_86, e_X11_laysGame_89, e_X11_laysGame_90, e_X11_laysGame_91, e_X11_laysGame_94, e_X11_laysGame_95, e_X11_laysGame_97, e_X11_laysGame_98, e_X11_laysGame_99, e_X11_laysGame_102, e_X11_laysGame_104, e_X11_laysGame_107, e_X11_laysGame_108, e_X11_laysGame_111, e_X11_laysGame_112, e_X11_laysGame_113, e_X11_laysGame_114, e_X11_laysGame_117, e_X11_laysGame_120, e_X11_laysGame_123, e_X11_laysGame_126, ob_91, rk_91_37, ar_111, rk_91_38, ar_112, kcl_i, kcl_r, kcl_l, kcl_0, kcl_n, true_and, and_true, c1, c3, c4, if_false, cl_n (show x + 1 < 100000 by omega), hW_111 (show x + 1 < 61 by omega), hW_112 (show x + 1 < 61 by omega), min_nat (show a < 100000 by omega) (show x < 100000 by omega)]
      refine (k_for (P := fun z (v : Int32) => kWP sc d 233 31 [.ref 91, .int (Int32.ofNat a), .int (Int32.ofNat b), .int (Int32.ofNat (x + 1)), .int (Int32.ofNat (min a x - z))] [] ((120, cu, su), hP i (kuf w.1 (x + 1) v, kuf w.2 (x + 1) 0), l, kR f t sp) K) (n := min a x) (g := gDn (kuf w.2 (x + 1) 0) (x + 1) (min a x)) ?_ 0).trans ?_
      · intro z v hz
        have d1 : (Int32.ofNat (min a x - z) ≤ 0) = False := by rw [le0_nat (by omega)]; exact eq_false (fun q => q (by omega))
        have d2 : Int32.ofNat (x + 1) - Int32.ofNat (min a x - z) = Int32.ofNat (x + 1 - (min a x - z)) := sub_nat (by omega)
        have d3 : kin (Int32.ofNat (x + 1 - (min a x - z))) 61 = True := by rw [tn_kin (by omega)]; exact eq_true (by omega)
        refine e_X11_laysGame_31.trans ?_
        simp only [e_X11_laysGame_0, e_X11_laysGame_1, e_X11_laysGame_3, e_X11_laysGame_5, e_X11_laysGame_8, e_X11_laysGame_9, e_X11_laysGame_12, e_X11_laysGame_13, e_X11_laysGame_14, e_X11_laysGame_15, e_X11_laysGame_16, e_X11_laysGame_19, e_X11_laysGame_20, e_X11_laysGame_21, e_X11_laysGame_22, e_X11_laysGame_23, e_X11_laysGame_24, e_X11_laysGame_25, e_X11_laysGame_26, e_X11_laysGame_29, e_X11_laysGame_33, e_X11_laysGame_36, e_X11_laysGame_37, e_X11_laysGame_40, e_X11_laysGame_41, e_X11_laysGame_42, e_X11_laysGame_45, e_X11_laysGame_46, e_X11_laysGame_48, e_X11_laysGame_49, e_X11_laysGame_50, e_X11_laysGame_53, e_X11_laysGame_55, e_X11_laysGame_58, e_X11_laysGame_59, e_X11_laysGame_62, e_X11_laysGame_63, e_X11_laysGame_64, e_X11_laysGame_65, e_X11_laysGame_68, e_X11_laysGame_71, e_X11_laysGame_72, e_X11_laysGame_73, e_X11_laysGame_74, e_X11_laysGame_75, e_X11_laysGame_78, e_X11_laysGame_82, e_X11_laysGame_85, e_X11_laysGame_86, e_X11_laysGame_89, e_X11_laysGame_90, e_X11_laysGame_91, e_X11_laysGame_94, e_X11_laysGame_95, e_X11_laysGame_97, e_X11_laysGame_98, e_X11_laysGame_99, e_X11_laysGame_102, e_X11_laysGame_104, e_X11_laysGame_107, e_X11_laysGame_108, e_X11_laysGame_111, e_X11_laysGame_112, e_X11_laysGame_113, e_X11_laysGame_114, e_X11_laysGame_117, e_X11_laysGame_120, e_X11_laysGame_123, e_X11_laysGame_126, ob_91, rk_91_37, ar_111, rk_91_38, ar_112, kcl_i, kcl_r, kcl_l, kcl_0, kcl_n, true_and, and_true, d1, d2, d3, c3, if_false, cl_n (show x + 1 < 100000 by omega), cl_n (show x + 1 - (min a x - z) < 100000 by omega), hP_112 (show x + 1 - (min a x - z) < 61 by omega), hP_111 (show x + 1 < 61 by omega), hW_111 (show x + 1 < 61 by omega), kuf_kuf, kuf_s, tn_dn hz]
        unfold gDn
        by_cases q : kuf w.2 (x + 1) 0 (x + 1 - (min a x - z)) = 0
        · simp only [q, if_true]
        · simp only [q, if_false]
      · rw [dn_wK]
        refine e_X11_laysGame_31.trans ?_
        simp only [e_X11_laysGame_0, e_X11_laysGame_1, e_X11_laysGame_3, e_X11_laysGame_5, e_X11_laysGame_8, e_X11_laysGame_9, e_X11_laysGame_12, e_X11_laysGame_13, e_X11_laysGame_14, e_X11_laysGame_15, e_X11_laysGame_16, e_X11_laysGame_19, e_X11_laysGame_20, e_X11_laysGame_21, e_X11_laysGame_22, e_X11_laysGame_23, e_X11_laysGame_24, e_X11_laysGame_25, e_X11_laysGame_26, e_X11_laysGame_29, e_X11_laysGame_33, e_X11_laysGame_36, e_X11_laysGame_37, e_X11_laysGame_40, e_X11_laysGame_41, e_X11_laysGame_42, e_X11_laysGame_45, e_X11_laysGame_46, e_X11_laysGame_48, e_X11_laysGame_49, e_X11_laysGame_50, e_X11_laysGame_53, e_X11_laysGame_55, e_X11_laysGame_58, e_X11_laysGame_59, e_X11_laysGame_62, e_X11_laysGame_63, e_X11_laysGame_64, e_X11_laysGame_65, e_X11_laysGame_68, e_X11_laysGame_71, e_X11_laysGame_72, e_X11_laysGame_73, e_X11_laysGame_74, e_X11_laysGame_75, e_X11_laysGame_78, e_X11_laysGame_82, e_X11_laysGame_85, e_X11_laysGame_86, e_X11_laysGame_89, e_X11_laysGame_90, e_X11_laysGame_91, e_X11_laysGame_94, e_X11_laysGame_95, e_X11_laysGame_97, e_X11_laysGame_98, e_X11_laysGame_99, e_X11_laysGame_102, e_X11_laysGame_104, e_X11_laysGame_107, e_X11_laysGame_108, e_X11_laysGame_111, e_X11_laysGame_112, e_X11_laysGame_113, e_X11_laysGame_114, e_X11_laysGame_117, e_X11_laysGame_120, e_X11_laysGame_123, e_X11_laysGame_126, ob_91, rk_91_37, ar_111, rk_91_38, ar_112, kcl_i, kcl_r, kcl_l, kcl_0, kcl_n, true_and, and_true, show min a x - min a x = 0 by omega, show (Int32.ofNat 0 ≤ 0) = True from eq_true (by decide), if_true, c4, min_nat (show b < 100000 by omega) (show x < 100000 by omega)]
        have e1 : wK (kuf w.2 (x + 1) 0) (x + 1) (min a x) = wK w.2 (x + 1) (min a (x + 1 - 1)) := wK_lt (by omega) (fun j hj => kuf_n (by omega))
        rw [e1]
        show kWP sc d 233 80 _ _ (_, hP i ((gLa a w (x + 1)).1, kuf (gLa a w (x + 1)).2 (x + 1) 0), _, _) K = _
        generalize hw2 : gLa a w (x + 1) = w2
        refine (k_for (P := fun z (v : Int32) => kWP sc d 233 80 [.ref 91, .int (Int32.ofNat a), .int (Int32.ofNat b), .int (Int32.ofNat (x + 1)), .int (Int32.ofNat (min b x - z))] [] ((120, cu, su), hP i (w2.1, kuf w2.2 (x + 1) v), l, kR f t sp) K) (n := min b x) (g := gDn w2.1 (x + 1) (min b x)) ?_ 0).trans ?_
        · intro z v hz
          have d1 : (Int32.ofNat (min b x - z) ≤ 0) = False := by rw [le0_nat (by omega)]; exact eq_false (fun q => q (by omega))
          have d2 : Int32.ofNat (x + 1) - Int32.ofNat (min b x - z) = Int32.ofNat (x + 1 - (min b x - z)) := sub_nat (by omega)
          have d3 : kin (Int32.ofNat (x + 1 - (min b x - z))) 61 = True := by rw [tn_kin (by omega)]; exact eq_true (by omega)
          refine e_X11_laysGame_80.trans ?_
          simp only [e_X11_laysGame_0, e_X11_laysGame_1, e_X11_laysGame_3, e_X11_laysGame_5, e_X11_laysGame_8, e_X11_laysGame_9, e_X11_laysGame_12, e_X11_laysGame_13, e_X11_laysGame_14, e_X11_laysGame_15, e_X11_laysGame_16, e_X11_laysGame_19, e_X11_laysGame_20, e_X11_laysGame_21, e_X11_laysGame_22, e_X11_laysGame_23, e_X11_laysGame_24, e_X11_laysGame_25, e_X11_laysGame_26, e_X11_laysGame_29, e_X11_laysGame_33, e_X11_laysGame_36, e_X11_laysGame_37, e_X11_laysGame_40, e_X11_laysGame_41, e_X11_laysGame_42, e_X11_laysGame_45, e_X11_laysGame_46, e_X11_laysGame_48, e_X11_laysGame_49, e_X11_laysGame_50, e_X11_laysGame_53, e_X11_laysGame_55, e_X11_laysGame_58, e_X11_laysGame_59, e_X11_laysGame_62, e_X11_laysGame_63, e_X11_laysGame_64, e_X11_laysGame_65, e_X11_laysGame_68, e_X11_laysGame_71, e_X11_laysGame_72, e_X11_laysGame_73, e_X11_laysGame_74, e_X11_laysGame_75, e_X11_laysGame_78, e_X11_laysGame_82, e_X11_laysGame_85, e_X11_laysGame_86, e_X11_laysGame_89, e_X11_laysGame_90, e_X11_laysGame_91, e_X11_laysGame_94, e_X11_laysGame_95, e_X11_laysGame_97, e_X11_laysGame_98, e_X11_laysGame_99, e_X11_laysGame_102, e_X11_laysGame_104, e_X11_laysGame_107, e_X11_laysGame_108, e_X11_laysGame_111, e_X11_laysGame_112, e_X11_laysGame_113, e_X11_laysGame_114, e_X11_laysGame_117, e_X11_laysGame_120, e_X11_laysGame_123, e_X11_laysGame_126, ob_91, rk_91_37, ar_111, rk_91_38, ar_112, kcl_i, kcl_r, kcl_l, kcl_0, kcl_n, true_and, and_true, d1, d2, d3, c3, if_false, cl_n (show x + 1 < 100000 by omega), cl_n (show x + 1 - (min b x - z) < 100000 by omega), hP_111 (show x + 1 - (min b x - z) < 61 by omega), hP_112 (show x + 1 < 61 by omega), hW_112 (show x + 1 < 61 by omega), kuf_kuf, kuf_s, tn_dn hz]
          unfold gDn
          by_cases q : w2.1 (x + 1 - (min b x - z)) = 0
          · simp only [q, if_true]
          · simp only [q, if_false]
        · rw [dn_wK]
          refine e_X11_laysGame_80.trans ?_
          simp only [e_X11_laysGame_0, e_X11_laysGame_1, e_X11_laysGame_3, e_X11_laysGame_5, e_X11_laysGame_8, e_X11_laysGame_9, e_X11_laysGame_12, e_X11_laysGame_13, e_X11_laysGame_14, e_X11_laysGame_15, e_X11_laysGame_16, e_X11_laysGame_19, e_X11_laysGame_20, e_X11_laysGame_21, e_X11_laysGame_22, e_X11_laysGame_23, e_X11_laysGame_24, e_X11_laysGame_25, e_X11_laysGame_26, e_X11_laysGame_29, e_X11_laysGame_33, e_X11_laysGame_36, e_X11_laysGame_37, e_X11_laysGame_40, e_X11_laysGame_41, e_X11_laysGame_42, e_X11_laysGame_45, e_X11_laysGame_46, e_X11_laysGame_48, e_X11_laysGame_49, e_X11_laysGame_50, e_X11_laysGame_53, e_X11_laysGame_55, e_X11_laysGame_58, e_X11_laysGame_59, e_X11_laysGame_62, e_X11_laysGame_63, e_X11_laysGame_64, e_X11_laysGame_65, e_X11_laysGame_68, e_X11_laysGame_71, e_X11_laysGame_72, e_X11_laysGame_73, e_X11_laysGame_74, e_X11_laysGame_75, e_X11_laysGame_78, e_X11_laysGame_82, e_X11_laysGame_85, e_X11_laysGame_86, e_X11_laysGame_89, e_X11_laysGame_90, e_X11_laysGame_91, e_X11_laysGame_94, e_X11_laysGame_95, e_X11_laysGame_97, e_X11_laysGame_98, e_X11_laysGame_99, e_X11_laysGame_102, e_X11_laysGame_104, e_X11_laysGame_107, e_X11_laysGame_108, e_X11_laysGame_111, e_X11_laysGame_112, e_X11_laysGame_113, e_X11_laysGame_114, e_X11_laysGame_117, e_X11_laysGame_120, e_X11_laysGame_123, e_X11_laysGame_126, ob_91, rk_91_37, ar_111, rk_91_38, ar_112, kcl_i, kcl_r, kcl_l, kcl_0, kcl_n, true_and, and_true, show min b x - min b x = 0 by omega, show (Int32.ofNat 0 ≤ 0) = True from eq_true (by decide), if_true, tn_s]
          unfold gLay
          rw [hw2]; rfl
/-- what both tables are -/
theorem fill_is {a b : Nat} {w : (Nat → Int32) × (Nat → Int32)} : ∀ x, (kfo (gFill a b) x (w0F w)).1 0 = 1 ∧ (kfo (gFill a b) x (w0F w)).2 0 = 1 ∧ ∀ j, 1 ≤ j → j ≤ x → (kfo (gFill a b) x (w0F w)).1 j = (if 0 < wK (kfo (gFill a b) x (w0F w)).2 j (min a j) then 1 else 0) ∧ (kfo (gFill a b) x (w0F w)).2 j = (if 0 < wK (kfo (gFill a b) x (w0F w)).1 j (min b j) then 1 else 0) := by
  intro x
  induction x with
  | zero => exact ⟨rfl, rfl, fun j h1 h2 => by omega⟩
  | succ x ih =>
    have e : kfo (gFill a b) (x + 1) (w0F w) = gFill a b x (kfo (gFill a b) x (w0F w)) := rfl
    rw [e]
    generalize kfo (gFill a b) x (w0F w) = u at ih
    obtain ⟨h1, h2, h3⟩ := ih
    have f1 : ∀ j, j ≠ x + 1 → (gFill a b x u).1 j = u.1 j := fun j hj => kuf_n hj
    have f2 : ∀ j, j ≠ x + 1 → (gFill a b x u).2 j = u.2 j := fun j hj => kuf_n hj
    refine ⟨(f1 0 (by omega)).trans h1, (f2 0 (by omega)).trans h2, fun j j1 j2 => ?_⟩
    have g1 : wK (gFill a b x u).2 j (min a j) = wK u.2 j (min a j) := wK_lt (by omega) (fun k hk => f2 k (by omega))
    have g2 : wK (gFill a b x u).1 j (min b j) = wK (gFa a u (x + 1)).1 j (min b j) := rfl
    by_cases q : j = x + 1
    · subst q
      rw [g1, g2]
      exact ⟨kuf_s, kuf_s⟩
    · have g3 : wK (gFa a u (x + 1)).1 j (min b j) = wK u.1 j (min b j) := wK_lt (by omega) (fun k hk => kuf_n (by omega))
      rw [g1, g2, g3, f1 j q, f2 j q]
      exact h3 j j1 (by omega)
theorem lay_is {a b : Nat} {w : (Nat → Int32) × (Nat → Int32)} : ∀ x j, 1 ≤ j → j ≤ x → (kfo (gLay a b) x w).1 j = Int32.ofNat (wK (kfo (gLay a b) x w).2 j (min a (j - 1))) ∧ (kfo (gLay a b) x w).2 j = Int32.ofNat (wK (kfo (gLay a b) x w).1 j (min b (j - 1))) := by
  intro x
  induction x with
  | zero => intro j h1 h2; omega
  | succ x ih =>
    intro j j1 j2
    have e : kfo (gLay a b) (x + 1) w = gLay a b x (kfo (gLay a b) x w) := rfl
    rw [e]
    generalize kfo (gLay a b) x w = u at ih
    have f1 : ∀ j, j ≠ x + 1 → (gLay a b x u).1 j = u.1 j := fun j hj => kuf_n hj
    have f2 : ∀ j, j ≠ x + 1 → (gLay a b x u).2 j = u.2 j := fun j hj => kuf_n hj
    have g1 : wK (gLay a b x u).2 j (min a (j - 1)) = wK u.2 j (min a (j - 1)) := wK_lt (by omega) (fun k hk => f2 k (by omega))
    have g2 : wK (gLay a b x u).1 j (min b (j - 1)) = wK (gLa a u (x + 1)).1 j (min b (j - 1)) := rfl
    by_cases q : j = x + 1
    · subst q
      rw [g1, g2]
      exact ⟨kuf_s, kuf_s⟩
    · have g3 : wK (gLa a u (x + 1)).1 j (min b (j - 1)) = wK u.1 j (min b (j - 1)) := wK_lt (by omega) (fun k hk => kuf_n (by omega))
      rw [g1, g2, g3, f1 j q, f2 j q]
      exact ih j j1 (by omega)
theorem ofNat_0 {k : Nat} (h : k < 100000) : Int32.ofNat k = 0 ↔ ¬ 0 < k := by
  rw [tn_z (by omega)]; omega
theorem game_eq {a b : Nat} {w u : (Nat → Int32) × (Nat → Int32)} (ha : a ≤ 9) (hb : b ≤ 9) : ∀ j, 1 ≤ j → j ≤ 60 → wK (pFill a b w).2 j (min a j) = wK (pLay a b u).2 j (min a (j - 1)) ∧ wK (pFill a b w).1 j (min b j) = wK (pLay a b u).1 j (min b (j - 1)) := by
  have hF := @fill_is a b w 60
  have hL := @lay_is a b u 60
  have eF : kfo (gFill a b) 60 (w0F w) = pFill a b w := rfl
  have eL : kfo (gLay a b) 60 u = pLay a b u := rfl
  rw [eF] at hF
  rw [eL] at hL
  generalize pFill a b w = F at hF
  generalize pLay a b u = G at hL
  obtain ⟨F0, F1, F2⟩ := hF
  intro j
  induction j using Nat.strongRecOn with
  | ind j ih =>
    intro j1 j2
    rw [wK_min j1 (by rw [F1]; decide), wK_min j1 (by rw [F0]; decide)]
    constructor
    · apply wK_c (by omega)
      intro z z1 z2
      rw [(F2 z z1 (by omega)).2, (hL z z1 (by omega)).2, ofNat_0 (Nat.lt_of_le_of_lt wK_le (by omega)), (ih z z2 z1 (by omega)).2]
      by_cases q : 0 < wK G.1 z (min b (z - 1))
      · rw [if_pos q]; exact ⟨fun e => absurd e (by decide), fun e => absurd q e⟩
      · rw [if_neg q]; exact ⟨fun _ => q, fun _ => rfl⟩
    · apply wK_c (by omega)
      intro z z1 z2
      rw [(F2 z z1 (by omega)).1, (hL z z1 (by omega)).1, ofNat_0 (Nat.lt_of_le_of_lt wK_le (by omega)), (ih z z2 z1 (by omega)).1]
      by_cases q : 0 < wK G.2 z (min a (z - 1))
      · rw [if_pos q]; exact ⟨fun e => absurd e (by decide), fun e => absurd q e⟩
      · rw [if_neg q]; exact ⟨fun _ => q, fun _ => rfl⟩
theorem ag_gP {w : (Nat → Int32) × (Nat → Int32)} (h : kAg kSc i i2) : kAg kSc i (gP i2 w) := ag_a (ag_a h (fun _ _ => rfl)) (fun _ _ => rfl)
theorem ag_hP {w : (Nat → Int32) × (Nat → Int32)} (h : kAg kSc i i2) : kAg kSc i (hP i2 w) := ag_a (ag_a h (fun _ _ => rfl)) (fun _ _ => rfl)
theorem c_opening {a n : Nat} (ha : a ≤ 9) (hn : n ≤ 60) : kCA sc (d + 2) 85 [.ref 81, .int (Int32.ofNat n), .int (Int32.ofNat a)] y nx hd L st ((120, cu, su), i, l, kR f t sp) K = kWP sc (d + 2) y nx L (.int (Int32.ofNat (wK (i 83) n (min a n))) :: st) ((120, cu, su), i, l, kR f t sp) K := by
  refine kCA_of (d := d + 1) (v := some (.int (Int32.ofNat (wK (i 83) n (min a n))))) (fun K => ?_)
  rw [km_85]
  show kWP sc (d + 1) 85 0 [.ref 81, .int (Int32.ofNat n), .int (Int32.ofNat a)] [] ((120, cu, su), i, l, kR f t sp) K = _
  simp only [e_X8_opening_0, e_X8_opening_1, e_X8_opening_4, e_X8_opening_5, e_X8_opening_6, e_X8_opening_9, ob_81, rk_81_1, ar_83, kcl_i, kcl_r, kcl_l, kcl_0, kcl_n, true_and, and_true, c_winning (Or.inr rfl) ha hn]
theorem l1 : (1 : Int64) = (1 : Int32).toInt64 := by decide
theorem l9 : (9 : Int64) = (9 : Int32).toInt64 := by decide
theorem len_nat {p : Int32} (h : ¬ p < 1 ∧ ¬ 9 < p) : ∃ a, 1 ≤ a ∧ a ≤ 9 ∧ p = Int32.ofNat a := by
  obtain ⟨a, ha, e⟩ := tn_exle (m := 9) (by decide) (Int32.le_trans (by decide) (Int32.not_lt.1 h.1)) (Int32.not_lt.1 h.2)
  refine ⟨a, ?_, ha, e⟩
  have := h.1
  rw [e, show (1 : Int32) = Int32.ofNat 1 from rfl, tn_lt (by omega) (by decide)] at this
  omega
theorem J_game (h : IV m i l f t sp) (p q v : Int32) : JJ 122 234 [.int p, .int q, .int v] i l f t sp := by
  by_cases h0 : (¬ p < 0 ∧ ¬ 60 < p) ∧ (¬ q < 1 ∧ ¬ 9 < q) ∧ (¬ v < 1 ∧ ¬ 9 < v)
  · obtain ⟨⟨p0, p60⟩, hq, hv⟩ := id h0
    have p60' : p ≤ 60 := Int32.not_lt.1 p60
    obtain ⟨a, a1, a9, rfl⟩ := len_nat hq
    obtain ⟨b, b1, b9, rfl⟩ := len_nat hv
    obtain ⟨n, hn, rfl⟩ := tn_exle (m := 60) (by decide) (Int32.not_lt.1 p0) (Int32.not_lt.1 p60)
    by_cases z : n = 0
    · subst z
      refine JJ_n h (-2) i (uPut i) ag_r (ag_uu ag_r) rfl rfl ?_ ?_
      · intro sc d y nx hd L st cu su K
        refine kCA_of (d := d + 499) (v := some (.int _)) (fun K => ?_)
        rw [km_122]
        show kWP sc (d + 499) 122 0 [.ref 0, .int (Int32.ofNat 0), .int (Int32.ofNat a), .int (Int32.ofNat b)] [] _ K = _
        simp only [e_X10_game_0, e_X10_game_1, e_X10_game_4, e_X10_game_5, e_X10_game_7, e_X10_game_10, e_X10_game_11, e_X10_game_14, e_X10_game_17, e_X10_game_18, e_X10_game_21, e_X10_game_24, e_X10_game_25, e_X10_game_26, e_X10_game_27, e_X10_game_30, e_X10_game_32, e_X10_game_33, e_X10_game_34, e_X10_game_37, e_X10_game_38, e_X10_game_39, e_X10_game_42, e_X10_game_43, e_X10_game_46, e_X10_game_47, e_X10_game_48, e_X10_game_51, ob_0, rk_0_8, ob_81, kcl_i, kcl_r, kcl_l, kcl_0, kcl_n, true_and, and_true, c_isLength, kb_0, p0, p60, hq, hv, not_true_eq_false, not_false_eq_true, and_self, if_false, if_true, show (Int32.ofNat 0 = 0) = True from eq_true rfl]
      · intro sc d y nx hd L st cu su K
        refine kCA_of (d := d + 499) (v := some (.int _)) (fun K => ?_)
        rw [km_234]
        show kWP sc (d + 499) 234 0 [.ref 91, .int (Int32.ofNat 0), .int (Int32.ofNat a), .int (Int32.ofNat b)] [] _ K = _
        simp only [e_X11_game_0, e_X11_game_1, e_X11_game_2, e_X11_game_5, e_X11_game_6, e_X11_game_7, e_X11_game_8, e_X11_game_11, e_X11_game_14, e_X11_game_17, e_X11_game_18, e_X11_game_19, e_X11_game_20, e_X11_game_23, e_X11_game_26, e_X11_game_29, e_X11_game_30, e_X11_game_31, e_X11_game_32, e_X11_game_35, e_X11_game_38, e_X11_game_41, e_X11_game_42, e_X11_game_43, e_X11_game_44, e_X11_game_47, e_X11_game_49, e_X11_game_50, e_X11_game_51, e_X11_game_52, e_X11_game_53, e_X11_game_56, e_X11_game_57, e_X11_game_60, e_X11_game_61, e_X11_game_62, ob_91, rk_91_37, ar_111, kcl_i, kcl_r, kcl_l, kcl_0, kcl_n, true_and, and_true, uP_0, l0, l1, l9, l60, m_in, m_inI, kb_0, p0, p60, hq, hv, not_true_eq_false, not_false_eq_true, and_self, if_false, if_true, show (Int32.ofNat 0 = 0) = True from eq_true rfl]
    · have z0 : (Int32.ofNat n = 0) = False := by rw [tn_z (by omega)]; exact eq_false z
      refine JJ_n h (Int32.ofNat (wK (pFill a b (i 82, i 83)).2 n (min a n))) (gP i (pFill a b (i 82, i 83))) (hP (uPut (gP i (pFill a b (i 82, i 83)))) (pLay a b (i 111, i 112))) (ag_gP ag_r) (ag_hP (ag_uu ag_r)) rfl rfl ?_ ?_
      · intro sc d y nx hd L st cu su K
        refine kCA_of (d := d + 499) (v := some (.int _)) (fun K => ?_)
        rw [km_122]
        show kWP sc (d + 499) 122 0 [.ref 0, .int (Int32.ofNat n), .int (Int32.ofNat a), .int (Int32.ofNat b)] [] _ K = _
        simp only [e_X10_game_0, e_X10_game_1, e_X10_game_4, e_X10_game_5, e_X10_game_7, e_X10_game_10, e_X10_game_11, e_X10_game_14, e_X10_game_17, e_X10_game_18, e_X10_game_21, e_X10_game_24, e_X10_game_25, e_X10_game_26, e_X10_game_27, e_X10_game_30, e_X10_game_32, e_X10_game_33, e_X10_game_34, e_X10_game_37, e_X10_game_38, e_X10_game_39, e_X10_game_42, e_X10_game_43, e_X10_game_46, e_X10_game_47, e_X10_game_48, e_X10_game_51, ob_0, rk_0_8, ob_81, kcl_i, kcl_r, kcl_l, kcl_0, kcl_n, true_and, and_true, c_isLength, kb_0, p0, p60, hq, hv, z0, not_true_eq_false, not_false_eq_true, and_self, if_false, if_true, c_fill a9 b9, c_opening a9 hn, wK_gP83 hn]
      · intro sc d y nx hd L st cu su K
        have c3 : kin (Int32.ofNat n) 61 = True := by rw [tn_kin (by omega)]; exact eq_true (by omega)
        have e1 := (game_eq (w := (i 82, i 83)) (u := (i 111, i 112)) a9 b9 n (by omega) hn).1
        have e2 := (lay_is (a := a) (b := b) (w := (i 111, i 112)) 60 n (by omega) hn).1
        have e2' : (pLay a b (i 111, i 112)).1 n = Int32.ofNat (wK (pLay a b (i 111, i 112)).2 n (min a (n - 1))) := e2
        have e3 : uPut (gP i (pFill a b (i 82, i 83))) 111 = i 111 := rfl
        have e4 : uPut (gP i (pFill a b (i 82, i 83))) 112 = i 112 := rfl
        refine kCA_of (d := d + 499) (v := some (.int _)) (fun K => ?_)
        rw [km_234]
        show kWP sc (d + 499) 234 0 [.ref 91, .int (Int32.ofNat n), .int (Int32.ofNat a), .int (Int32.ofNat b)] [] _ K = _
        simp only [e_X11_game_0, e_X11_game_1, e_X11_game_2, e_X11_game_5, e_X11_game_6, e_X11_game_7, e_X11_game_8, e_X11_game_11, e_X11_game_14, e_X11_game_17, e_X11_game_18, e_X11_game_19, e_X11_game_20, e_X11_game_23, e_X11_game_26, e_X11_game_29, e_X11_game_30, e_X11_game_31, e_X11_game_32, e_X11_game_35, e_X11_game_38, e_X11_game_41, e_X11_game_42, e_X11_game_43, e_X11_game_44, e_X11_game_47, e_X11_game_49, e_X11_game_50, e_X11_game_51, e_X11_game_52, e_X11_game_53, e_X11_game_56, e_X11_game_57, e_X11_game_60, e_X11_game_61, e_X11_game_62, ob_91, rk_91_37, ar_111, kcl_i, kcl_r, kcl_l, kcl_0, kcl_n, true_and, and_true, uP_0, l0, l1, l9, l60, m_in, m_inI, kb_0, p0, p60, hq, hv, z0, not_true_eq_false, not_false_eq_true, and_self, if_false, if_true, m_laysGame a9 b9, e3, e4, c3, cl_n (show n < 100000 by omega), hP_111 (show n < 61 by omega), e2', ← e1]
  · refine JJ_n h (-1) i (uPut i) ag_r (ag_uu ag_r) rfl rfl ?_ ?_
    · intro sc d y nx hd L st cu su K
      refine kCA_of (d := d + 499) (v := some (.int _)) (fun K => ?_)
      rw [km_122]
      show kWP sc (d + 499) 122 0 [.ref 0, .int p, .int q, .int v] [] _ K = _
      simp only [e_X10_game_0, e_X10_game_1, e_X10_game_4, e_X10_game_5, e_X10_game_7, e_X10_game_10, e_X10_game_11, e_X10_game_14, e_X10_game_17, e_X10_game_18, e_X10_game_21, e_X10_game_24, e_X10_game_25, e_X10_game_26, e_X10_game_27, e_X10_game_30, e_X10_game_32, e_X10_game_33, e_X10_game_34, e_X10_game_37, e_X10_game_38, e_X10_game_39, e_X10_game_42, e_X10_game_43, e_X10_game_46, e_X10_game_47, e_X10_game_48, e_X10_game_51, ob_0, rk_0_8, ob_81, kcl_i, kcl_r, kcl_l, kcl_0, kcl_n, true_and, and_true, c_isLength, kb_0]
      by_cases q1 : p < 0
      · simp only [q1, if_true]
      by_cases q2 : 60 < p
      · simp only [q1, q2, if_true, if_false]
      by_cases q3 : ¬ q < 1 ∧ ¬ 9 < q
      · have q4 : ¬ (¬ v < 1 ∧ ¬ 9 < v) := fun e => h0 ⟨⟨q1, q2⟩, q3, e⟩
        simp only [q1, q2, q3, q4, not_true_eq_false, not_false_eq_true, if_true, if_false, and_self]
      · simp only [q1, q2, q3, not_false_eq_true, if_true, if_false]
    · intro sc d y nx hd L st cu su K
      refine kCA_of (d := d + 499) (v := some (.int _)) (fun K => ?_)
      rw [km_234]
      show kWP sc (d + 499) 234 0 [.ref 91, .int p, .int q, .int v] [] _ K = _
      simp only [e_X11_game_0, e_X11_game_1, e_X11_game_2, e_X11_game_5, e_X11_game_6, e_X11_game_7, e_X11_game_8, e_X11_game_11, e_X11_game_14, e_X11_game_17, e_X11_game_18, e_X11_game_19, e_X11_game_20, e_X11_game_23, e_X11_game_26, e_X11_game_29, e_X11_game_30, e_X11_game_31, e_X11_game_32, e_X11_game_35, e_X11_game_38, e_X11_game_41, e_X11_game_42, e_X11_game_43, e_X11_game_44, e_X11_game_47, e_X11_game_49, e_X11_game_50, e_X11_game_51, e_X11_game_52, e_X11_game_53, e_X11_game_56, e_X11_game_57, e_X11_game_60, e_X11_game_61, e_X11_game_62, ob_91, rk_91_37, ar_111, kcl_i, kcl_r, kcl_l, kcl_0, kcl_n, true_and, and_true, uP_0, l0, l1, l9, l60, m_in, m_inI, kb_0]
      by_cases q1 : ¬ p < 0 ∧ ¬ 60 < p
      · by_cases q3 : ¬ q < 1 ∧ ¬ 9 < q
        · have q4 : ¬ (¬ v < 1 ∧ ¬ 9 < v) := fun e => h0 ⟨q1, q3, e⟩
          simp only [q1, q3, q4, not_true_eq_false, not_false_eq_true, if_true, if_false, and_self]
        · simp only [q1, q3, not_true_eq_false, not_false_eq_true, if_true, if_false, and_self]
      · simp only [q1, not_false_eq_true, if_true, if_false]
end TC
