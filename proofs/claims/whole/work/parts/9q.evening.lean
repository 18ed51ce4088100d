/-! an evening's text: the reference reads the acts -/
section TC
variable {sc : Nat × (Nat → Int32)} {d y nx : Nat} {hd : List (Int × Nat)} {L st : List Value} {S : kS} {cu su : Nat} {i : Nat → Nat → Int32} {l : Nat → Nat → Int64} {f t c b m : Nat} {sp : Nat → Nat} {K : Option (Option Value) → kS → Prop}
variable {N M Z S1 Q A B C A' B' C' S : Nat → Int32} {n n2 k x a o g c h p to z x' : Nat} {v r q u : Int32} {T : Nat → Int32} {j : Nat → Nat → Int32}
theorem g_takesOf {b n : Nat} (ho : o ≤ 80) (hx : x ≤ o) (hT : ∀ x, x < o → j 98 x = T x) (hc : kStA ≤ b ∧ b < kStA + kStr.length) (hn : kstl b = n) (h100 : n < 100000) : kCA sc (d + 2) 175 [.ref 91, .ref b] y nx hd L st ((120, cu, su), tS j x o g, l, kR f t sp) K = kWP sc (d + 2) y nx L (.int (if x < o then pAm (kchr b) n (T x) else -1) :: st) ((120, cu, su), tS j (if x < o ∧ ¬ pAm (kchr b) n (T x) = -1 then x + 1 else x) o g, l, kR f t sp) K := by
  rw [m_takesOf ho hx hc hn h100]
  by_cases q : x < o
  · rw [hT x q]
  · simp only [q, false_and, if_false]
theorem g_isDigit (ho : o ≤ 80) (hx : x ≤ o) (hT : ∀ x, x < o → j 98 x = T x) : kCA sc (d + 2) 173 [.ref 91] y nx hd L st ((120, cu, su), tS j x o g, l, kR f t sp) K = kWP sc (d + 2) y nx L (.int (kb (x < o ∧ isDg (T x) = true)) :: st) ((120, cu, su), tS j x o g, l, kR f t sp) K := by
  rw [m_isDigit ho hx]
  by_cases q : x < o
  · rw [hT x q]
  · simp only [q, false_and]
theorem ten_0 {v : Int32} : 10 * 0 + v - 48 = v - 48 := by rw [show (10 : Int32) * 0 = 0 from by decide, Int32.zero_add]
theorem g_number (ho : o ≤ 80) (hx : x ≤ o) (hT : ∀ x, x < o → j 98 x = T x) : kCA sc (d + 3) 176 [.ref 91, .int 1] y nx hd L st ((120, cu, su), tS j x o g, l, kR f t sp) K = kWP sc (d + 3) y nx L (.int (if x < o ∧ isDg (T x) = true then T x - 48 else -1) :: st) ((120, cu, su), tS j (if x < o ∧ isDg (T x) = true then x + 1 else x) o g, l, kR f t sp) K := by
  by_cases c : x < o ∧ isDg (T x) = true
  · rw [if_pos c, if_pos c]
    refine kCA_of (d := d + 2) (v := some (.int (T x - 48))) (fun K => ?_)
    rw [km_176]
    show kWP sc (d + 2) 176 0 [.ref 91, .int 1, .retAddr 0, .retAddr 0] [] _ K = _
    simp only [e_X11_number_0, e_X11_number_1, e_X11_number_4, e_X11_number_7, e_X11_number_8, e_X11_number_9, e_X11_number_10, e_X11_number_11, e_X11_number_12, e_X11_number_14, e_X11_number_15, e_X11_number_18, e_X11_number_19, e_X11_number_22, e_X11_number_25, e_X11_number_27, e_X11_number_28, e_X11_number_29, e_X11_number_30, e_X11_number_33, e_X11_number_34, e_X11_number_37, e_X11_number_38, e_X11_number_39, e_X11_number_41, e_X11_number_42, e_X11_number_43, e_X11_number_44, e_X11_number_45, e_X11_number_48, e_X11_number_49, e_X11_number_50, e_X11_number_53, e_X11_number_56, e_X11_number_59, e_X11_number_60, ob_91, rk_91_10, ar_98, kcl_i, kcl_r, kcl_l, kcl_0, kcl_n, true_and, and_true, g_isDigit ho hx hT, kb_0, c, and_self, not_true_eq_false, if_false]
    refine e_X11_number_13.trans ?_
    simp only [e_X11_number_0, e_X11_number_1, e_X11_number_4, e_X11_number_7, e_X11_number_8, e_X11_number_9, e_X11_number_10, e_X11_number_11, e_X11_number_12, e_X11_number_14, e_X11_number_15, e_X11_number_18, e_X11_number_19, e_X11_number_22, e_X11_number_25, e_X11_number_27, e_X11_number_28, e_X11_number_29, e_X11_number_30, e_X11_number_33, e_X11_number_34, e_X11_number_37, e_X11_number_38, e_X11_number_39, e_X11_number_41, e_X11_number_42, e_X11_number_43, e_X11_number_44, e_X11_number_45, e_X11_number_48, e_X11_number_49, e_X11_number_50, e_X11_number_53, e_X11_number_56, e_X11_number_59, e_X11_number_60, ob_91, rk_91_10, ar_98, kcl_i, kcl_r, kcl_l, kcl_0, kcl_n, true_and, and_true, show ((1 : Int32) ≤ 0) = False from eq_false (by decide), if_false, g_isDigit ho hx hT, kb_0, c, and_self, not_true_eq_false, tS_12, tS_98, hT x c.1, kin80 (show x < 80 by omega), cl_n (show x < 100000 by omega), ten_0, tn_s, tW_12, true_and]
    refine e_X11_number_13.trans ?_
    simp only [e_X11_number_0, e_X11_number_1, e_X11_number_4, e_X11_number_7, e_X11_number_8, e_X11_number_9, e_X11_number_10, e_X11_number_11, e_X11_number_12, e_X11_number_14, e_X11_number_15, e_X11_number_18, e_X11_number_19, e_X11_number_22, e_X11_number_25, e_X11_number_27, e_X11_number_28, e_X11_number_29, e_X11_number_30, e_X11_number_33, e_X11_number_34, e_X11_number_37, e_X11_number_38, e_X11_number_39, e_X11_number_41, e_X11_number_42, e_X11_number_43, e_X11_number_44, e_X11_number_45, e_X11_number_48, e_X11_number_49, e_X11_number_50, e_X11_number_53, e_X11_number_56, e_X11_number_59, e_X11_number_60, ob_91, rk_91_10, ar_98, kcl_i, kcl_r, kcl_l, kcl_0, kcl_n, true_and, and_true, show ((1 : Int32) ≤ 0 + 1) = True from eq_true (by decide), if_true]
  · rw [if_neg c, if_neg c]
    refine kCA_of (d := d + 2) (v := some (.int (-1))) (fun K => ?_)
    rw [km_176]
    show kWP sc (d + 2) 176 0 [.ref 91, .int 1, .retAddr 0, .retAddr 0] [] _ K = _
    simp only [e_X11_number_0, e_X11_number_1, e_X11_number_4, e_X11_number_7, e_X11_number_8, e_X11_number_9, e_X11_number_10, e_X11_number_11, e_X11_number_12, e_X11_number_14, e_X11_number_15, e_X11_number_18, e_X11_number_19, e_X11_number_22, e_X11_number_25, e_X11_number_27, e_X11_number_28, e_X11_number_29, e_X11_number_30, e_X11_number_33, e_X11_number_34, e_X11_number_37, e_X11_number_38, e_X11_number_39, e_X11_number_41, e_X11_number_42, e_X11_number_43, e_X11_number_44, e_X11_number_45, e_X11_number_48, e_X11_number_49, e_X11_number_50, e_X11_number_53, e_X11_number_56, e_X11_number_59, e_X11_number_60, ob_91, rk_91_10, ar_98, kcl_i, kcl_r, kcl_l, kcl_0, kcl_n, true_and, and_true, g_isDigit ho hx hT, kb_0, c, not_false_eq_true, if_true]
/-- the acts that are read, how many -/
def kS4 (i : Nat → Nat → Int32) (A B C : Nat → Int32) (k : Nat) : Nat → Nat → Int32 := fun e z => if e = 105 then A z else if e = 106 then B z else if e = 107 then C z else if e = 91 ∧ z = 32 then Int32.ofNat k else i e z
theorem kS4_1 : kS4 i A B C k 105 = A := by funext z; unfold kS4; rw [if_pos rfl]
theorem kS4_2 : kS4 i A B C k 106 = B := by funext z; unfold kS4; rw [if_neg (by decide), if_pos rfl]
theorem kS4_3 : kS4 i A B C k 107 = C := by funext z; unfold kS4; rw [if_neg (by decide), if_neg (by decide), if_pos rfl]
theorem kS4_32 : kS4 i A B C k 91 32 = Int32.ofNat k := rfl
theorem kS4_o {e : Nat} (h1 : e ≠ 105) (h2 : e ≠ 106) (h3 : e ≠ 107) (h4 : e ≠ 91) : kS4 i A B C k e = i e := by funext z; unfold kS4; rw [if_neg h1, if_neg h2, if_neg h3, if_neg (fun e => h4 e.1)]
theorem kS4_f {z : Nat} (h : z ≠ 32) : kS4 i A B C k 91 z = i 91 z := by unfold kS4; rw [if_neg (by decide), if_neg (by decide), if_neg (by decide), if_neg (fun e => h e.2)]
theorem tS4_1 : tS (kS4 i A B C k) x o g 105 = A := by rw [tS_o (by decide), kS4_1]
theorem tS4_2 : tS (kS4 i A B C k) x o g 106 = B := by rw [tS_o (by decide), kS4_2]
theorem tS4_3 : tS (kS4 i A B C k) x o g 107 = C := by rw [tS_o (by decide), kS4_3]
theorem tS4_32 : tS (kS4 i A B C k) x o g 91 32 = Int32.ofNat k := rfl
theorem kX_1 {y : Nat} {v : Int32} : kupi (tS (kS4 i A B C k) x o g) 105 y v = tS (kS4 i (kuf A y v) B C k) x o g := by
  rw [tU (by decide)]
  congr 1
  funext e z; unfold kupi kS4 kuf
  by_cases h1 : e = 105
  · subst h1; by_cases h2 : z = y
    · simp [h2]
    · simp [h2]
  · simp [h1]
theorem kX_2 {y : Nat} {v : Int32} : kupi (tS (kS4 i A B C k) x o g) 106 y v = tS (kS4 i A (kuf B y v) C k) x o g := by
  rw [tU (by decide)]
  congr 1
  funext e z; unfold kupi kS4 kuf
  by_cases h1 : e = 106
  · subst h1; by_cases h2 : z = y
    · simp [h2]
    · simp [h2]
  · simp [h1]
theorem kX_3 {y : Nat} {v : Int32} : kupi (tS (kS4 i A B C k) x o g) 107 y v = tS (kS4 i A B (kuf C y v) k) x o g := by
  rw [tU (by decide)]
  congr 1
  funext e z; unfold kupi kS4 kuf
  by_cases h1 : e = 107
  · subst h1; by_cases h2 : z = y
    · simp [h2]
    · simp [h2]
  · simp [h1]
theorem kX_32 {y : Nat} : kupi (tS (kS4 i A B C k) x o g) 91 32 (Int32.ofNat y) = tS (kS4 i A B C y) x o g := by
  funext e z; unfold kupi tS kS4
  by_cases h : e = 91 ∧ z = 32
  · obtain ⟨rfl, rfl⟩ := h; rfl
  · simp only [h, if_false]
/-- signs of acts -/
def sgO (v : Int32) : Int32 := if v = 110 then 5 else kdO v
theorem str11 : (kStA ≤ 1000011 ∧ 1000011 < kStA + kStr.length) ∧ kstl 1000011 = 6 := by decide +kernel
def c11 (k : Nat) : Int32 := match k with | 0 => 119 | 1 => 122 | 2 => 113 | 3 => 98 | 4 => 99 | _ => 110
theorem chr11 : ∀ k, k < 6 → kchr 1000011 k = c11 k := by decide +kernel
theorem sgO_c : ∀ k, k < 6 → sgO (c11 k) = Int32.ofNat k ∧ (¬ kdO (c11 k) = -1 ∨ c11 k = 110) := by decide +kernel
theorem pAm_sg : (pAm (kchr 1000011) 6 v = -1 ∧ ¬ (¬ kdO v = -1 ∨ v = 110)) ∨ ∃ k, k < 6 ∧ pAm (kchr 1000011) 6 v = Int32.ofNat k ∧ v = c11 k := by
  rcases @pAm_ok 6 (kchr 1000011) v with e | ⟨k, hk, e, e2⟩
  · refine Or.inl ⟨e, ?_⟩
    have hn : ∀ k, k < 6 → ¬ v = c11 k := by
      intro k hk hv
      unfold pAm at e
      cases hf : kfi (fun z => kchr 1000011 z = v) 6 0 with
      | none => exact kfi_none hf k (Nat.zero_le _) (by omega) (by rw [chr11 k hk]; exact hv.symm)
      | some z =>
        rw [hf] at e
        have := kfi_some hf
        exact m1_ne (by omega) e
    rintro (q | q)
    · apply q
      unfold kdO
      rw [if_neg (show ¬ v = 98 from hn 3 (by decide)), if_neg (show ¬ v = 99 from hn 4 (by decide)), if_neg (show ¬ v = 113 from hn 2 (by decide)), if_neg (show ¬ v = 119 from hn 0 (by decide)), if_neg (show ¬ v = 122 from hn 1 (by decide))]
    · exact hn 5 (by decide) q
  · exact Or.inr ⟨k, hk, e, by rw [← e2, chr11 k hk]⟩
theorem th_rng : isTh (v - 97) ↔ (¬ v < 97 ∧ ¬ 104 < v) := by
  constructor
  · intro h
    obtain ⟨k, hk, e⟩ := isTh_nat h
    have ev : v = Int32.ofNat (97 + k) := by
      rw [Int32.ofNat_add, ← e, show Int32.ofNat 97 = 97 from rfl, Int32.add_comm, Int32.sub_add_cancel]
    rw [ev, show (97 : Int32) = Int32.ofNat 97 from rfl, show (104 : Int32) = Int32.ofNat 104 from rfl, tn_lt (by omega) (by decide), tn_lt (by decide) (by omega)]
    omega
  · rintro ⟨h1, h2⟩
    obtain ⟨z, hz, e1, e2⟩ := off_nat (o := 97) (n := 8) (c := v) (by decide) (by decide) h1 (Int32.lt_of_le_of_lt (Int32.not_lt.1 h2) (by decide))
    have e2' : v - 97 = Int32.ofNat z := e2
    rw [e2']
    exact ⟨tn_nn (by omega), fun q => by rw [show (8 : Int32) = Int32.ofNat 8 from rfl, tn_le (by decide) (by omega)] at q; omega⟩
/-- what an act's third sign tells -/
def thO (T : Nat → Int32) (x : Nat) : Int32 := if wid (T x) = 2 then 0 else if T x = 113 then T (x + 2) - 48 else T (x + 2) - 97
theorem kin60 {a : Nat} (h : a < 60) : kin (Int32.ofNat a) 60 = True := by rw [tn_kin (by omega)]; exact eq_true h
theorem sg_lt0 {k : Nat} (h : k < 6) : ((0 : Int32) ≤ Int32.ofNat k) = True := tn_0 (by omega)
theorem dg_nn {v : Int32} (h : isDg v = true) : (v - 48 < 0) = False := by
  obtain ⟨k, hk, _, e⟩ := dg_ex h
  rw [e]; exact tn_n0 (by omega)
/-- an act, read -/
theorem act_ok (ho : o ≤ 60) (hx : x < o) (hk : k < 60) : ∃ (v : Int32) (x' : Nat) (A' B' C' : Nat → Int32),
    (∀ (i : Nat → Nat → Int32), (∀ x, x < o → i 98 x = T x) → ∀ (sc : Nat × (Nat → Int32)) (d y nx : Nat) (hd : List (Int × Nat)) (L st : List Value) (cu su : Nat) (l : Nat → Nat → Int64) (f t : Nat) (sp : Nat → Nat) (K : Option (Option Value) → kS → Prop) (g : Nat), kCA sc (d + 4) 209 [.ref 91] y nx hd L st ((120, cu, su), tS (kS4 i A B C k) x o g, l, kR f t sp) K = kWP sc (d + 4) y nx L (.int v :: st) ((120, cu, su), tS (kS4 i A' B' C' (k + 1)) x' o g, l, kR f t sp) K) ∧
    (∀ j, j < k → A' j = A j ∧ B' j = B j ∧ C' j = C j) ∧
    ((v = 1 ∧ x' = x + wid (T x) ∧ x' ≤ o ∧ A' k = sgO (T x) ∧ B' k = T (x + 1) - 48 ∧ C' k = thO T x ∧ stA (T x) 0 (T x) ∧ isDg (T (x + 1)) = true ∧ (wid (T x) = 3 → stA (T x) 2 (T (x + 2)))) ∨
     (v = 0 ∧ ((x' = x ∧ ¬ stA (T x) 0 (T x)) ∨ (x' = x + 1 ∧ stA (T x) 0 (T x) ∧ (x + 1 < o → ¬ isDg (T (x + 1)) = true)) ∨ (x' = x + 2 ∧ x + 2 ≤ o ∧ wid (T x) = 3 ∧ stA (T x) 0 (T x) ∧ isDg (T (x + 1)) = true ∧ (x + 2 < o → ¬ stA (T x) 2 (T (x + 2))))))) := by
  have h98 : ∀ (i : Nat → Nat → Int32) (A B C : Nat → Int32) (k : Nat), (∀ x, x < o → i 98 x = T x) → ∀ x, x < o → kS4 i A B C k 98 x = T x := fun i A B C k h x hx => by rw [kS4_o (by decide) (by decide) (by decide) (by decide)]; exact h x hx
  have o80 : o ≤ 80 := by omega
  have s11 := str11
  have st0 : ∀ v w, stA v 0 w ↔ (¬ kdO w = -1 ∨ w = 110) := fun v w => by unfold stA; rw [if_pos rfl]
  rcases @pAm_sg (T x) with ⟨p1, p2⟩ | ⟨s, hs, p1, p2⟩
  · refine ⟨0, x, kuf A k (-1), B, C, ?_, fun j hj => ⟨kuf_n (by omega), rfl, rfl⟩, Or.inr ⟨rfl, Or.inl ⟨rfl, fun q => p2 ((st0 _ _).1 q)⟩⟩⟩
    intro i hT sc d y nx hd L st cu su l f t sp K g
    refine kCA_of (d := d + 3) (v := some (.int 0)) (fun K => ?_)
    rw [km_209]
    show kWP sc (d + 3) 209 0 [.ref 91, .retAddr 0] [] _ K = _
    simp only [e_X11_readsAct_0, e_X11_readsAct_1, e_X11_readsAct_4, e_X11_readsAct_5, e_X11_readsAct_6, e_X11_readsAct_9, e_X11_readsAct_10, e_X11_readsAct_11, e_X11_readsAct_14, e_X11_readsAct_17, e_X11_readsAct_18, e_X11_readsAct_19, e_X11_readsAct_20, e_X11_readsAct_23, e_X11_readsAct_24, e_X11_readsAct_25, e_X11_readsAct_28, e_X11_readsAct_29, e_X11_readsAct_32, e_X11_readsAct_33, e_X11_readsAct_34, e_X11_readsAct_37, e_X11_readsAct_38, e_X11_readsAct_39, e_X11_readsAct_40, e_X11_readsAct_43, e_X11_readsAct_44, e_X11_readsAct_45, e_X11_readsAct_46, e_X11_readsAct_49, e_X11_readsAct_50, e_X11_readsAct_51, e_X11_readsAct_54, e_X11_readsAct_55, e_X11_readsAct_56, e_X11_readsAct_57, e_X11_readsAct_58, e_X11_readsAct_61, e_X11_readsAct_62, e_X11_readsAct_63, e_X11_readsAct_66, e_X11_readsAct_67, e_X11_readsAct_70, e_X11_readsAct_71, e_X11_readsAct_72, e_X11_readsAct_73, e_X11_readsAct_76, e_X11_readsAct_77, e_X11_readsAct_80, e_X11_readsAct_81, e_X11_readsAct_82, e_X11_readsAct_83, e_X11_readsAct_86, e_X11_readsAct_87, e_X11_readsAct_90, e_X11_readsAct_91, e_X11_readsAct_92, e_X11_readsAct_95, e_X11_readsAct_96, e_X11_readsAct_99, e_X11_readsAct_100, e_X11_readsAct_101, e_X11_readsAct_102, e_X11_readsAct_105, e_X11_readsAct_106, e_X11_readsAct_107, e_X11_readsAct_110, e_X11_readsAct_111, e_X11_readsAct_112, e_X11_readsAct_113, e_X11_readsAct_116, e_X11_readsAct_117, e_X11_readsAct_118, e_X11_readsAct_121, e_X11_readsAct_124, e_X11_readsAct_125, e_X11_readsAct_127, e_X11_readsAct_130, e_X11_readsAct_131, e_X11_readsAct_132, e_X11_readsAct_135, e_X11_readsAct_136, e_X11_readsAct_137, e_X11_readsAct_140, e_X11_readsAct_141, e_X11_readsAct_144, e_X11_readsAct_145, ob_91, rk_91_29, ar_105, rk_91_30, ar_106, rk_91_31, ar_107, kcl_i, kcl_r, kcl_l, kcl_0, kcl_n, true_and, and_true, tS4_32, g_takesOf o80 (Nat.le_of_lt hx) (h98 i A B C k hT) s11.1 s11.2 (show 6 < 100000 by decide), hx, if_true, p1, not_true_eq_false, and_false, if_false, kin60 hk, cl_n (show k < 100000 by omega), kX_1, tn_s, kX_32, tS4_1, kuf_s, show ((0 : Int32) ≤ -1) = False from eq_false (by decide), kbool_0, true_and]
  · obtain ⟨g1, g2⟩ := sgO_c s hs
    have es : sgO (T x) = Int32.ofNat s := by rw [p2]; exact g1
    have hst : stA (T x) 0 (T x) := (st0 _ _).2 (by rw [p2]; exact g2)
    have ns : ¬ Int32.ofNat s = -1 := m1_ne (by omega)
    have s0 := sg_lt0 hs
    have e1 : (Int32.ofNat s = 1) = (s = 1) := by rw [show (1 : Int32) = Int32.ofNat 1 from rfl, tn_eq (by omega) (by decide)]
    have e5 : (Int32.ofNat s = 5) = (s = 5) := by rw [show (5 : Int32) = Int32.ofNat 5 from rfl, tn_eq (by omega) (by decide)]
    have e2 : (Int32.ofNat s = 2) = (s = 2) := by rw [show (2 : Int32) = Int32.ofNat 2 from rfl, tn_eq (by omega) (by decide)]
    have hw : wid (T x) = if s = 1 ∨ s = 5 then 2 else 3 := by
      rw [p2]
      exact (show ∀ s, s < 6 → wid (c11 s) = if s = 1 ∨ s = 5 then 2 else 3 from by decide +kernel) s hs
    have h113 : (T x = 113) ↔ s = 2 := by
      rw [p2]
      exact (show ∀ s, s < 6 → (c11 s = 113 ↔ s = 2) from by decide +kernel) s hs
    by_cases c1 : x + 1 < o ∧ isDg (T (x + 1)) = true
    · have nn := dg_nn c1.2
      by_cases c2 : s = 1 ∨ s = 5
      · have w2 : wid (T x) = 2 := by rw [hw, if_pos c2]
        refine ⟨1, x + 2, kuf A k (Int32.ofNat s), kuf B k (T (x + 1) - 48), kuf C k 0, ?_, fun j hj => ⟨kuf_n (by omega), kuf_n (by omega), kuf_n (by omega)⟩, Or.inl ⟨rfl, by rw [w2], by omega, by rw [kuf_s, es], kuf_s, ?_, hst, c1.2, fun q => by rw [w2] at q; cases q⟩⟩
        · intro i hT sc d y nx hd L st cu su l f t sp K g
          refine kCA_of (d := d + 3) (v := some (.int 1)) (fun K => ?_)
          rw [km_209]
          show kWP sc (d + 3) 209 0 [.ref 91, .retAddr 0] [] _ K = _
          simp only [e_X11_readsAct_0, e_X11_readsAct_1, e_X11_readsAct_4, e_X11_readsAct_5, e_X11_readsAct_6, e_X11_readsAct_9, e_X11_readsAct_10, e_X11_readsAct_11, e_X11_readsAct_14, e_X11_readsAct_17, e_X11_readsAct_18, e_X11_readsAct_19, e_X11_readsAct_20, e_X11_readsAct_23, e_X11_readsAct_24, e_X11_readsAct_25, e_X11_readsAct_28, e_X11_readsAct_29, e_X11_readsAct_32, e_X11_readsAct_33, e_X11_readsAct_34, e_X11_readsAct_37, e_X11_readsAct_38, e_X11_readsAct_39, e_X11_readsAct_40, e_X11_readsAct_43, e_X11_readsAct_44, e_X11_readsAct_45, e_X11_readsAct_46, e_X11_readsAct_49, e_X11_readsAct_50, e_X11_readsAct_51, e_X11_readsAct_54, e_X11_readsAct_55, e_X11_readsAct_56, e_X11_readsAct_57, e_X11_readsAct_58, e_X11_readsAct_61, e_X11_readsAct_62, e_X11_readsAct_63, e_X11_readsAct_66, e_X11_readsAct_67, e_X11_readsAct_70, e_X11_readsAct_71, e_X11_readsAct_72, e_X11_readsAct_73, e_X11_readsAct_76, e_X11_readsAct_77, e_X11_readsAct_80, e_X11_readsAct_81, e_X11_readsAct_82, e_X11_readsAct_83, e_X11_readsAct_86, e_X11_readsAct_87, e_X11_readsAct_90, e_X11_readsAct_91, e_X11_readsAct_92, e_X11_readsAct_95, e_X11_readsAct_96, e_X11_readsAct_99, e_X11_readsAct_100, e_X11_readsAct_101, e_X11_readsAct_102, e_X11_readsAct_105, e_X11_readsAct_106, e_X11_readsAct_107, e_X11_readsAct_110, e_X11_readsAct_111, e_X11_readsAct_112, e_X11_readsAct_113, e_X11_readsAct_116, e_X11_readsAct_117, e_X11_readsAct_118, e_X11_readsAct_121, e_X11_readsAct_124, e_X11_readsAct_125, e_X11_readsAct_127, e_X11_readsAct_130, e_X11_readsAct_131, e_X11_readsAct_132, e_X11_readsAct_135, e_X11_readsAct_136, e_X11_readsAct_137, e_X11_readsAct_140, e_X11_readsAct_141, e_X11_readsAct_144, e_X11_readsAct_145, ob_91, rk_91_29, ar_105, rk_91_30, ar_106, rk_91_31, ar_107, kcl_i, kcl_r, kcl_l, kcl_0, kcl_n, true_and, and_true, tS4_32, g_takesOf o80 (Nat.le_of_lt hx) (h98 i A B C k hT) s11.1 s11.2 (show 6 < 100000 by decide), hx, if_true, p1, ns, not_false_eq_true, and_self, kin60 hk, cl_n (show k < 100000 by omega), kX_1, tn_s, kX_32, tS4_1, kuf_s, s0, g_number o80 (show x + 1 ≤ o by omega) (h98 i _ B C (k + 1) hT), c1, kX_2, kX_3, tS4_2, nn, if_false, e1, e5, kbool_1, true_and]
          rcases c2 with q | q
          · simp only [q, if_true]
          · have q1 : ¬ s = 1 := by omega
            simp only [q1, q, if_true, if_false, not_true_eq_false, ite_self]
        · rw [kuf_s]; unfold thO; rw [if_pos w2]
      · have w3 : wid (T x) = 3 := by rw [hw, if_neg c2]
        have q1 : ¬ s = 1 := fun q => c2 (Or.inl q)
        have q5 : ¬ s = 5 := fun q => c2 (Or.inr q)
        have w32 : ¬ wid (T x) = 2 := by rw [w3]; decide
        by_cases c3 : s = 2
        · have st2 : ∀ w, stA (T x) 2 w ↔ isDg w = true := fun w => by unfold stA; rw [if_neg (by decide), if_neg (fun q => q.2 (h113.2 c3))]
          have run : ∀ (i : Nat → Nat → Int32), (∀ x, x < o → i 98 x = T x) → ∀ (sc : Nat × (Nat → Int32)) (d cu su : Nat) (l : Nat → Nat → Int64) (f t : Nat) (sp : Nat → Nat) (K : Option (Option Value) → kS → Prop) (g : Nat), kWP sc (d + 3) 209 0 [.ref 91, .retAddr 0] [] ((120, cu, su), tS (kS4 i A B C k) x o g, l, kR f t sp) K = kWP sc (d + 3) 209 131 [.ref 91, .int (Int32.ofNat k)] [] ((120, cu, su), tS (kS4 i (kuf A k (Int32.ofNat s)) (kuf B k (T (x + 1) - 48)) (kuf (kuf C k 0) k (if x + 1 + 1 < o ∧ isDg (T (x + 1 + 1)) = true then T (x + 1 + 1) - 48 else -1)) (k + 1)) (if x + 1 + 1 < o ∧ isDg (T (x + 1 + 1)) = true then x + 1 + 1 + 1 else x + 1 + 1) o g, l, kR f t sp) K := by
            intro i hT sc d cu su l f t sp K g
            simp only [e_X11_readsAct_0, e_X11_readsAct_1, e_X11_readsAct_4, e_X11_readsAct_5, e_X11_readsAct_6, e_X11_readsAct_9, e_X11_readsAct_10, e_X11_readsAct_11, e_X11_readsAct_14, e_X11_readsAct_17, e_X11_readsAct_18, e_X11_readsAct_19, e_X11_readsAct_20, e_X11_readsAct_23, e_X11_readsAct_24, e_X11_readsAct_25, e_X11_readsAct_28, e_X11_readsAct_29, e_X11_readsAct_32, e_X11_readsAct_33, e_X11_readsAct_34, e_X11_readsAct_37, e_X11_readsAct_38, e_X11_readsAct_39, e_X11_readsAct_40, e_X11_readsAct_43, e_X11_readsAct_44, e_X11_readsAct_45, e_X11_readsAct_46, e_X11_readsAct_49, e_X11_readsAct_50, e_X11_readsAct_51, e_X11_readsAct_54, e_X11_readsAct_55, e_X11_readsAct_56, e_X11_readsAct_57, e_X11_readsAct_58, e_X11_readsAct_61, e_X11_readsAct_62, e_X11_readsAct_63, e_X11_readsAct_66, e_X11_readsAct_67, e_X11_readsAct_70, e_X11_readsAct_71, e_X11_readsAct_72, e_X11_readsAct_73, e_X11_readsAct_76, e_X11_readsAct_77, e_X11_readsAct_80, e_X11_readsAct_81, e_X11_readsAct_82, e_X11_readsAct_83, e_X11_readsAct_86, e_X11_readsAct_87, e_X11_readsAct_90, e_X11_readsAct_91, e_X11_readsAct_92, e_X11_readsAct_95, e_X11_readsAct_96, e_X11_readsAct_99, e_X11_readsAct_100, e_X11_readsAct_101, e_X11_readsAct_102, e_X11_readsAct_105, e_X11_readsAct_106, e_X11_readsAct_107, e_X11_readsAct_110, e_X11_readsAct_111, e_X11_readsAct_112, e_X11_readsAct_113, e_X11_readsAct_116, e_X11_readsAct_117, e_X11_readsAct_118, e_X11_readsAct_121, e_X11_readsAct_124, e_X11_readsAct_125, e_X11_readsAct_127, e_X11_readsAct_130, e_X11_readsAct_132, e_X11_readsAct_135, e_X11_readsAct_136, e_X11_readsAct_137, e_X11_readsAct_140, e_X11_readsAct_141, e_X11_readsAct_144, e_X11_readsAct_145, ob_91, rk_91_29, ar_105, rk_91_30, ar_106, rk_91_31, ar_107, kcl_i, kcl_r, kcl_l, kcl_0, kcl_n, true_and, and_true, tS4_32, g_takesOf o80 (Nat.le_of_lt hx) (h98 i A B C k hT) s11.1 s11.2 (show 6 < 100000 by decide), hx, if_true, p1, ns, not_false_eq_true, and_self, kin60 hk, cl_n (show k < 100000 by omega), kX_1, tn_s, kX_32, tS4_1, kuf_s, s0, g_number o80 (show x + 1 ≤ o by omega) (h98 i _ B C (k + 1) hT), c1, kX_2, kX_3, tS4_2, nn, if_false, e1, e5, e2, q1, q5, eq_true c3, not_true_eq_false, g_number o80 (show x + 1 + 1 ≤ o by omega) (h98 i _ _ _ (k + 1) hT), true_and]
          by_cases c4 : x + 1 + 1 < o ∧ isDg (T (x + 1 + 1)) = true
          · refine ⟨1, x + 3, kuf A k (Int32.ofNat s), kuf B k (T (x + 1) - 48), kuf (kuf C k 0) k (T (x + 1 + 1) - 48), ?_, fun j hj => ⟨kuf_n (by omega), kuf_n (by omega), by rw [kuf_n (by omega), kuf_n (by omega)]⟩, Or.inl ⟨rfl, by rw [w3], by omega, by rw [kuf_s, es], kuf_s, ?_, hst, c1.2, fun _ => (st2 _).2 c4.2⟩⟩
            · intro i hT sc d y nx hd L st cu su l f t sp K g
              refine kCA_of (d := d + 3) (v := some (.int 1)) (fun K => ?_)
              rw [km_209]
              show kWP sc (d + 3) 209 0 [.ref 91, .retAddr 0] [] _ K = _
              rw [run i hT, if_pos c4, if_pos c4]
              simp only [e_X11_readsAct_0, e_X11_readsAct_1, e_X11_readsAct_4, e_X11_readsAct_5, e_X11_readsAct_6, e_X11_readsAct_9, e_X11_readsAct_10, e_X11_readsAct_11, e_X11_readsAct_14, e_X11_readsAct_17, e_X11_readsAct_18, e_X11_readsAct_19, e_X11_readsAct_20, e_X11_readsAct_23, e_X11_readsAct_24, e_X11_readsAct_25, e_X11_readsAct_28, e_X11_readsAct_29, e_X11_readsAct_32, e_X11_readsAct_33, e_X11_readsAct_34, e_X11_readsAct_37, e_X11_readsAct_38, e_X11_readsAct_39, e_X11_readsAct_40, e_X11_readsAct_43, e_X11_readsAct_44, e_X11_readsAct_45, e_X11_readsAct_46, e_X11_readsAct_49, e_X11_readsAct_50, e_X11_readsAct_51, e_X11_readsAct_54, e_X11_readsAct_55, e_X11_readsAct_56, e_X11_readsAct_57, e_X11_readsAct_58, e_X11_readsAct_61, e_X11_readsAct_62, e_X11_readsAct_63, e_X11_readsAct_66, e_X11_readsAct_67, e_X11_readsAct_70, e_X11_readsAct_71, e_X11_readsAct_72, e_X11_readsAct_73, e_X11_readsAct_76, e_X11_readsAct_77, e_X11_readsAct_80, e_X11_readsAct_81, e_X11_readsAct_82, e_X11_readsAct_83, e_X11_readsAct_86, e_X11_readsAct_87, e_X11_readsAct_90, e_X11_readsAct_91, e_X11_readsAct_92, e_X11_readsAct_95, e_X11_readsAct_96, e_X11_readsAct_99, e_X11_readsAct_100, e_X11_readsAct_101, e_X11_readsAct_102, e_X11_readsAct_105, e_X11_readsAct_106, e_X11_readsAct_107, e_X11_readsAct_110, e_X11_readsAct_111, e_X11_readsAct_112, e_X11_readsAct_113, e_X11_readsAct_116, e_X11_readsAct_117, e_X11_readsAct_118, e_X11_readsAct_121, e_X11_readsAct_124, e_X11_readsAct_125, e_X11_readsAct_127, e_X11_readsAct_130, e_X11_readsAct_131, e_X11_readsAct_132, e_X11_readsAct_135, e_X11_readsAct_136, e_X11_readsAct_137, e_X11_readsAct_140, e_X11_readsAct_141, e_X11_readsAct_144, e_X11_readsAct_145, ob_91, rk_91_29, ar_105, rk_91_30, ar_106, rk_91_31, ar_107, kcl_i, kcl_r, kcl_l, kcl_0, kcl_n, true_and, and_true, tS4_3, kuf_s, kin60 hk, cl_n (show k < 100000 by omega), dg_nn c4.2, if_false, kbool_1, true_and]
            · rw [kuf_s]; unfold thO; rw [if_neg w32, if_pos (h113.2 c3)]
          · refine ⟨0, x + 2, kuf A k (Int32.ofNat s), kuf B k (T (x + 1) - 48), kuf (kuf C k 0) k (-1), ?_, fun j hj => ⟨kuf_n (by omega), kuf_n (by omega), by rw [kuf_n (by omega), kuf_n (by omega)]⟩, Or.inr ⟨rfl, Or.inr (Or.inr ⟨rfl, by omega, w3, hst, c1.2, fun z1 z2 => c4 ⟨z1, (st2 _).1 z2⟩⟩)⟩⟩
            intro i hT sc d y nx hd L st cu su l f t sp K g
            refine kCA_of (d := d + 3) (v := some (.int 0)) (fun K => ?_)
            rw [km_209]
            show kWP sc (d + 3) 209 0 [.ref 91, .retAddr 0] [] _ K = _
            rw [run i hT, if_neg c4, if_neg c4]
            simp only [e_X11_readsAct_0, e_X11_readsAct_1, e_X11_readsAct_4, e_X11_readsAct_5, e_X11_readsAct_6, e_X11_readsAct_9, e_X11_readsAct_10, e_X11_readsAct_11, e_X11_readsAct_14, e_X11_readsAct_17, e_X11_readsAct_18, e_X11_readsAct_19, e_X11_readsAct_20, e_X11_readsAct_23, e_X11_readsAct_24, e_X11_readsAct_25, e_X11_readsAct_28, e_X11_readsAct_29, e_X11_readsAct_32, e_X11_readsAct_33, e_X11_readsAct_34, e_X11_readsAct_37, e_X11_readsAct_38, e_X11_readsAct_39, e_X11_readsAct_40, e_X11_readsAct_43, e_X11_readsAct_44, e_X11_readsAct_45, e_X11_readsAct_46, e_X11_readsAct_49, e_X11_readsAct_50, e_X11_readsAct_51, e_X11_readsAct_54, e_X11_readsAct_55, e_X11_readsAct_56, e_X11_readsAct_57, e_X11_readsAct_58, e_X11_readsAct_61, e_X11_readsAct_62, e_X11_readsAct_63, e_X11_readsAct_66, e_X11_readsAct_67, e_X11_readsAct_70, e_X11_readsAct_71, e_X11_readsAct_72, e_X11_readsAct_73, e_X11_readsAct_76, e_X11_readsAct_77, e_X11_readsAct_80, e_X11_readsAct_81, e_X11_readsAct_82, e_X11_readsAct_83, e_X11_readsAct_86, e_X11_readsAct_87, e_X11_readsAct_90, e_X11_readsAct_91, e_X11_readsAct_92, e_X11_readsAct_95, e_X11_readsAct_96, e_X11_readsAct_99, e_X11_readsAct_100, e_X11_readsAct_101, e_X11_readsAct_102, e_X11_readsAct_105, e_X11_readsAct_106, e_X11_readsAct_107, e_X11_readsAct_110, e_X11_readsAct_111, e_X11_readsAct_112, e_X11_readsAct_113, e_X11_readsAct_116, e_X11_readsAct_117, e_X11_readsAct_118, e_X11_readsAct_121, e_X11_readsAct_124, e_X11_readsAct_125, e_X11_readsAct_127, e_X11_readsAct_130, e_X11_readsAct_131, e_X11_readsAct_132, e_X11_readsAct_135, e_X11_readsAct_136, e_X11_readsAct_137, e_X11_readsAct_140, e_X11_readsAct_141, e_X11_readsAct_144, e_X11_readsAct_145, ob_91, rk_91_29, ar_105, rk_91_30, ar_106, rk_91_31, ar_107, kcl_i, kcl_r, kcl_l, kcl_0, kcl_n, true_and, and_true, tS4_3, kuf_s, kin60 hk, cl_n (show k < 100000 by omega), show ((-1 : Int32) < 0) = True from eq_true (by decide), if_true, kbool_0, true_and]
        · have n113 : ¬ T x = 113 := fun q => c3 (h113.1 q)
          have st2 : ∀ w, stA (T x) 2 w ↔ isTh (w - 97) := fun w => by unfold stA; rw [if_neg (by decide), if_pos ⟨rfl, n113⟩]; exact th_rng.symm
          have s6 := str6
          have run : ∀ (i : Nat → Nat → Int32), (∀ x, x < o → i 98 x = T x) → ∀ (sc : Nat × (Nat → Int32)) (d cu su : Nat) (l : Nat → Nat → Int64) (f t : Nat) (sp : Nat → Nat) (K : Option (Option Value) → kS → Prop) (g : Nat), kWP sc (d + 3) 209 0 [.ref 91, .retAddr 0] [] ((120, cu, su), tS (kS4 i A B C k) x o g, l, kR f t sp) K = kWP sc (d + 3) 209 131 [.ref 91, .int (Int32.ofNat k)] [] ((120, cu, su), tS (kS4 i (kuf A k (Int32.ofNat s)) (kuf B k (T (x + 1) - 48)) (kuf (kuf C k 0) k (if x + 1 + 1 < o then pAm (kchr 1000006) 8 (T (x + 1 + 1)) else -1)) (k + 1)) (if x + 1 + 1 < o ∧ ¬ pAm (kchr 1000006) 8 (T (x + 1 + 1)) = -1 then x + 1 + 1 + 1 else x + 1 + 1) o g, l, kR f t sp) K := by
            intro i hT sc d cu su l f t sp K g
            simp only [e_X11_readsAct_0, e_X11_readsAct_1, e_X11_readsAct_4, e_X11_readsAct_5, e_X11_readsAct_6, e_X11_readsAct_9, e_X11_readsAct_10, e_X11_readsAct_11, e_X11_readsAct_14, e_X11_readsAct_17, e_X11_readsAct_18, e_X11_readsAct_19, e_X11_readsAct_20, e_X11_readsAct_23, e_X11_readsAct_24, e_X11_readsAct_25, e_X11_readsAct_28, e_X11_readsAct_29, e_X11_readsAct_32, e_X11_readsAct_33, e_X11_readsAct_34, e_X11_readsAct_37, e_X11_readsAct_38, e_X11_readsAct_39, e_X11_readsAct_40, e_X11_readsAct_43, e_X11_readsAct_44, e_X11_readsAct_45, e_X11_readsAct_46, e_X11_readsAct_49, e_X11_readsAct_50, e_X11_readsAct_51, e_X11_readsAct_54, e_X11_readsAct_55, e_X11_readsAct_56, e_X11_readsAct_57, e_X11_readsAct_58, e_X11_readsAct_61, e_X11_readsAct_62, e_X11_readsAct_63, e_X11_readsAct_66, e_X11_readsAct_67, e_X11_readsAct_70, e_X11_readsAct_71, e_X11_readsAct_72, e_X11_readsAct_73, e_X11_readsAct_76, e_X11_readsAct_77, e_X11_readsAct_80, e_X11_readsAct_81, e_X11_readsAct_82, e_X11_readsAct_83, e_X11_readsAct_86, e_X11_readsAct_87, e_X11_readsAct_90, e_X11_readsAct_91, e_X11_readsAct_92, e_X11_readsAct_95, e_X11_readsAct_96, e_X11_readsAct_99, e_X11_readsAct_100, e_X11_readsAct_101, e_X11_readsAct_102, e_X11_readsAct_105, e_X11_readsAct_106, e_X11_readsAct_107, e_X11_readsAct_110, e_X11_readsAct_111, e_X11_readsAct_112, e_X11_readsAct_113, e_X11_readsAct_116, e_X11_readsAct_117, e_X11_readsAct_118, e_X11_readsAct_121, e_X11_readsAct_124, e_X11_readsAct_125, e_X11_readsAct_127, e_X11_readsAct_130, e_X11_readsAct_132, e_X11_readsAct_135, e_X11_readsAct_136, e_X11_readsAct_137, e_X11_readsAct_140, e_X11_readsAct_141, e_X11_readsAct_144, e_X11_readsAct_145, ob_91, rk_91_29, ar_105, rk_91_30, ar_106, rk_91_31, ar_107, kcl_i, kcl_r, kcl_l, kcl_0, kcl_n, true_and, and_true, tS4_32, g_takesOf o80 (Nat.le_of_lt hx) (h98 i A B C k hT) s11.1 s11.2 (show 6 < 100000 by decide), hx, if_true, p1, ns, not_false_eq_true, and_self, kin60 hk, cl_n (show k < 100000 by omega), kX_1, tn_s, kX_32, tS4_1, kuf_s, s0, g_number o80 (show x + 1 ≤ o by omega) (h98 i _ B C (k + 1) hT), c1, kX_2, kX_3, tS4_2, nn, if_false, e1, e5, e2, q1, q5, c3, g_takesOf o80 (show x + 1 + 1 ≤ o by omega) (h98 i _ _ _ (k + 1) hT) s6.1 s6.2 (show 8 < 100000 by decide), true_and]
          by_cases c4 : x + 1 + 1 < o ∧ isTh (T (x + 1 + 1) - 97)
          · have ep : pAm (kchr 1000006) 8 (T (x + 1 + 1)) = T (x + 1 + 1) - 97 := by rw [pAm_th, if_pos c4.2]
            obtain ⟨z, hz, ez⟩ := isTh_nat c4.2
            have np : ¬ T (x + 1 + 1) - 97 = -1 := by rw [ez]; exact m1_ne (by omega)
            have nz : (T (x + 1 + 1) - 97 < 0) = False := by rw [ez]; exact tn_n0 (by omega)
            refine ⟨1, x + 3, kuf A k (Int32.ofNat s), kuf B k (T (x + 1) - 48), kuf (kuf C k 0) k (T (x + 1 + 1) - 97), ?_, fun j hj => ⟨kuf_n (by omega), kuf_n (by omega), by rw [kuf_n (by omega), kuf_n (by omega)]⟩, Or.inl ⟨rfl, by rw [w3], by omega, by rw [kuf_s, es], kuf_s, ?_, hst, c1.2, fun _ => (st2 _).2 c4.2⟩⟩
            · intro i hT sc d y nx hd L st cu su l f t sp K g
              refine kCA_of (d := d + 3) (v := some (.int 1)) (fun K => ?_)
              rw [km_209]
              show kWP sc (d + 3) 209 0 [.ref 91, .retAddr 0] [] _ K = _
              rw [run i hT, if_pos c4.1, ep, if_pos ⟨c4.1, np⟩]
              simp only [e_X11_readsAct_0, e_X11_readsAct_1, e_X11_readsAct_4, e_X11_readsAct_5, e_X11_readsAct_6, e_X11_readsAct_9, e_X11_readsAct_10, e_X11_readsAct_11, e_X11_readsAct_14, e_X11_readsAct_17, e_X11_readsAct_18, e_X11_readsAct_19, e_X11_readsAct_20, e_X11_readsAct_23, e_X11_readsAct_24, e_X11_readsAct_25, e_X11_readsAct_28, e_X11_readsAct_29, e_X11_readsAct_32, e_X11_readsAct_33, e_X11_readsAct_34, e_X11_readsAct_37, e_X11_readsAct_38, e_X11_readsAct_39, e_X11_readsAct_40, e_X11_readsAct_43, e_X11_readsAct_44, e_X11_readsAct_45, e_X11_readsAct_46, e_X11_readsAct_49, e_X11_readsAct_50, e_X11_readsAct_51, e_X11_readsAct_54, e_X11_readsAct_55, e_X11_readsAct_56, e_X11_readsAct_57, e_X11_readsAct_58, e_X11_readsAct_61, e_X11_readsAct_62, e_X11_readsAct_63, e_X11_readsAct_66, e_X11_readsAct_67, e_X11_readsAct_70, e_X11_readsAct_71, e_X11_readsAct_72, e_X11_readsAct_73, e_X11_readsAct_76, e_X11_readsAct_77, e_X11_readsAct_80, e_X11_readsAct_81, e_X11_readsAct_82, e_X11_readsAct_83, e_X11_readsAct_86, e_X11_readsAct_87, e_X11_readsAct_90, e_X11_readsAct_91, e_X11_readsAct_92, e_X11_readsAct_95, e_X11_readsAct_96, e_X11_readsAct_99, e_X11_readsAct_100, e_X11_readsAct_101, e_X11_readsAct_102, e_X11_readsAct_105, e_X11_readsAct_106, e_X11_readsAct_107, e_X11_readsAct_110, e_X11_readsAct_111, e_X11_readsAct_112, e_X11_readsAct_113, e_X11_readsAct_116, e_X11_readsAct_117, e_X11_readsAct_118, e_X11_readsAct_121, e_X11_readsAct_124, e_X11_readsAct_125, e_X11_readsAct_127, e_X11_readsAct_130, e_X11_readsAct_131, e_X11_readsAct_132, e_X11_readsAct_135, e_X11_readsAct_136, e_X11_readsAct_137, e_X11_readsAct_140, e_X11_readsAct_141, e_X11_readsAct_144, e_X11_readsAct_145, ob_91, rk_91_29, ar_105, rk_91_30, ar_106, rk_91_31, ar_107, kcl_i, kcl_r, kcl_l, kcl_0, kcl_n, true_and, and_true, tS4_3, kuf_s, kin60 hk, cl_n (show k < 100000 by omega), nz, if_false, kbool_1, true_and]
            · rw [kuf_s]; unfold thO; rw [if_neg w32, if_neg n113]
          · have ep : (if x + 1 + 1 < o then pAm (kchr 1000006) 8 (T (x + 1 + 1)) else -1) = (-1 : Int32) := by
              by_cases q : x + 1 + 1 < o
              · rw [if_pos q, pAm_th, if_neg (fun z => c4 ⟨q, z⟩)]
              · rw [if_neg q]
            have ep2 : ¬ (x + 1 + 1 < o ∧ ¬ pAm (kchr 1000006) 8 (T (x + 1 + 1)) = -1) := by
              rintro ⟨q, z⟩
              rw [if_pos q] at ep
              exact z ep
            refine ⟨0, x + 2, kuf A k (Int32.ofNat s), kuf B k (T (x + 1) - 48), kuf (kuf C k 0) k (-1), ?_, fun j hj => ⟨kuf_n (by omega), kuf_n (by omega), by rw [kuf_n (by omega), kuf_n (by omega)]⟩, Or.inr ⟨rfl, Or.inr (Or.inr ⟨rfl, by omega, w3, hst, c1.2, fun z1 z2 => c4 ⟨z1, (st2 _).1 z2⟩⟩)⟩⟩
            intro i hT sc d y nx hd L st cu su l f t sp K g
            refine kCA_of (d := d + 3) (v := some (.int 0)) (fun K => ?_)
            rw [km_209]
            show kWP sc (d + 3) 209 0 [.ref 91, .retAddr 0] [] _ K = _
            rw [run i hT, ep, if_neg ep2]
            simp only [e_X11_readsAct_0, e_X11_readsAct_1, e_X11_readsAct_4, e_X11_readsAct_5, e_X11_readsAct_6, e_X11_readsAct_9, e_X11_readsAct_10, e_X11_readsAct_11, e_X11_readsAct_14, e_X11_readsAct_17, e_X11_readsAct_18, e_X11_readsAct_19, e_X11_readsAct_20, e_X11_readsAct_23, e_X11_readsAct_24, e_X11_readsAct_25, e_X11_readsAct_28, e_X11_readsAct_29, e_X11_readsAct_32, e_X11_readsAct_33, e_X11_readsAct_34, e_X11_readsAct_37, e_X11_readsAct_38, e_X11_readsAct_39, e_X11_readsAct_40, e_X11_readsAct_43, e_X11_readsAct_44, e_X11_readsAct_45, e_X11_readsAct_46, e_X11_readsAct_49, e_X11_readsAct_50, e_X11_readsAct_51, e_X11_readsAct_54, e_X11_readsAct_55, e_X11_readsAct_56, e_X11_readsAct_57, e_X11_readsAct_58, e_X11_readsAct_61, e_X11_readsAct_62, e_X11_readsAct_63, e_X11_readsAct_66, e_X11_readsAct_67, e_X11_readsAct_70, e_X11_readsAct_71, e_X11_readsAct_72, e_X11_readsAct_73, e_X11_readsAct_76, e_X11_readsAct_77, e_X11_readsAct_80, e_X11_readsAct_81, e_X11_readsAct_82, e_X11_readsAct_83, e_X11_readsAct_86, e_X11_readsAct_87, e_X11_readsAct_90, e_X11_readsAct_91, e_X11_readsAct_92, e_X11_readsAct_95, e_X11_readsAct_96, e_X11_readsAct_99, e_X11_readsAct_100, e_X11_readsAct_101, e_X11_readsAct_102, e_X11_readsAct_105, e_X11_readsAct_106, e_X11_readsAct_107, e_X11_readsAct_110, e_X11_readsAct_111, e_X11_readsAct_112, e_X11_readsAct_113, e_X11_readsAct_116, e_X11_readsAct_117, e_X11_readsAct_118, e_X11_readsAct_121, e_X11_readsAct_124, e_X11_readsAct_125, e_X11_readsAct_127, e_X11_readsAct_130, e_X11_readsAct_131, e_X11_readsAct_132, e_X11_readsAct_135, e_X11_readsAct_136, e_X11_readsAct_137, e_X11_readsAct_140, e_X11_readsAct_141, e_X11_readsAct_144, e_X11_readsAct_145, ob_91, rk_91_29, ar_105, rk_91_30, ar_106, rk_91_31, ar_107, kcl_i, kcl_r, kcl_l, kcl_0, kcl_n, true_and, and_true, tS4_3, kuf_s, kin60 hk, cl_n (show k < 100000 by omega), show ((-1 : Int32) < 0) = True from eq_true (by decide), if_true, kbool_0, true_and]
    · refine ⟨0, x + 1, kuf A k (Int32.ofNat s), kuf B k (-1), kuf C k 0, ?_, fun j hj => ⟨kuf_n (by omega), kuf_n (by omega), kuf_n (by omega)⟩, Or.inr ⟨rfl, Or.inr (Or.inl ⟨rfl, hst, fun z1 z2 => c1 ⟨z1, z2⟩⟩)⟩⟩
      intro i hT sc d y nx hd L st cu su l f t sp K g
      refine kCA_of (d := d + 3) (v := some (.int 0)) (fun K => ?_)
      rw [km_209]
      show kWP sc (d + 3) 209 0 [.ref 91, .retAddr 0] [] _ K = _
      simp only [e_X11_readsAct_0, e_X11_readsAct_1, e_X11_readsAct_4, e_X11_readsAct_5, e_X11_readsAct_6, e_X11_readsAct_9, e_X11_readsAct_10, e_X11_readsAct_11, e_X11_readsAct_14, e_X11_readsAct_17, e_X11_readsAct_18, e_X11_readsAct_19, e_X11_readsAct_20, e_X11_readsAct_23, e_X11_readsAct_24, e_X11_readsAct_25, e_X11_readsAct_28, e_X11_readsAct_29, e_X11_readsAct_32, e_X11_readsAct_33, e_X11_readsAct_34, e_X11_readsAct_37, e_X11_readsAct_38, e_X11_readsAct_39, e_X11_readsAct_40, e_X11_readsAct_43, e_X11_readsAct_44, e_X11_readsAct_45, e_X11_readsAct_46, e_X11_readsAct_49, e_X11_readsAct_50, e_X11_readsAct_51, e_X11_readsAct_54, e_X11_readsAct_55, e_X11_readsAct_56, e_X11_readsAct_57, e_X11_readsAct_58, e_X11_readsAct_61, e_X11_readsAct_62, e_X11_readsAct_63, e_X11_readsAct_66, e_X11_readsAct_67, e_X11_readsAct_70, e_X11_readsAct_71, e_X11_readsAct_72, e_X11_readsAct_73, e_X11_readsAct_76, e_X11_readsAct_77, e_X11_readsAct_80, e_X11_readsAct_81, e_X11_readsAct_82, e_X11_readsAct_83, e_X11_readsAct_86, e_X11_readsAct_87, e_X11_readsAct_90, e_X11_readsAct_91, e_X11_readsAct_92, e_X11_readsAct_95, e_X11_readsAct_96, e_X11_readsAct_99, e_X11_readsAct_100, e_X11_readsAct_101, e_X11_readsAct_102, e_X11_readsAct_105, e_X11_readsAct_106, e_X11_readsAct_107, e_X11_readsAct_110, e_X11_readsAct_111, e_X11_readsAct_112, e_X11_readsAct_113, e_X11_readsAct_116, e_X11_readsAct_117, e_X11_readsAct_118, e_X11_readsAct_121, e_X11_readsAct_124, e_X11_readsAct_125, e_X11_readsAct_127, e_X11_readsAct_130, e_X11_readsAct_131, e_X11_readsAct_132, e_X11_readsAct_135, e_X11_readsAct_136, e_X11_readsAct_137, e_X11_readsAct_140, e_X11_readsAct_141, e_X11_readsAct_144, e_X11_readsAct_145, ob_91, rk_91_29, ar_105, rk_91_30, ar_106, rk_91_31, ar_107, kcl_i, kcl_r, kcl_l, kcl_0, kcl_n, true_and, and_true, tS4_32, g_takesOf o80 (Nat.le_of_lt hx) (h98 i A B C k hT) s11.1 s11.2 (show 6 < 100000 by decide), hx, if_true, p1, ns, not_false_eq_true, and_self, kin60 hk, cl_n (show k < 100000 by omega), kX_1, tn_s, kX_32, tS4_1, kuf_s, s0, g_number o80 (show x + 1 ≤ o by omega) (h98 i _ B C (k + 1) hT), c1, if_false, kX_2, kX_3, tS4_2, show ((-1 : Int32) < 0) = True from eq_true (by decide), kbool_0, true_and]
end TC
