/-! council: the men come in -/
section TC
variable {sc : Nat × (Nat → Int32)} {d y nx : Nat} {hd : List (Int × Nat)} {L st : List Value} {S : kS} {cu su : Nat} {i : Nat → Nat → Int32} {l : Nat → Nat → Int64} {f t c b m : Nat} {sp : Nat → Nat} {K : Option (Option Value) → kS → Prop}
variable {N M Z S1 Q A b w R : Nat → Int32} {n n2 k x a o g c L to F D z : Nat} {v r p q : Int32} {T : Nat → Int32}
/-- breath, wants, now: the rows that grow -/
abbrev GS := (Nat → Int32) × (Nat → Int32) × (Nat → Int32)
def gSt (m : Nat) (R : Nat → Int32) (x : Nat) (s : GS) : GS := (kuf s.1 (m + x) (R (2 * x)), kuf s.2.1 (m + x) (R (2 * x + 1)), kuf (kuf (kuf s.2.2 (m + x) 0) (8 + (m + x)) 0) 16 (kuf (kuf s.2.2 (m + x) 0) (8 + (m + x)) 0 16 &&& ((1 <<< (Int32.ofNat (m + x) &&& 31)) ^^^ (-1))))
/-- the reference's cells with them -/
def gC (i : Nat → Nat → Int32) (s : GS) (mm : Nat) : Nat → Nat → Int32 := fun c z => if c = 94 then s.1 z else if c = 95 then s.2.1 z else if c = 96 then s.2.2 z else if c = 91 ∧ z = 3 then Int32.ofNat mm else i c z
theorem gC_94 {s : GS} : gC i s c 94 = s.1 := rfl
theorem gC_95 {s : GS} : gC i s c 95 = s.2.1 := rfl
theorem gC_96 {s : GS} : gC i s c 96 = s.2.2 := rfl
theorem gC_3 {s : GS} : gC i s c 91 3 = Int32.ofNat c := rfl
theorem gC_o {s : GS} {e : Nat} (h : e < 91 ∨ 96 < e) : gC i s c e = i e := by
  funext z; unfold gC
  rw [if_neg (by omega), if_neg (by omega), if_neg (by omega), if_neg (by omega)]
theorem gC_f {s : GS} {z : Nat} (h : z ≠ 3) : gC i s c 91 z = i 91 z := by
  unfold gC
  rw [if_neg (by decide), if_neg (by decide), if_neg (by decide), if_neg (by omega)]
theorem gU_94 {s : GS} {x : Nat} {v : Int32} : kupi (gC i s c) 94 x v = gC i (kuf s.1 x v, s.2) c := by
  funext e z; unfold kupi gC kuf
  by_cases h1 : e = 94
  · subst h1; by_cases h2 : z = x
    · simp [h2]
    · simp [h2]
  · simp [h1]
theorem gU_95 {s : GS} {x : Nat} {v : Int32} : kupi (gC i s c) 95 x v = gC i (s.1, kuf s.2.1 x v, s.2.2) c := by
  funext e z; unfold kupi gC kuf
  by_cases h1 : e = 95
  · subst h1; by_cases h2 : z = x
    · simp [h2]
    · simp [h2]
  · simp [h1]
theorem gU_96 {s : GS} {x : Nat} {v : Int32} : kupi (gC i s c) 96 x v = gC i (s.1, s.2.1, kuf s.2.2 x v) c := by
  funext e z; unfold kupi gC kuf
  by_cases h1 : e = 96
  · subst h1; by_cases h2 : z = x
    · simp [h2]
    · simp [h2]
  · simp [h1]
theorem gU_3 {s : GS} {c2 : Nat} : kupi (gC i s c) 91 3 (Int32.ofNat c2) = gC i s c2 := by
  funext e z; unfold kupi gC
  by_cases h1 : e = 91 ∧ z = 3
  · obtain ⟨rfl, rfl⟩ := h1; rfl
  · simp only [h1, if_false]
theorem gC_g (h : i 91 3 = Int32.ofNat m) : gC i (i 94, i 95, i 96) m = i := by
  funext e z; unfold gC
  by_cases h1 : e = 94
  · subst h1; rfl
  · by_cases h2 : e = 95
    · subst h2; rfl
    · by_cases h3 : e = 96
      · subst h3; rfl
      · by_cases h4 : e = 91 ∧ z = 3
        · obtain ⟨rfl, rfl⟩ := h4; exact h.symm
        · simp only [h1, h2, h3, h4, if_false]
theorem add8 {x : Nat} : (8 : Int32) + Int32.ofNat x = Int32.ofNat (8 + x) := by rw [show (8 : Int32) = Int32.ofNat 8 from rfl, ← Int32.ofNat_add]
theorem l_in {kk : Nat} {s : GS} {v1 v2 v3 v4 : Value} (hR : i 99 = R) (h16 : i 91 16 = Int32.ofNat kk) (hmk : m + kk ≤ 8) : kWP sc d 181 81 [.ref 91, v1, v2, v3, v4, .int (Int32.ofNat 0)] [] ((120, cu, su), gC i s m, l, kR f t sp) K = kWP sc d 181 81 [.ref 91, v1, v2, v3, v4, .int (Int32.ofNat kk)] [] ((120, cu, su), gC i (kfo (gSt m R) kk s) (m + kk), l, kR f t sp) K := by
  refine (k_for (P := fun x (s : GS) => kWP sc d 181 81 [.ref 91, v1, v2, v3, v4, .int (Int32.ofNat x)] [] ((120, cu, su), gC i s (m + x), l, kR f t sp) K) (n := kk) (g := gSt m R) ?_ s)
  intro x s hx
  have e99 : ∀ s c, gC i s c 99 = R := fun s c => by rw [gC_o (by decide)]; exact hR
  have e16 : ∀ s c, gC i s c 91 16 = Int32.ofNat kk := fun s c => by rw [gC_f (by decide)]; exact h16
  refine e_X11_council_81.trans ?_
  simp only [e_X11_council_0, e_X11_council_1, e_X11_council_2, e_X11_council_5, e_X11_council_6, e_X11_council_8, e_X11_council_11, e_X11_council_12, e_X11_council_13, e_X11_council_14, e_X11_council_17, e_X11_council_18, e_X11_council_19, e_X11_council_20, e_X11_council_23, e_X11_council_24, e_X11_council_27, e_X11_council_28, e_X11_council_30, e_X11_council_33, e_X11_council_34, e_X11_council_37, e_X11_council_38, e_X11_council_39, e_X11_council_42, e_X11_council_43, e_X11_council_45, e_X11_council_48, e_X11_council_51, e_X11_council_52, e_X11_council_55, e_X11_council_56, e_X11_council_57, e_X11_council_60, e_X11_council_61, e_X11_council_62, e_X11_council_64, e_X11_council_65, e_X11_council_68, e_X11_council_70, e_X11_council_72, e_X11_council_75, e_X11_council_77, e_X11_council_78, e_X11_council_79, e_X11_council_83, e_X11_council_84, e_X11_council_87, e_X11_council_90, e_X11_council_91, e_X11_council_94, e_X11_council_95, e_X11_council_98, e_X11_council_99, e_X11_council_102, e_X11_council_103, e_X11_council_105, e_X11_council_106, e_X11_council_107, e_X11_council_108, e_X11_council_109, e_X11_council_112, e_X11_council_113, e_X11_council_116, e_X11_council_117, e_X11_council_120, e_X11_council_121, e_X11_council_123, e_X11_council_124, e_X11_council_125, e_X11_council_126, e_X11_council_127, e_X11_council_128, e_X11_council_129, e_X11_council_132, e_X11_council_133, e_X11_council_136, e_X11_council_137, e_X11_council_138, e_X11_council_139, e_X11_council_142, e_X11_council_144, e_X11_council_145, e_X11_council_148, e_X11_council_149, e_X11_council_150, e_X11_council_151, e_X11_council_152, e_X11_council_155, e_X11_council_157, e_X11_council_158, e_X11_council_159, e_X11_council_160, e_X11_council_161, e_X11_council_164, e_X11_council_165, e_X11_council_166, e_X11_council_167, e_X11_council_168, e_X11_council_169, e_X11_council_170, e_X11_council_171, e_X11_council_174, e_X11_council_175, e_X11_council_176, e_X11_council_179, e_X11_council_182, e_X11_council_185, e_X11_council_186, e_X11_council_189, e_X11_council_192, e_X11_council_193, e_X11_council_194, e_X11_council_197, e_X11_council_198, e_X11_council_199, e_X11_council_202, e_X11_council_203, e_X11_council_204, e_X11_council_207, e_X11_council_208, e_X11_council_211, ob_91, rk_91_6, ar_94, rk_91_15, ar_99, rk_91_7, ar_95, rk_91_8, ar_96, kcl_i, kcl_r, kcl_l, kcl_0, kcl_n, true_and, and_true, e16, jpF hx (by omega), if_false, gC_3, two_k, e99, kin16 (show 2 * x < 16 by omega), cl_n (show 2 * x < 100000 by omega), kin8 (show m + x < 8 by omega), cl_n (show m + x < 100000 by omega), gU_94, gU_95, gU_96, gU_3, gC_96, tn_s, kin16 (show 2 * x + 1 < 16 by omega), cl_n (show 2 * x + 1 < 100000 by omega), kin25 (show m + x < 25 by omega), add8, kin25 (show 8 + (m + x) < 25 by omega), cl_n (show 8 + (m + x) < 100000 by omega), ki16, ni16, true_and]
  rfl
end TC
