/-! council: faults -/
section TC
variable {sc : Nat × (Nat → Int32)} {d y nx : Nat} {hd : List (Int × Nat)} {L st : List Value} {S : kS} {cu su : Nat} {i : Nat → Nat → Int32} {l : Nat → Nat → Int64} {f t c b m : Nat} {sp : Nat → Nat} {K : Option (Option Value) → kS → Prop}
variable {N M Z S1 Q A b w R : Nat → Int32} {n n2 k x a o g c L to F D : Nat} {v r p q : Int32} {T : Nat → Int32}
theorem kS2_in {j : Nat → Nat → Int32} : kupi (tS j 0 to 0) 91 16 0 = tS (kS2 j (j 99) 0) 0 to 0 := by
  funext c z; unfold kupi tS kS2
  by_cases h : c = 91 ∧ z = 16
  · obtain ⟨rfl, rfl⟩ := h; rfl
  · rw [if_neg h]
    by_cases h2 : c = 99
    · subst h2; rfl
    · simp only [h, h2, if_false]
/-- what the reference has read at the end -/
def mFin (T : Nat → Int32) (to m F D n : Nat) (R : Nat → Int32) : MS := if n = 0 then (0, R, 0, 1) else mens T to m F D 0 0 R
theorem m_councilR (hF : 80 ≤ F) (hD : 81 ≤ D) (hn : i 91 11 = Int32.ofNat n) (h80 : n ≤ 80) (h91 : i 91 3 = Int32.ofNat m) (h8 : m ≤ 8) (hto : to = min n 79) (hT : ∀ x, x < n → i 98 x = T x) : ∀ (sc : Nat × (Nat → Int32)) (d cu su : Nat) (K : Option (Option Value) → kS → Prop), kWP sc (d + 499) 181 0 [.ref 91, .retAddr 0, .retAddr 0, .retAddr 0, .retAddr 0, .retAddr 0] [] ((120, cu, su), i, l, kR f t sp) K = kWP sc (d + 499) 181 60 [.ref 91, .int (Int32.ofNat n), .int (mFin T to m F D n (i 99)).2.2.2, .int 0, .retAddr 0, .retAddr 0] [] ((120, cu, su), tS (kS2 (kupi (uPut i) 91 11 0) (mFin T to m F D n (i 99)).2.1 (mFin T to m F D n (i 99)).2.2.1) (mFin T to m F D n (i 99)).1 to 0, l, kR f t sp) K := by
  intro sc d cu su K
  have B := fun (y nx : Nat) (L st : List Value) (hd : List (Int × Nat)) (K : Option (Option Value) → kS → Prop) => m_begins (sc := sc) (d := d + 498) (y := y) (nx := nx) (hd := hd) (L := L) (st := st) (cu := cu) (su := su) (i := uPut i) (l := l) (f := f) (t := t) (sp := sp) (K := K) (n := n) (k := 79) hn (by omega) (by decide)
  rw [show (Int32.ofNat 79) = (79 : Int32) from rfl, ← hto] at B
  have e99 : kupi (uPut i) 91 11 0 99 = i 99 := by rw [kupi_cf (by decide), uP_o (by decide)]
  simp only [e_X11_council_0, e_X11_council_1, e_X11_council_2, e_X11_council_5, e_X11_council_6, e_X11_council_8, e_X11_council_11, e_X11_council_12, e_X11_council_13, e_X11_council_14, e_X11_council_17, e_X11_council_18, e_X11_council_19, e_X11_council_20, e_X11_council_23, e_X11_council_24, e_X11_council_27, e_X11_council_28, e_X11_council_30, e_X11_council_33, e_X11_council_34, e_X11_council_37, e_X11_council_38, e_X11_council_39, e_X11_council_42, e_X11_council_43, e_X11_council_45, e_X11_council_48, e_X11_council_51, e_X11_council_52, e_X11_council_55, e_X11_council_56, e_X11_council_57, e_X11_council_61, e_X11_council_62, e_X11_council_64, e_X11_council_65, e_X11_council_68, e_X11_council_70, e_X11_council_72, e_X11_council_75, e_X11_council_77, e_X11_council_78, e_X11_council_79, e_X11_council_83, e_X11_council_84, e_X11_council_87, e_X11_council_90, e_X11_council_91, e_X11_council_94, e_X11_council_95, e_X11_council_98, e_X11_council_99, e_X11_council_102, e_X11_council_103, e_X11_council_105, e_X11_council_106, e_X11_council_107, e_X11_council_108, e_X11_council_109, e_X11_council_112, e_X11_council_113, e_X11_council_116, e_X11_council_117, e_X11_council_120, e_X11_council_121, e_X11_council_123, e_X11_council_124, e_X11_council_125, e_X11_council_126, e_X11_council_127, e_X11_council_128, e_X11_council_129, e_X11_council_132, e_X11_council_133, e_X11_council_136, e_X11_council_137, e_X11_council_138, e_X11_council_139, e_X11_council_142, e_X11_council_144, e_X11_council_145, e_X11_council_148, e_X11_council_149, e_X11_council_150, e_X11_council_151, e_X11_council_152, e_X11_council_155, e_X11_council_157, e_X11_council_158, e_X11_council_159, e_X11_council_160, e_X11_council_161, e_X11_council_164, e_X11_council_165, e_X11_council_166, e_X11_council_167, e_X11_council_168, e_X11_council_169, e_X11_council_170, e_X11_council_171, e_X11_council_174, e_X11_council_175, e_X11_council_176, e_X11_council_179, e_X11_council_182, e_X11_council_185, e_X11_council_186, e_X11_council_189, e_X11_council_192, e_X11_council_193, e_X11_council_194, e_X11_council_197, e_X11_council_198, e_X11_council_199, e_X11_council_202, e_X11_council_203, e_X11_council_204, e_X11_council_207, e_X11_council_208, e_X11_council_211, ob_91, rk_91_6, ar_94, rk_91_15, ar_99, rk_91_7, ar_95, rk_91_8, ar_96, kcl_i, kcl_r, kcl_l, kcl_0, kcl_n, true_and, and_true, uP_0, B, kS2_in, e99, le0_nat (show n < 100000 by omega)]
  unfold mFin
  by_cases c : n = 0
  · have c0 : (0 < n) = False := eq_false (by omega)
    have t0 : to = 0 := by omega
    simp only [c0, not_false_eq_true, if_true, eq_true c, e_X11_council_0, e_X11_council_1, e_X11_council_2, e_X11_council_5, e_X11_council_6, e_X11_council_8, e_X11_council_11, e_X11_council_12, e_X11_council_13, e_X11_council_14, e_X11_council_17, e_X11_council_18, e_X11_council_19, e_X11_council_20, e_X11_council_23, e_X11_council_24, e_X11_council_27, e_X11_council_28, e_X11_council_30, e_X11_council_33, e_X11_council_34, e_X11_council_37, e_X11_council_38, e_X11_council_39, e_X11_council_42, e_X11_council_43, e_X11_council_45, e_X11_council_48, e_X11_council_51, e_X11_council_52, e_X11_council_55, e_X11_council_56, e_X11_council_57, e_X11_council_61, e_X11_council_62, e_X11_council_64, e_X11_council_65, e_X11_council_68, e_X11_council_70, e_X11_council_72, e_X11_council_75, e_X11_council_77, e_X11_council_78, e_X11_council_79, e_X11_council_83, e_X11_council_84, e_X11_council_87, e_X11_council_90, e_X11_council_91, e_X11_council_94, e_X11_council_95, e_X11_council_98, e_X11_council_99, e_X11_council_102, e_X11_council_103, e_X11_council_105, e_X11_council_106, e_X11_council_107, e_X11_council_108, e_X11_council_109, e_X11_council_112, e_X11_council_113, e_X11_council_116, e_X11_council_117, e_X11_council_120, e_X11_council_121, e_X11_council_123, e_X11_council_124, e_X11_council_125, e_X11_council_126, e_X11_council_127, e_X11_council_128, e_X11_council_129, e_X11_council_132, e_X11_council_133, e_X11_council_136, e_X11_council_137, e_X11_council_138, e_X11_council_139, e_X11_council_142, e_X11_council_144, e_X11_council_145, e_X11_council_148, e_X11_council_149, e_X11_council_150, e_X11_council_151, e_X11_council_152, e_X11_council_155, e_X11_council_157, e_X11_council_158, e_X11_council_159, e_X11_council_160, e_X11_council_161, e_X11_council_164, e_X11_council_165, e_X11_council_166, e_X11_council_167, e_X11_council_168, e_X11_council_169, e_X11_council_170, e_X11_council_171, e_X11_council_174, e_X11_council_175, e_X11_council_176, e_X11_council_179, e_X11_council_182, e_X11_council_185, e_X11_council_186, e_X11_council_189, e_X11_council_192, e_X11_council_193, e_X11_council_194, e_X11_council_197, e_X11_council_198, e_X11_council_199, e_X11_council_202, e_X11_council_203, e_X11_council_204, e_X11_council_207, e_X11_council_208, e_X11_council_211, ob_91, rk_91_6, ar_94, rk_91_15, ar_99, rk_91_7, ar_95, rk_91_8, ar_96, kcl_i, kcl_r, kcl_l, kcl_0, kcl_n, true_and, and_true]
    refine e_X11_council_29.trans ?_
    simp only [e_X11_council_0, e_X11_council_1, e_X11_council_2, e_X11_council_5, e_X11_council_6, e_X11_council_8, e_X11_council_11, e_X11_council_12, e_X11_council_13, e_X11_council_14, e_X11_council_17, e_X11_council_18, e_X11_council_19, e_X11_council_20, e_X11_council_23, e_X11_council_24, e_X11_council_27, e_X11_council_28, e_X11_council_30, e_X11_council_33, e_X11_council_34, e_X11_council_37, e_X11_council_38, e_X11_council_39, e_X11_council_42, e_X11_council_43, e_X11_council_45, e_X11_council_48, e_X11_council_51, e_X11_council_52, e_X11_council_55, e_X11_council_56, e_X11_council_57, e_X11_council_61, e_X11_council_62, e_X11_council_64, e_X11_council_65, e_X11_council_68, e_X11_council_70, e_X11_council_72, e_X11_council_75, e_X11_council_77, e_X11_council_78, e_X11_council_79, e_X11_council_83, e_X11_council_84, e_X11_council_87, e_X11_council_90, e_X11_council_91, e_X11_council_94, e_X11_council_95, e_X11_council_98, e_X11_council_99, e_X11_council_102, e_X11_council_103, e_X11_council_105, e_X11_council_106, e_X11_council_107, e_X11_council_108, e_X11_council_109, e_X11_council_112, e_X11_council_113, e_X11_council_116, e_X11_council_117, e_X11_council_120, e_X11_council_121, e_X11_council_123, e_X11_council_124, e_X11_council_125, e_X11_council_126, e_X11_council_127, e_X11_council_128, e_X11_council_129, e_X11_council_132, e_X11_council_133, e_X11_council_136, e_X11_council_137, e_X11_council_138, e_X11_council_139, e_X11_council_142, e_X11_council_144, e_X11_council_145, e_X11_council_148, e_X11_council_149, e_X11_council_150, e_X11_council_151, e_X11_council_152, e_X11_council_155, e_X11_council_157, e_X11_council_158, e_X11_council_159, e_X11_council_160, e_X11_council_161, e_X11_council_164, e_X11_council_165, e_X11_council_166, e_X11_council_167, e_X11_council_168, e_X11_council_169, e_X11_council_170, e_X11_council_171, e_X11_council_174, e_X11_council_175, e_X11_council_176, e_X11_council_179, e_X11_council_182, e_X11_council_185, e_X11_council_186, e_X11_council_189, e_X11_council_192, e_X11_council_193, e_X11_council_194, e_X11_council_197, e_X11_council_198, e_X11_council_199, e_X11_council_202, e_X11_council_203, e_X11_council_204, e_X11_council_207, e_X11_council_208, e_X11_council_211, ob_91, rk_91_6, ar_94, rk_91_15, ar_99, rk_91_7, ar_95, rk_91_8, ar_96, kcl_i, kcl_r, kcl_l, kcl_0, kcl_n, true_and, and_true, if_true]
  · have c0 : (0 < n) = True := eq_true (by omega)
    simp only [c0, not_true_eq_false, if_false, eq_false c, e_X11_council_0, e_X11_council_1, e_X11_council_2, e_X11_council_5, e_X11_council_6, e_X11_council_8, e_X11_council_11, e_X11_council_12, e_X11_council_13, e_X11_council_14, e_X11_council_17, e_X11_council_18, e_X11_council_19, e_X11_council_20, e_X11_council_23, e_X11_council_24, e_X11_council_27, e_X11_council_28, e_X11_council_30, e_X11_council_33, e_X11_council_34, e_X11_council_37, e_X11_council_38, e_X11_council_39, e_X11_council_42, e_X11_council_43, e_X11_council_45, e_X11_council_48, e_X11_council_51, e_X11_council_52, e_X11_council_55, e_X11_council_56, e_X11_council_57, e_X11_council_61, e_X11_council_62, e_X11_council_64, e_X11_council_65, e_X11_council_68, e_X11_council_70, e_X11_council_72, e_X11_council_75, e_X11_council_77, e_X11_council_78, e_X11_council_79, e_X11_council_83, e_X11_council_84, e_X11_council_87, e_X11_council_90, e_X11_council_91, e_X11_council_94, e_X11_council_95, e_X11_council_98, e_X11_council_99, e_X11_council_102, e_X11_council_103, e_X11_council_105, e_X11_council_106, e_X11_council_107, e_X11_council_108, e_X11_council_109, e_X11_council_112, e_X11_council_113, e_X11_council_116, e_X11_council_117, e_X11_council_120, e_X11_council_121, e_X11_council_123, e_X11_council_124, e_X11_council_125, e_X11_council_126, e_X11_council_127, e_X11_council_128, e_X11_council_129, e_X11_council_132, e_X11_council_133, e_X11_council_136, e_X11_council_137, e_X11_council_138, e_X11_council_139, e_X11_council_142, e_X11_council_144, e_X11_council_145, e_X11_council_148, e_X11_council_149, e_X11_council_150, e_X11_council_151, e_X11_council_152, e_X11_council_155, e_X11_council_157, e_X11_council_158, e_X11_council_159, e_X11_council_160, e_X11_council_161, e_X11_council_164, e_X11_council_165, e_X11_council_166, e_X11_council_167, e_X11_council_168, e_X11_council_169, e_X11_council_170, e_X11_council_171, e_X11_council_174, e_X11_council_175, e_X11_council_176, e_X11_council_179, e_X11_council_182, e_X11_council_185, e_X11_council_186, e_X11_council_189, e_X11_council_192, e_X11_council_193, e_X11_council_194, e_X11_council_197, e_X11_council_198, e_X11_council_199, e_X11_council_202, e_X11_council_203, e_X11_council_204, e_X11_council_207, e_X11_council_208, e_X11_council_211, ob_91, rk_91_6, ar_94, rk_91_15, ar_99, rk_91_7, ar_95, rk_91_8, ar_96, kcl_i, kcl_r, kcl_l, kcl_0, kcl_n, true_and, and_true]
    exact l_men (d := d + 495) hF (by rw [kupi_k (by decide), u3]; exact h91) (by omega) (fun x hx => by rw [kupi_c (by decide), uP_o (by decide)]; exact hT x (by omega)) D 0 0 (i 99) 1 (Nat.zero_le _) (by omega) (by omega)
/-- both find the same fault -/
theorem fault_eq (hF : 80 ≤ F) (hD : 81 ≤ D) (h80 : n ≤ 80) (h8 : m ≤ 8) (hto : to = min n 79) :
    (∀ z, cFt T m b w to = some z → pFault n 79 (mFin T to m F D n R).1 to (mFin T to m F D n R).2.2.2 = -1 - Int32.ofNat z) ∧
    (cFt T m b w to = none → cEnd n to (cSt T m b w to) → pFault n 79 (mFin T to m F D n R).1 to (mFin T to m F D n R).2.2.2 = -1 - Int32.ofNat to) ∧
    (cFt T m b w to = none → ¬ cEnd n to (cSt T m b w to) → pFault n 79 (mFin T to m F D n R).1 to (mFin T to m F D n R).2.2.2 = 0 ∧ (cSt T m b w to).1 = m + (mFin T to m F D n R).2.2.1 ∧ rPair m (mFin T to m F D n R).2.2.1 (mFin T to m F D n R).2.1 (cSt T m b w to)) := by
  unfold mFin
  by_cases c : n = 0
  · have t0 : to = 0 := by omega
    subst t0; subst c
    refine ⟨fun z hz => ?_, fun _ hE => ?_, fun _ _ => ?_⟩
    · cases hz
    · exfalso
      rcases hE with q | q
      · omega
      · exact absurd q.2 (by decide)
    · exact ⟨rfl, rfl, fun q hq => absurd hq (Nat.not_lt_zero q)⟩
  · rw [if_neg c]
    obtain ⟨a1, a2, a3, a4⟩ := mens_ok (T := T) (m := m) (b := b) (w := w) (to := to) hF (by omega) D 0 0 R (Nat.zero_le _) (by omega) (by omega) (fun z hz => absurd hz (Nat.not_lt_zero z)) rfl rfl (fun q hq => absurd hq (Nat.not_lt_zero q))
    generalize mens T to m F D 0 0 R = e at a1 a2 a3 a4
    by_cases ha : e.1 < to
    · have hs : cFt T m b w to = some e.1 := kfi_is (a3 ha) (Nat.zero_le _) (by omega) (fun z _ hz => a2 z hz)
      have hpf : pFault n 79 e.1 to e.2.2.2 = -1 - Int32.ofNat e.1 := by
        unfold pFault
        rw [if_neg (fun z => by rcases z.2 with y | y <;> omega), if_neg (fun z => by omega)]
      refine ⟨fun z hz => ?_, fun hz => ?_, fun hz => ?_⟩
      · rw [hs] at hz; cases hz; exact hpf
      · rw [hs] at hz; cases hz
      · rw [hs] at hz; cases hz
    · have ea : e.1 = to := by omega
      have hs : cFt T m b w to = none := by
        cases hk : cFt T m b w to with
        | none => rfl
        | some z =>
          have := kfi_some hk
          exact absurd this.2.2 (a2 z (by omega))
      rw [ea] at a4
      refine ⟨fun z hz => ?_, fun _ hE => ?_, fun _ hE => ?_⟩
      · rw [hs] at hz; cases hz
      · rw [ea]
        unfold pFault
        by_cases c9 : 79 < n
        · have t79 : to = 79 := by omega
          rw [if_pos ⟨c9, Or.inr (by omega)⟩, t79]
        · have hE2 : (cSt T m b w to).2.1 = true := by
            rcases hE with q | q
            · exact absurd q c9
            · exact q.1
          rcases a4 with ⟨k0, _⟩ | ⟨_, k1, _⟩
          · rw [if_neg (fun z => c9 z.1), if_neg (fun z => z.1 k0)]
          · rw [k1] at hE2; cases hE2
      · have c9 : ¬ 79 < n := fun z => hE (Or.inl z)
        rcases a4 with ⟨_, k1⟩ | ⟨k0, k1, k2, k3⟩
        · exact absurd (Or.inr ⟨k1, by omega⟩) hE
        · rw [ea]
          refine ⟨?_, k2, k3⟩
          unfold pFault
          rw [if_neg (fun z => c9 z.1), if_pos ⟨by rw [k0]; decide, rfl⟩]
end TC
