/-! council: refused -/
section TC
variable {sc : Nat × (Nat → Int32)} {d y nx : Nat} {hd : List (Int × Nat)} {L st : List Value} {S : kS} {cu su : Nat} {i : Nat → Nat → Int32} {l : Nat → Nat → Int64} {f t c b m : Nat} {sp : Nat → Nat} {K : Option (Option Value) → kS → Prop}
variable {N M Z S1 Q A b w R : Nat → Int32} {n n2 k x a o g c L to F D z : Nat} {v r p q : Int32} {T : Nat → Int32}
theorem neg_z (hz : z < 100000) : (0 ≤ -1 - Int32.ofNat z) = False := eq_false (by
  rw [Int32.le_iff_toInt_le]
  have e1 : (Int32.ofNat z).toInt = z := Int32.toInt_ofNat_of_lt (by omega)
  have e2 : (-1 - Int32.ofNat z).toInt = -1 - (z : Int) := by
    rw [Int32.toInt_sub, e1, show (-1 : Int32).toInt = -1 from by decide]
    apply Int.bmod_eq_of_le <;> omega
  rw [e2, show (0 : Int32).toInt = 0 from by decide]; omega)
theorem m_councilF (hF : 80 ≤ F) (hD : 81 ≤ D) (hn : i 91 11 = Int32.ofNat n) (h80 : n ≤ 80) (h91 : i 91 3 = Int32.ofNat m) (h8 : m ≤ 8) (hto : to = min n 79) (hT : ∀ x, x < n → i 98 x = T x) (hz : z < 100000) (ha : (mFin T to m F D n (i 99)).1 < 100000) (hf : pFault n 79 (mFin T to m F D n (i 99)).1 to (mFin T to m F D n (i 99)).2.2.2 = -1 - Int32.ofNat z) : CC 181 [.ref 91] i l f t sp (.int (-1 - Int32.ofNat z)) (tS (kS2 (kupi (uPut i) 91 11 0) (mFin T to m F D n (i 99)).2.1 (mFin T to m F D n (i 99)).2.2.1) (mFin T to m F D n (i 99)).1 to 0) l f t sp := by
  intro sc d y nx hd L st cu su K
  refine kCA_of (d := d + 499) (v := some (.int _)) (fun K => ?_)
  rw [km_181]
  show kWP sc (d + 499) 181 0 [.ref 91, .retAddr 0, .retAddr 0, .retAddr 0, .retAddr 0, .retAddr 0] [] _ K = _
  rw [m_councilR hF hD hn h80 h91 h8 hto hT]
  have W := fun (y nx : Nat) (L st : List Value) (hd : List (Int × Nat)) (K : Option (Option Value) → kS → Prop) => m_faultOf (sc := sc) (d := d + 498) (y := y) (nx := nx) (hd := hd) (L := L) (st := st) (cu := cu) (su := su) (i := kS2 (kupi (uPut i) 91 11 0) (mFin T to m F D n (i 99)).2.1 (mFin T to m F D n (i 99)).2.2.1) (l := l) (f := f) (t := t) (sp := sp) (K := K) (a := (mFin T to m F D n (i 99)).1) (o := to) (g := 0) (n := n) (k := 79) (v := (mFin T to m F D n (i 99)).2.2.2) (by omega) ha (by omega) (by decide)
  rw [hf, show Int32.ofNat 79 = 79 from rfl] at W
  simp only [e_X11_council_0, e_X11_council_1, e_X11_council_2, e_X11_council_5, e_X11_council_6, e_X11_council_8, e_X11_council_11, e_X11_council_12, e_X11_council_13, e_X11_council_14, e_X11_council_17, e_X11_council_18, e_X11_council_19, e_X11_council_20, e_X11_council_23, e_X11_council_24, e_X11_council_27, e_X11_council_28, e_X11_council_30, e_X11_council_33, e_X11_council_34, e_X11_council_37, e_X11_council_38, e_X11_council_39, e_X11_council_42, e_X11_council_43, e_X11_council_45, e_X11_council_48, e_X11_council_51, e_X11_council_52, e_X11_council_55, e_X11_council_56, e_X11_council_57, e_X11_council_60, e_X11_council_61, e_X11_council_62, e_X11_council_64, e_X11_council_65, e_X11_council_68, e_X11_council_70, e_X11_council_72, e_X11_council_75, e_X11_council_77, e_X11_council_78, e_X11_council_79, e_X11_council_83, e_X11_council_84, e_X11_council_87, e_X11_council_90, e_X11_council_91, e_X11_council_94, e_X11_council_95, e_X11_council_98, e_X11_council_99, e_X11_council_102, e_X11_council_103, e_X11_council_105, e_X11_council_106, e_X11_council_107, e_X11_council_108, e_X11_council_109, e_X11_council_112, e_X11_council_113, e_X11_council_116, e_X11_council_117, e_X11_council_120, e_X11_council_121, e_X11_council_123, e_X11_council_124, e_X11_council_125, e_X11_council_126, e_X11_council_127, e_X11_council_128, e_X11_council_129, e_X11_council_132, e_X11_council_133, e_X11_council_136, e_X11_council_137, e_X11_council_138, e_X11_council_139, e_X11_council_142, e_X11_council_144, e_X11_council_145, e_X11_council_148, e_X11_council_149, e_X11_council_150, e_X11_council_151, e_X11_council_152, e_X11_council_155, e_X11_council_157, e_X11_council_158, e_X11_council_159, e_X11_council_160, e_X11_council_161, e_X11_council_164, e_X11_council_165, e_X11_council_166, e_X11_council_167, e_X11_council_168, e_X11_council_169, e_X11_council_170, e_X11_council_171, e_X11_council_174, e_X11_council_175, e_X11_council_176, e_X11_council_179, e_X11_council_182, e_X11_council_185, e_X11_council_186, e_X11_council_189, e_X11_council_192, e_X11_council_193, e_X11_council_194, e_X11_council_197, e_X11_council_198, e_X11_council_199, e_X11_council_202, e_X11_council_203, e_X11_council_204, e_X11_council_207, e_X11_council_208, e_X11_council_211, ob_91, rk_91_6, ar_94, rk_91_15, ar_99, rk_91_7, ar_95, rk_91_8, ar_96, kcl_i, kcl_r, kcl_l, kcl_0, kcl_n, true_and, and_true, W, neg_z hz, if_false]
theorem mFin_le (hF : 80 ≤ F) (hD : 81 ≤ D) (h80 : n ≤ 80) (h8 : m ≤ 8) (hto : to = min n 79) : (mFin T to m F D n R).1 < 100000 := by
  unfold mFin
  by_cases c : n = 0
  · rw [if_pos c]; exact (by decide : 0 < 100000)
  · rw [if_neg c]
    have := (mens_ok (T := T) (m := m) (b := fun _ => 0) (w := fun _ => 0) (to := to) hF (by omega) D 0 0 R (Nat.zero_le _) (by omega) (by omega) (fun z hz => absurd hz (Nat.not_lt_zero z)) rfl rfl (fun q hq => absurd hq (Nat.not_lt_zero q))).1
    omega
/-- refused: both at the same place -/
theorem J_councilF (h : IV m i l f t sp) (hn : i 1 1 = Int32.ofNat n) (hn2 : i 91 11 = Int32.ofNat n) (h80 : n ≤ 80) (hT : ∀ x, x < n → i 2 x = i 98 x) (hto : to = min n 79) (hz : z ≤ to) (hb : ∀ q, q < z → ¬ cBad (i 98) q (cSt (i 98) m (i 6) (i 7) q)) (hC : CC 98 [.ref 0] i l f t sp (.int (-1 - Int32.ofNat z)) (kupi (pS i (cSt (i 98) m (i 6) (i 7) z).2.2.2.1 (cSt (i 98) m (i 6) (i 7) z).2.2.2.2) 1 1 0) l f t sp) (hf : pFault n 79 (mFin (i 98) to m 80 81 n (i 99)).1 to (mFin (i 98) to m 80 81 n (i 99)).2.2.2 = -1 - Int32.ofNat z) : JJ 98 181 [] i l f t sp := by
  obtain ⟨⟨h5, h91, h8, e9, hle, hp⟩, hX, hW, _⟩ := id h
  have hk := cSt_keep (T := i 98) (b := i 6) (w := i 7) h8 z hb
  have h2 := IV_pS h hk
  generalize (cSt (i 98) m (i 6) (i 7) z).2.2.2.1 = b at hC h2
  generalize (cSt (i 98) m (i 6) (i 7) z).2.2.2.2 = w at hC h2
  have oo : ∀ c, c ≠ 1 → c ≠ 6 → c ≠ 7 → kupi (pS i b w) 1 1 0 c = i c := fun c c1 c2 c3 => by rw [kupi_cf c1, pS_o c2 c3]
  have M := m_councilF (i := kupi (pS i b w) 1 1 0) (l := l) (f := f) (t := t) (sp := sp) (F := 80) (D := 81) (n := n) (m := m) (to := to) (T := i 98) (z := z) (by decide) (by decide) (by rw [oo 91 (by decide) (by decide) (by decide)]; exact hn2) h80 (by rw [oo 91 (by decide) (by decide) (by decide)]; exact h91) h8 hto (fun x _ => by rw [oo 98 (by decide) (by decide) (by decide)]) (by omega) (mFin_le (by decide) (by decide) h80 h8 hto) (by rw [oo 99 (by decide) (by decide) (by decide)]; exact hf)
  generalize mFin (i 98) to m 80 81 n (kupi (pS i b w) 1 1 0 99) = e at M
  refine ⟨_, _, _, f, t, sp, _, _, m, hC, M, ?_⟩
  refine kIV_t h2 ?_ ⟨0, by decide, ?_, ?_, fun x hx => absurd hx (Nat.not_lt_zero x)⟩ ?_
  · intro c k hq
    unfold tS
    rw [if_neg (fun e => by rw [e.1, e.2] at hq; exact absurd hq (by decide)), if_neg (fun e => by rw [e.1, e.2] at hq; exact absurd hq (by decide)), if_neg (fun e => by rw [e.1, e.2] at hq; exact absurd hq (by decide))]
    unfold kS2
    rw [if_neg (fun e => by rw [e] at hq; exact absurd hq (by simp [kSt, kSc])), if_neg (fun e => by rw [e.1, e.2] at hq; exact absurd hq (by decide))]
    exact ag_u (ag_u (ag_u ag_r rfl) rfl) rfl c k hq
  · rw [tS_o (by decide), kS2_o (by decide) (by decide), kupi_c (by decide), uP_o (by decide), kupi_s]; rfl
  · rw [tS_f (by decide) (by decide) (by decide), kS2_f (by decide), kupi_s]; rfl
  · rw [tS_o (by decide), kS2_o (by decide) (by decide), kupi_c (by decide), uP_o (by decide), kupi_c (by decide), tS_f (by decide) (by decide) (by decide), kS2_f (by decide), kupi_k (by decide), uP_f (by decide), kupi_c (by decide), pS_o (by decide) (by decide), pS_o (by decide) (by decide)]; exact hW
end TC
