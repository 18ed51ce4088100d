/-! years -/
section TC
variable {sc : Nat × (Nat → Int32)} {d y nx : Nat} {hd : List (Int × Nat)} {L st : List Value} {S : kS} {cu su : Nat} {i : Nat → Nat → Int32} {l : Nat → Nat → Int64} {f t c b m : Nat} {sp : Nat → Nat} {K : Option (Option Value) → kS → Prop}
variable {N M Z S1 Q A : Nat → Int32} {i1 i2 i3 j : Nat → Nat → Int32} {l2 : Nat → Nat → Int64} {n n2 k x a o g : Nat} {v r p q : Int32} {zs zs2 : List Int64} {le co br acts code co2 br2 : Nat → Int32} {s : Nat × (Nat → Int32)} {w : WN} {u : WM} {D : Int32 → Int32} {O : Int32 → Int32 → Int32}
theorem u16_nat (x : Int32) : ∃ c, c < 65536 ∧ (x.toUInt32 >>> (Int32.toUInt32 16 &&& Int32.toUInt32 31)).toInt32 = Int32.ofNat c := by
  refine ⟨(x.toUInt32 >>> (Int32.toUInt32 16 &&& Int32.toUInt32 31)).toInt32.toBitVec.toNat, ?_, ?_⟩
  · have : (x.toUInt32 >>> (Int32.toUInt32 16 &&& Int32.toUInt32 31)).toInt32.toBitVec.toNat < 2 ^ 16 := by
      apply Nat.lt_pow_two_of_testBit
      intro z hz
      rw [BitVec.testBit_toNat]
      have := @tb_ushr x 16 z (by decide)
      unfold tb at this
      refine this.trans ?_
      exact BitVec.getLsbD_of_ge _ _ (by omega)
    exact this
  · rw [Int32.ofNat_bitVecToNat, Int32.ofBitVec_toBitVec]
theorem im_nat {c n : Nat} (hc : c < 100000) (hn : n < 100000) : Int32.ofNat c - Int32.ofNat c / Int32.ofNat n * Int32.ofNat n = Int32.ofNat (c % n) := by
  rw [← Int32.ofNat_div (by omega) (by omega), ← Int32.ofNat_mul, ← Int32.ofNat_sub _ _ (Nat.div_mul_le_self c n)]
  congr 1
  have := Nat.div_add_mod c n
  rw [Nat.mul_comm] at this
  omega
theorem qOf_nat (x : Int32) {n : Nat} (h1 : 1 ≤ n) (h8 : n ≤ 8) : ∃ a, a < n ∧ qOf x (Int32.ofNat n) = Int32.ofNat a := by
  obtain ⟨c, hc, e⟩ := u16_nat x
  refine ⟨c % n, Nat.mod_lt _ (by omega), ?_⟩
  unfold qOf
  rw [e, im_nat (by omega) (by omega)]
theorem qOf_natO (hO : O = qOf) (x : Int32) {n : Nat} (h1 : 1 ≤ n) (h8 : n ≤ 8) : ∃ a, a < n ∧ O x (Int32.ofNat n) = Int32.ofNat a := by subst hO; exact qOf_nat x h1 h8
/-- what is drawn: the man, the other, the state of the draws -/
def yMan (D : Int32 → Int32) (O : Int32 → Int32 → Int32) (m : Nat) (r : Int32) : Int32 := O (D (D r)) (Int32.ofNat m)
def yOth (D : Int32 → Int32) (O : Int32 → Int32 → Int32) (m : Nat) (r : Int32) : Int32 := O (D (D (D r))) (Int32.ofNat m)
def yTalkC (le co : Nat → Int32) (m : Nat) (w : WN) (p k q : Int32) : WN := if pRefuse co (w.1 17) (w.1 18) (w.1 22) (Int32.ofNat m) p k q = 0 then (qGo le w.1 p.toNatClampNeg k q, w.2) else w
def yC (D : Int32 → Int32) (O : Int32 → Int32 → Int32) (le co br : Nat → Int32) (m : Nat) (acts : Nat → Int32) (n : Nat) (w : WN × Int32) : WN × Int32 :=
  if O (D w.2) 4 < 2 then (qT le co br m acts n w.1, D w.2) else if m = 0 then (w.1, D w.2) else
  if O (D w.2) 4 = 2 then (yTalkC le co m w.1 (yMan D O m w.2) 1 (-1), D (D w.2)) else (yTalkC le co m w.1 (yMan D O m w.2) 2 (yOth D O m w.2), D (D (D w.2)))
def yTalkM (le co : Nat → Int32) (m : Nat) (u : WM) (p k q : Int32) : WM := (tRow co le u.1 m p k q, tZ co le u.1 u.2.1 m p k q, u.2.2)
def yM (D : Int32 → Int32) (O : Int32 → Int32 → Int32) (le co br : Nat → Int32) (m : Nat) (code : Nat → Int32) (n2 : Nat) (u : WM × Int32) : WM × Int32 :=
  if O (D u.2) 4 < 2 then (rT le co br m code n2 u.1, D u.2) else if m = 0 then (u.1, D u.2) else
  if O (D u.2) 4 = 2 then (yTalkM le co m u.1 (yMan D O m u.2) 1 0, D (D u.2)) else (yTalkM le co m u.1 (yMan D O m u.2) 2 (yOth D O m u.2), D (D (D u.2)))
theorem refuse_1 {said hat pm M0 p q1 q2 : Int32} : pRefuse co said hat pm M0 p 1 q1 = pRefuse co said hat pm M0 p 1 q2 := by
  have e : ∀ q, pCanTalk co said hat pm M0 p 1 q = 1 := fun q => by unfold pCanTalk; rw [if_neg (by decide), if_pos rfl]
  unfold pRefuse; rw [e, e]
theorem qGo_1 {q1 q2 : Int32} : qGo le N a 1 q1 = qGo le N a 1 q2 := by
  unfold qGo qG3 qHat qMark pMinOf
  simp only [z10, z12, z13, z14, if_false]
theorem talk_rel (hco : ∀ a, a < m → co a = co2 a) (h8 : m ≤ 8) (hle : leOk le) (h : NR m w.1 u.1) {p k q q2 : Int32} (k0 : ¬ k < 0) (k4 : ¬ 4 < k) (hr : pRefuse co2 (u.1 17) (u.1 18) (pPm u.1) (Int32.ofNat m) p k q = pRefuse co2 (u.1 17) (u.1 18) (pPm u.1) (Int32.ofNat m) p k q2) (hg : ∀ a, qGo le w.1 a k q = qGo le w.1 a k q2) : NR m (yTalkC le co m w p k q).1 (yTalkM le co2 m u p k q2).1 ∧ (yTalkM le co2 m u p k q2).2.1 25 = u.2.1 25 + ((yTalkM le co2 m u p k q2).1 21 - u.1 21) := by
  have e : pRefuse co (w.1 17) (w.1 18) (w.1 22) (Int32.ofNat m) p k q = pRefuse co2 (u.1 17) (u.1 18) (pPm u.1) (Int32.ofNat m) p k q2 := by
    rw [h.1.1 17 (by decide), h.1.1 18 (by decide), h.1.2.1, refuse_all hco h8, hr]
  unfold yTalkC yTalkM tRow tZ
  rw [e]
  by_cases c : pRefuse co2 (u.1 17) (u.1 18) (pPm u.1) (Int32.ofNat m) p k q2 = 0
  · rw [if_pos c]
    simp only [c, if_true]
    have c' := c
    unfold pRefuse at c'
    by_cases c1 : ¬ pHas (Int32.ofNat m) p = true ∨ k < 0 ∨ 4 < k
    · rw [if_pos c1] at c'; exact absurd c' (by decide)
    · rw [if_neg c1] at c'
      by_cases c2 : p = u.1 18
      · rw [if_pos c2] at c'; exact absurd c' (by decide)
      · rw [if_neg c2] at c'
        by_cases c3 : pCanTalk co2 (u.1 17) (u.1 18) (pPm u.1) (Int32.ofNat m) p k q2 = 0
        · rw [if_pos c3] at c'; exact absurd c' (by decide)
        · have hH : pHas (Int32.ofNat m) p = true := Classical.byContradiction fun z => c1 (Or.inl z)
          obtain ⟨a, ha, rfl⟩ := kN_has h8 hH
          rw [tn_cl (by omega), hg]
          exact ⟨NR_go h8 hle h k0 k4 ha c3, (z25_talk h8 h.1 ha c3).1⟩
  · rw [if_neg c]
    simp only [c, if_false]
    refine ⟨h, ?_⟩
    rw [Int32.sub_self, Int32.add_zero]
theorem y_rel {wr : WN × Int32} {ur : WM × Int32} (hco : ∀ a, a < m → co a = co2 a) (hbr : ∀ a, a < m → br a = br2 a) (hb8 : ∀ a, b8 (co2 a)) (h8 : m ≤ 8) (hle : leOk le) (hr : RR acts n code n2) (h : NR m wr.1.1 ur.1.1) (h2 : wr.2 = ur.2) : NR m (yC D O le co br m acts n wr).1.1 (yM D O le co2 br2 m code n2 ur).1.1 ∧ (yC D O le co br m acts n wr).2 = (yM D O le co2 br2 m code n2 ur).2 ∧ (yM D O le co2 br2 m code n2 ur).1.2.1 25 = ur.1.2.1 25 + ((yM D O le co2 br2 m code n2 ur).1.1 21 - ur.1.1 21) := by
  unfold yC yM
  rw [h2]
  by_cases c1 : O (D ur.2) 4 < 2
  · simp only [c1, if_true]
    have T := T_rel (w := wr.1) (u := ur.1) hco hbr hb8 h8 hle hr h
    exact ⟨T.2.1, trivial, T.2.2.1⟩
  · by_cases c2 : m = 0
    · simp only [c1, c2, if_true, if_false]
      subst c2
      refine ⟨h, trivial, ?_⟩
      rw [Int32.sub_self, Int32.add_zero]
    · by_cases c3 : O (D ur.2) 4 = 2
      · have T := talk_rel (w := wr.1) (u := ur.1) (p := yMan D O m ur.2) (k := 1) (q := -1) (q2 := 0) hco h8 hle h (by decide) (by decide) refuse_1 (fun _ => qGo_1)
        simp only [c1, c2, c3, if_true, if_false, show ((2 : Int32) < 2) = False from eq_false (by decide)]
        exact ⟨T.1, trivial, T.2⟩
      · have T := talk_rel (w := wr.1) (u := ur.1) (p := yMan D O m ur.2) (k := 2) (q := yOth D O m ur.2) (q2 := yOth D O m ur.2) hco h8 hle h (by decide) (by decide) rfl (fun _ => rfl)
        simp only [c1, c2, c3, if_false]
        exact ⟨T.1, trivial, T.2⟩
/-- the class's guess with the state of the draws -/
def dS (i : Nat → Nat → Int32) (f : Nat) (w : WN × Int32) : Nat → Nat → Int32 := gS (kupi i 84 0 w.2) f w.1
theorem gS_84 {r : Int32} (hf : kRc f = true) : kupi (gS i f w) 84 0 r = gS (kupi i 84 0 r) f w := by
  unfold gS
  funext c z
  unfold kupi rPut nPut
  dsimp only
  rcases kRc_of hf with rfl | rfl
  · by_cases q : c = 84 ∧ z = 0
    · rw [if_pos q, if_neg (by omega), if_neg (by omega), if_neg (by omega), if_neg (by omega), if_neg (by omega), if_pos q]
    · rw [if_neg q, if_neg q]
  · by_cases q : c = 84 ∧ z = 0
    · rw [if_pos q, if_neg (by omega), if_neg (by omega), if_neg (by omega), if_neg (by omega), if_neg (by omega), if_pos q]
    · rw [if_neg q, if_neg q]
theorem dS_84 {wr : WN × Int32} (hf : kRc f = true) : dS i f wr 84 0 = wr.2 := by
  unfold dS gS
  rw [rP_lo hf (by decide), nP_hi c13 (by decide), kupi_s]
theorem c_ofD {wr : WN × Int32} {n : Int32} (hD : D = qDr) (hO : O = qOf) (hf : kRc b = true) (h1 : 1 ≤ n) : kCA sc (d + 1) 2 [.ref 84, .int n] y nx hd L st ((120, cu, su), dS i b wr, l, kR f t sp) K = kWP sc (d + 1) y nx L (.int (O (D wr.2) n) :: st) ((120, cu, su), dS i b (wr.1, D wr.2), l, kR f t sp) K := by
  subst hD; subst hO
  rw [c_of h1, dS_84 hf]
  unfold dS
  rw [gS_84 hf, kup2]
theorem c_goOnG {a : Nat} {k q : Int32} (hf : kRc b = true) (ha : a < 8) : kCA sc (d + 3) 9 [.ref 13, .ref 5, .int (Int32.ofNat a), .int k, .int q] y nx hd L st ((120, cu, su), gS i b w, l, kR f t sp) K = kWP sc (d + 3) y nx L st ((120, cu, su), gS i b (qGo (i 9) w.1 a k q, w.2), l, kR f t sp) K := by
  unfold gS
  rw [rN c13 hf, c_goOn c13 ha, rP_lo hf (show 9 < 85 by decide), rN c13 hf]
theorem kc84 {c : Nat} (h : c ≠ 84) {v : Int32} : kupi i 84 0 v c = i c := kupi_cf h
theorem dS_lo {wr : WN × Int32} {c : Nat} (hf : kRc f = true) (hc : c < 13) : dS i f wr c = i c := by
  unfold dS; rw [gS_lo hf hc, kc84 (by omega)]
theorem dS_13 {wr : WN × Int32} (hf : kRc f = true) : dS i f wr 13 0 = wr.1.1 17 ∧ dS i f wr 13 1 = wr.1.1 18 ∧ dS i f wr 13 2 = wr.1.1 19 ∧ dS i f wr 13 4 = wr.1.1 21 ∧ dS i f wr 13 6 = wr.1.1 22 := by
  have g := gS_13 (i := kupi i 84 0 wr.2) (w := wr.1) hf
  refine ⟨g.1, g.2.1, g.2.2.1, g.2.2.2.2, ?_⟩
  unfold dS gS
  rw [rP_lo hf (show 13 < 85 by decide)]
  exact nP_6
theorem c_liveOn {wr : WN × Int32} {n : Nat} (hD : D = qDr) (hO : O = qOf) (hf : kRc f = true) (hm : i 5 0 = Int32.ofNat m) (h8 : m ≤ 8) (hn : i f 2 = Int32.ofNat n) (h40 : n ≤ 40) : kCA sc (d + 6) 143 [.ref 0] y nx hd L st ((120, cu, su), dS i f wr, l, kR f t sp) K = kWP sc (d + 6) y nx L st ((120, cu, su), dS i f (yC D O (i 9) (i 8) (i 6) m (i (f + 1)) n wr), l, kR f t sp) K := by
  refine kCA_of (d := d + 5) (v := none) (S2 := ((120, cu, su), dS i f (yC D O (i 9) (i 8) (i 6) m (i (f + 1)) n wr), l, kR f t sp)) (fun K => ?_)
  rw [km_143]
  show kWP sc (d + 5) 143 0 [.ref 0, .retAddr 0, .retAddr 0, .retAddr 0, .retAddr 0] [] _ K = _
  have f85 : f ≠ 84 ∧ f + 1 ≠ 84 := by rcases kRc_of hf with rfl | rfl <;> decide
  have hmD : ∀ wr : WN × Int32, dS i f wr 5 0 = Int32.ofNat m := fun wr => by rw [dS_lo hf (by decide)]; exact hm
  have e8D : ∀ wr : WN × Int32, dS i f wr 8 = i 8 := fun wr => dS_lo hf (by decide)
  have hmK : ∀ r : Int32, kupi i 84 0 r 5 0 = Int32.ofNat m := fun r => by rw [kc84 (by decide)]; exact hm
  have hnK : ∀ r : Int32, kupi i 84 0 r f 2 = Int32.ofNat n := fun r => by rw [kc84 f85.1]; exact hn
  have S1 : ∀ (wr : WN × Int32) (y nx : Nat) (L st : List Value) (hd : List (Int × Nat)) (K : Option (Option Value) → kS → Prop), kCA sc (d + 5) 10 [.ref 13, .ref 5, .ref f] y nx hd L st ((120, cu, su), dS i f wr, l, kR f t sp) K = kWP sc (d + 5) y nx L (.int (qSpk (i 8) (i 6) m wr.1.1 (i (f + 1)) n) :: st) ((120, cu, su), dS i f ((wr.1.1, sSpk (i 8) (i 6) m wr.1.1 (i (f + 1)) n wr.1.2), wr.2), l, kR f t sp) K := by
    intro wr y nx L st hd K
    have := c_speakerG (sc := sc) (d := d + 1) (y := y) (nx := nx) (hd := hd) (L := L) (st := st) (cu := cu) (su := su) (i := kupi i 84 0 wr.2) (l := l) (f := f) (t := t) (sp := sp) (K := K) (w := wr.1) hf (hmK _) h8 (hnK _) h40
    rw [kc84 (show 8 ≠ 84 by decide), kc84 (show 6 ≠ 84 by decide), kc84 f85.2] at this
    exact this
  have S2 : ∀ (wr : WN × Int32) (p : Int32) (y nx : Nat) (L st : List Value) (hd : List (Int × Nat)) (K : Option (Option Value) → kS → Prop), kCA sc (d + 5) 11 [.ref 13, .ref 5, .int p] y nx hd L st ((120, cu, su), dS i f wr, l, kR f t sp) K = kWP sc (d + 5) y nx L st ((120, cu, su), dS i f ((qTake (i 9) (i 8) (Int32.ofNat m) wr.1.1 p, wr.1.2), wr.2), l, kR f t sp) K := by
    intro wr p y nx L st hd K
    have := c_takeG (sc := sc) (d := d + 1) (y := y) (nx := nx) (hd := hd) (L := L) (st := st) (cu := cu) (su := su) (i := kupi i 84 0 wr.2) (l := l) (f := f) (t := t) (sp := sp) (K := K) (w := wr.1) (p := p) hf (hmK _) h8
    rw [kc84 (show 8 ≠ 84 by decide), kc84 (show 9 ≠ 84 by decide)] at this
    exact this
  have S3 : ∀ (wr : WN × Int32) (p k q : Int32) (y nx : Nat) (L st : List Value) (hd : List (Int × Nat)) (K : Option (Option Value) → kS → Prop), kCA sc (d + 5) 8 [.ref 13, .ref 5, .int p, .int k, .int q] y nx hd L st ((120, cu, su), dS i f wr, l, kR f t sp) K = kWP sc (d + 5) y nx L (.int (pRefuse (i 8) (wr.1.1 17) (wr.1.1 18) (wr.1.1 22) (Int32.ofNat m) p k q) :: st) ((120, cu, su), dS i f wr, l, kR f t sp) K := by
    intro wr p k q y nx L st hd K
    rw [c_refusal (d := d + 1) (i := dS i f wr) c13 (hmD _) h8, e8D, (dS_13 hf).1, (dS_13 hf).2.1, (dS_13 hf).2.2.2.2, hmD]
  have S4 : ∀ (wr : WN × Int32) (a : Nat) (k q : Int32) (y nx : Nat) (L st : List Value) (hd : List (Int × Nat)) (K : Option (Option Value) → kS → Prop), a < 8 → kCA sc (d + 5) 9 [.ref 13, .ref 5, .int (Int32.ofNat a), .int k, .int q] y nx hd L st ((120, cu, su), dS i f wr, l, kR f t sp) K = kWP sc (d + 5) y nx L st ((120, cu, su), dS i f ((qGo (i 9) wr.1.1 a k q, wr.1.2), wr.2), l, kR f t sp) K := by
    intro wr a k q y nx L st hd K ha
    have := c_goOnG (sc := sc) (d := d + 2) (y := y) (nx := nx) (hd := hd) (L := L) (st := st) (cu := cu) (su := su) (i := kupi i 84 0 wr.2) (l := l) (f := f) (t := t) (sp := sp) (K := K) (w := wr.1) (k := k) (q := q) hf ha
    rw [kc84 (show 9 ≠ 84 by decide)] at this
    exact this
  simp only [e_X10_liveOn_0, e_X10_liveOn_1, e_X10_liveOn_4, e_X10_liveOn_5, e_X10_liveOn_8, e_X10_liveOn_9, e_X10_liveOn_10, e_X10_liveOn_11, e_X10_liveOn_14, e_X10_liveOn_15, e_X10_liveOn_18, e_X10_liveOn_19, e_X10_liveOn_22, e_X10_liveOn_23, e_X10_liveOn_26, e_X10_liveOn_27, e_X10_liveOn_30, e_X10_liveOn_31, e_X10_liveOn_34, e_X10_liveOn_37, e_X10_liveOn_40, e_X10_liveOn_41, e_X10_liveOn_42, e_X10_liveOn_45, e_X10_liveOn_48, e_X10_liveOn_51, e_X10_liveOn_52, e_X10_liveOn_53, e_X10_liveOn_56, e_X10_liveOn_57, e_X10_liveOn_60, e_X10_liveOn_63, e_X10_liveOn_66, e_X10_liveOn_67, e_X10_liveOn_68, e_X10_liveOn_69, e_X10_liveOn_72, e_X10_liveOn_73, e_X10_liveOn_76, e_X10_liveOn_77, e_X10_liveOn_78, e_X10_liveOn_79, e_X10_liveOn_80, e_X10_liveOn_83, e_X10_liveOn_84, e_X10_liveOn_87, e_X10_liveOn_88, e_X10_liveOn_91, e_X10_liveOn_94, e_X10_liveOn_97, e_X10_liveOn_100, e_X10_liveOn_101, e_X10_liveOn_103, e_X10_liveOn_104, e_X10_liveOn_107, e_X10_liveOn_108, e_X10_liveOn_111, e_X10_liveOn_112, e_X10_liveOn_113, e_X10_liveOn_115, e_X10_liveOn_118, e_X10_liveOn_121, e_X10_liveOn_122, e_X10_liveOn_125, e_X10_liveOn_126, e_X10_liveOn_129, e_X10_liveOn_130, e_X10_liveOn_131, e_X10_liveOn_133, e_X10_liveOn_136, ob_0, rk_0_9, ob_84, rk_0_4, rk_0_2, rk_0_10, ob_10, ob_13, ob_5, kcl_i, kcl_r, kcl_l, kcl_0, kcl_n, true_and, and_true, c_ofD hD hO hf (show (1 : Int32) ≤ 4 by decide)]
  unfold yC
  by_cases c1 : O (D wr.2) 4 < 2
  · have c1' : ¬ 2 ≤ O (D wr.2) 4 := Int32.not_le.2 c1
    simp only [c1, c1', if_true, if_false, S1, S2, e_X10_liveOn_0, e_X10_liveOn_1, e_X10_liveOn_4, e_X10_liveOn_5, e_X10_liveOn_8, e_X10_liveOn_9, e_X10_liveOn_10, e_X10_liveOn_11, e_X10_liveOn_14, e_X10_liveOn_15, e_X10_liveOn_18, e_X10_liveOn_19, e_X10_liveOn_22, e_X10_liveOn_23, e_X10_liveOn_26, e_X10_liveOn_27, e_X10_liveOn_30, e_X10_liveOn_31, e_X10_liveOn_34, e_X10_liveOn_37, e_X10_liveOn_40, e_X10_liveOn_41, e_X10_liveOn_42, e_X10_liveOn_45, e_X10_liveOn_48, e_X10_liveOn_51, e_X10_liveOn_52, e_X10_liveOn_53, e_X10_liveOn_56, e_X10_liveOn_57, e_X10_liveOn_60, e_X10_liveOn_63, e_X10_liveOn_66, e_X10_liveOn_67, e_X10_liveOn_68, e_X10_liveOn_69, e_X10_liveOn_72, e_X10_liveOn_73, e_X10_liveOn_76, e_X10_liveOn_77, e_X10_liveOn_78, e_X10_liveOn_79, e_X10_liveOn_80, e_X10_liveOn_83, e_X10_liveOn_84, e_X10_liveOn_87, e_X10_liveOn_88, e_X10_liveOn_91, e_X10_liveOn_94, e_X10_liveOn_97, e_X10_liveOn_100, e_X10_liveOn_101, e_X10_liveOn_103, e_X10_liveOn_104, e_X10_liveOn_107, e_X10_liveOn_108, e_X10_liveOn_111, e_X10_liveOn_112, e_X10_liveOn_113, e_X10_liveOn_115, e_X10_liveOn_118, e_X10_liveOn_121, e_X10_liveOn_122, e_X10_liveOn_125, e_X10_liveOn_126, e_X10_liveOn_129, e_X10_liveOn_130, e_X10_liveOn_131, e_X10_liveOn_133, e_X10_liveOn_136, ob_0, rk_0_9, ob_84, rk_0_4, rk_0_2, rk_0_10, ob_10, ob_13, ob_5, kcl_i, kcl_r, kcl_l, kcl_0, kcl_n, true_and, and_true]
    rfl
  · have c1' : 2 ≤ O (D wr.2) 4 := Int32.not_lt.1 c1
    by_cases c2 : m = 0
    · have m0 : (Int32.ofNat m = 0) = True := by rw [tn_z (by omega)]; exact eq_true c2
      simp only [c1, c1', if_true, if_false, hmD, m0, eq_true c2]
    · have m0 : (Int32.ofNat m = 0) = False := by rw [tn_z (by omega)]; exact eq_false c2
      have m1 : (1 : Int32) ≤ Int32.ofNat m := by rw [show (1 : Int32) = Int32.ofNat 1 from rfl, tn_le (by decide) (by omega)]; omega
      obtain ⟨a, ha, ea⟩ := qOf_natO hO (D (D wr.2)) (n := m) (by omega) h8
      have eM : yMan D O m wr.2 = Int32.ofNat a := ea
      by_cases c3 : O (D wr.2) 4 = 2
      · simp only [c3, show ((2 : Int32) ≤ 2) = True from eq_true (by decide), show ((2 : Int32) < 2) = False from eq_false (by decide), if_true, if_false, hmD, m0, eq_false c2, c_ofD hD hO hf m1, z12, ea, S3, e_X10_liveOn_0, e_X10_liveOn_1, e_X10_liveOn_4, e_X10_liveOn_5, e_X10_liveOn_8, e_X10_liveOn_9, e_X10_liveOn_10, e_X10_liveOn_11, e_X10_liveOn_14, e_X10_liveOn_15, e_X10_liveOn_18, e_X10_liveOn_19, e_X10_liveOn_22, e_X10_liveOn_23, e_X10_liveOn_26, e_X10_liveOn_27, e_X10_liveOn_30, e_X10_liveOn_31, e_X10_liveOn_34, e_X10_liveOn_37, e_X10_liveOn_40, e_X10_liveOn_41, e_X10_liveOn_42, e_X10_liveOn_45, e_X10_liveOn_48, e_X10_liveOn_51, e_X10_liveOn_52, e_X10_liveOn_53, e_X10_liveOn_56, e_X10_liveOn_57, e_X10_liveOn_60, e_X10_liveOn_63, e_X10_liveOn_66, e_X10_liveOn_67, e_X10_liveOn_68, e_X10_liveOn_69, e_X10_liveOn_72, e_X10_liveOn_73, e_X10_liveOn_76, e_X10_liveOn_77, e_X10_liveOn_78, e_X10_liveOn_79, e_X10_liveOn_80, e_X10_liveOn_83, e_X10_liveOn_84, e_X10_liveOn_87, e_X10_liveOn_88, e_X10_liveOn_91, e_X10_liveOn_94, e_X10_liveOn_97, e_X10_liveOn_100, e_X10_liveOn_101, e_X10_liveOn_103, e_X10_liveOn_104, e_X10_liveOn_107, e_X10_liveOn_108, e_X10_liveOn_111, e_X10_liveOn_112, e_X10_liveOn_113, e_X10_liveOn_115, e_X10_liveOn_118, e_X10_liveOn_121, e_X10_liveOn_122, e_X10_liveOn_125, e_X10_liveOn_126, e_X10_liveOn_129, e_X10_liveOn_130, e_X10_liveOn_131, e_X10_liveOn_133, e_X10_liveOn_136, ob_0, rk_0_9, ob_84, rk_0_4, rk_0_2, rk_0_10, ob_10, ob_13, ob_5, kcl_i, kcl_r, kcl_l, kcl_0, kcl_n, true_and, and_true]
        unfold yTalkC
        rw [eM]
        by_cases c4 : pRefuse (i 8) (wr.1.1 17) (wr.1.1 18) (wr.1.1 22) (Int32.ofNat m) (Int32.ofNat a) 1 (-1) = 0
        · simp only [c4, if_true, S4 _ a _ _ _ _ _ _ _ _ (show a < 8 by omega), e_X10_liveOn_0, e_X10_liveOn_1, e_X10_liveOn_4, e_X10_liveOn_5, e_X10_liveOn_8, e_X10_liveOn_9, e_X10_liveOn_10, e_X10_liveOn_11, e_X10_liveOn_14, e_X10_liveOn_15, e_X10_liveOn_18, e_X10_liveOn_19, e_X10_liveOn_22, e_X10_liveOn_23, e_X10_liveOn_26, e_X10_liveOn_27, e_X10_liveOn_30, e_X10_liveOn_31, e_X10_liveOn_34, e_X10_liveOn_37, e_X10_liveOn_40, e_X10_liveOn_41, e_X10_liveOn_42, e_X10_liveOn_45, e_X10_liveOn_48, e_X10_liveOn_51, e_X10_liveOn_52, e_X10_liveOn_53, e_X10_liveOn_56, e_X10_liveOn_57, e_X10_liveOn_60, e_X10_liveOn_63, e_X10_liveOn_66, e_X10_liveOn_67, e_X10_liveOn_68, e_X10_liveOn_69, e_X10_liveOn_72, e_X10_liveOn_73, e_X10_liveOn_76, e_X10_liveOn_77, e_X10_liveOn_78, e_X10_liveOn_79, e_X10_liveOn_80, e_X10_liveOn_83, e_X10_liveOn_84, e_X10_liveOn_87, e_X10_liveOn_88, e_X10_liveOn_91, e_X10_liveOn_94, e_X10_liveOn_97, e_X10_liveOn_100, e_X10_liveOn_101, e_X10_liveOn_103, e_X10_liveOn_104, e_X10_liveOn_107, e_X10_liveOn_108, e_X10_liveOn_111, e_X10_liveOn_112, e_X10_liveOn_113, e_X10_liveOn_115, e_X10_liveOn_118, e_X10_liveOn_121, e_X10_liveOn_122, e_X10_liveOn_125, e_X10_liveOn_126, e_X10_liveOn_129, e_X10_liveOn_130, e_X10_liveOn_131, e_X10_liveOn_133, e_X10_liveOn_136, ob_0, rk_0_9, ob_84, rk_0_4, rk_0_2, rk_0_10, ob_10, ob_13, ob_5, kcl_i, kcl_r, kcl_l, kcl_0, kcl_n, true_and, and_true, tn_cl (show a < 2147483648 by omega)]
        · simp only [c4, if_false]
      · obtain ⟨b, hb, eb⟩ := qOf_natO hO (D (D (D wr.2))) (n := m) (by omega) h8
        have eO : yOth D O m wr.2 = Int32.ofNat b := eb
        simp only [c3, c1, c1', if_true, if_false, hmD, m0, eq_false c2, c_ofD hD hO hf m1, ea, eb, S3, e_X10_liveOn_0, e_X10_liveOn_1, e_X10_liveOn_4, e_X10_liveOn_5, e_X10_liveOn_8, e_X10_liveOn_9, e_X10_liveOn_10, e_X10_liveOn_11, e_X10_liveOn_14, e_X10_liveOn_15, e_X10_liveOn_18, e_X10_liveOn_19, e_X10_liveOn_22, e_X10_liveOn_23, e_X10_liveOn_26, e_X10_liveOn_27, e_X10_liveOn_30, e_X10_liveOn_31, e_X10_liveOn_34, e_X10_liveOn_37, e_X10_liveOn_40, e_X10_liveOn_41, e_X10_liveOn_42, e_X10_liveOn_45, e_X10_liveOn_48, e_X10_liveOn_51, e_X10_liveOn_52, e_X10_liveOn_53, e_X10_liveOn_56, e_X10_liveOn_57, e_X10_liveOn_60, e_X10_liveOn_63, e_X10_liveOn_66, e_X10_liveOn_67, e_X10_liveOn_68, e_X10_liveOn_69, e_X10_liveOn_72, e_X10_liveOn_73, e_X10_liveOn_76, e_X10_liveOn_77, e_X10_liveOn_78, e_X10_liveOn_79, e_X10_liveOn_80, e_X10_liveOn_83, e_X10_liveOn_84, e_X10_liveOn_87, e_X10_liveOn_88, e_X10_liveOn_91, e_X10_liveOn_94, e_X10_liveOn_97, e_X10_liveOn_100, e_X10_liveOn_101, e_X10_liveOn_103, e_X10_liveOn_104, e_X10_liveOn_107, e_X10_liveOn_108, e_X10_liveOn_111, e_X10_liveOn_112, e_X10_liveOn_113, e_X10_liveOn_115, e_X10_liveOn_118, e_X10_liveOn_121, e_X10_liveOn_122, e_X10_liveOn_125, e_X10_liveOn_126, e_X10_liveOn_129, e_X10_liveOn_130, e_X10_liveOn_131, e_X10_liveOn_133, e_X10_liveOn_136, ob_0, rk_0_9, ob_84, rk_0_4, rk_0_2, rk_0_10, ob_10, ob_13, ob_5, kcl_i, kcl_r, kcl_l, kcl_0, kcl_n, true_and, and_true]
        unfold yTalkC
        rw [eM, eO]
        by_cases c4 : pRefuse (i 8) (wr.1.1 17) (wr.1.1 18) (wr.1.1 22) (Int32.ofNat m) (Int32.ofNat a) 2 (Int32.ofNat b) = 0
        · simp only [c4, if_true, S4 _ a _ _ _ _ _ _ _ _ (show a < 8 by omega), e_X10_liveOn_0, e_X10_liveOn_1, e_X10_liveOn_4, e_X10_liveOn_5, e_X10_liveOn_8, e_X10_liveOn_9, e_X10_liveOn_10, e_X10_liveOn_11, e_X10_liveOn_14, e_X10_liveOn_15, e_X10_liveOn_18, e_X10_liveOn_19, e_X10_liveOn_22, e_X10_liveOn_23, e_X10_liveOn_26, e_X10_liveOn_27, e_X10_liveOn_30, e_X10_liveOn_31, e_X10_liveOn_34, e_X10_liveOn_37, e_X10_liveOn_40, e_X10_liveOn_41, e_X10_liveOn_42, e_X10_liveOn_45, e_X10_liveOn_48, e_X10_liveOn_51, e_X10_liveOn_52, e_X10_liveOn_53, e_X10_liveOn_56, e_X10_liveOn_57, e_X10_liveOn_60, e_X10_liveOn_63, e_X10_liveOn_66, e_X10_liveOn_67, e_X10_liveOn_68, e_X10_liveOn_69, e_X10_liveOn_72, e_X10_liveOn_73, e_X10_liveOn_76, e_X10_liveOn_77, e_X10_liveOn_78, e_X10_liveOn_79, e_X10_liveOn_80, e_X10_liveOn_83, e_X10_liveOn_84, e_X10_liveOn_87, e_X10_liveOn_88, e_X10_liveOn_91, e_X10_liveOn_94, e_X10_liveOn_97, e_X10_liveOn_100, e_X10_liveOn_101, e_X10_liveOn_103, e_X10_liveOn_104, e_X10_liveOn_107, e_X10_liveOn_108, e_X10_liveOn_111, e_X10_liveOn_112, e_X10_liveOn_113, e_X10_liveOn_115, e_X10_liveOn_118, e_X10_liveOn_121, e_X10_liveOn_122, e_X10_liveOn_125, e_X10_liveOn_126, e_X10_liveOn_129, e_X10_liveOn_130, e_X10_liveOn_131, e_X10_liveOn_133, e_X10_liveOn_136, ob_0, rk_0_9, ob_84, rk_0_4, rk_0_2, rk_0_10, ob_10, ob_13, ob_5, kcl_i, kcl_r, kcl_l, kcl_0, kcl_n, true_and, and_true, tn_cl (show a < 2147483648 by omega)]
        · simp only [c4, if_false]
theorem m_draws {n : Int32} (h0 : ¬ n = 0) : kCA sc (d + 1) 249 [.ref 91, .int n] y nx hd L st ((120, cu, su), i, l, kR f t sp) K = kWP sc (d + 1) y nx L (.int (qOf (qDr (i 91 43)) n) :: st) ((120, cu, su), kupi i 91 43 (qDr (i 91 43)), l, kR f t sp) K := by
  refine kCA_of (d := d) (v := some (.int (qOf (qDr (i 91 43)) n))) (S2 := ((120, cu, su), kupi i 91 43 (qDr (i 91 43)), l, kR f t sp)) (fun K => ?_)
  rw [km_249]
  show kWP sc (d) 249 0 [.ref 91, .int n] [] ((120, cu, su), i, l, kR f t sp) K = K (some (some (.int (qOf (qDr (i 91 43)) n)))) ((120, cu, su), kupi i 91 43 (qDr (i 91 43)), l, kR f t sp)
  simp only [e_X11_draws_0, e_X11_draws_1, e_X11_draws_2, e_X11_draws_5, e_X11_draws_8, e_X11_draws_9, e_X11_draws_12, e_X11_draws_13, e_X11_draws_16, e_X11_draws_17, e_X11_draws_20, e_X11_draws_22, e_X11_draws_23, e_X11_draws_24, e_X11_draws_25, ob_91, kcl_i, kcl_r, kcl_l, kcl_0, kcl_n, true_and, and_true, kupi_s, h0, not_false_eq_true, true_and]
  rfl
/-- the reference's row with the state of its draws -/
def eM (j : Nat → Nat → Int32) (u : WM × Int32) : Nat → Nat → Int32 := mS (kupi j 91 43 u.2) 97 u.1
theorem mS_43 {r : Int32} : kupi (mS j 97 u) 91 43 r = mS (kupi j 91 43 r) 97 u := by
  funext c z
  unfold kupi mS mPut
  dsimp only
  by_cases q : c = 91 ∧ z = 43
  · rw [if_pos q, if_neg (by omega), if_neg (by omega), if_neg (by omega), if_neg (by omega), if_pos q]
  · rw [if_neg q, if_neg q]
theorem eM_43 {ur : WM × Int32} : eM j ur 91 43 = ur.2 := by unfold eM; rw [mS_f b97 (by decide), kupi_s]
theorem m_drawsE {ur : WM × Int32} {n : Int32} (hD : D = qDr) (hO : O = qOf) (h0 : ¬ n = 0) : kCA sc (d + 1) 249 [.ref 91, .int n] y nx hd L st ((120, cu, su), eM j ur, l, kR f t sp) K = kWP sc (d + 1) y nx L (.int (O (D ur.2) n) :: st) ((120, cu, su), eM j (ur.1, D ur.2), l, kR f t sp) K := by
  subst hD; subst hO
  rw [m_draws h0, eM_43]
  unfold eM
  rw [mS_43, kup2]
theorem k43 {c : Nat} (h : c ≠ 91) {v : Int32} : kupi j 91 43 v c = j c := kupi_cf h
theorem mCo_43 {v : Int32} : mCo (kupi j 91 43 v) = mCo j := by unfold mCo; rw [k43 (by decide), k43 (by decide), k43 (by decide)]
def ySt (D : Int32 → Int32) (O : Int32 → Int32 → Int32) (le co br : Nat → Int32) (m : Nat) (acts : Nat → Int32) (n x : Nat) (w : WN × Int32) : WN × Int32 := kfo (fun _ w => yC D O le co br m acts n w) x w
def ySm (D : Int32 → Int32) (O : Int32 → Int32 → Int32) (le co br : Nat → Int32) (m : Nat) (code : Nat → Int32) (n2 x : Nat) (u : WM × Int32) : WM × Int32 := kfo (fun _ u => yM D O le co br m code n2 u) x u
theorem ys_rel {wr : WN × Int32} {ur : WM × Int32} (hco : ∀ a, a < m → co a = co2 a) (hbr : ∀ a, a < m → br a = br2 a) (hb8 : ∀ a, b8 (co2 a)) (h8 : m ≤ 8) (hle : leOk le) (hr : RR acts n code n2) (h : NR m wr.1.1 ur.1.1) (h2 : wr.2 = ur.2) : ∀ x, NR m (ySt D O le co br m acts n x wr).1.1 (ySm D O le co2 br2 m code n2 x ur).1.1 ∧ (ySt D O le co br m acts n x wr).2 = (ySm D O le co2 br2 m code n2 x ur).2 ∧ (ySm D O le co2 br2 m code n2 x ur).1.2.1 25 = ur.1.2.1 25 + ((ySm D O le co2 br2 m code n2 x ur).1.1 21 - ur.1.1 21) := by
  intro x
  induction x with
  | zero =>
    refine ⟨h, h2, ?_⟩
    show ur.1.2.1 25 = ur.1.2.1 25 + (ur.1.1 21 - ur.1.1 21)
    rw [Int32.sub_self, Int32.add_zero]
  | succ x ih =>
    have T := y_rel (D := D) (O := O) (wr := ySt D O le co br m acts n x wr) (ur := ySm D O le co2 br2 m code n2 x ur) hco hbr hb8 h8 hle hr ih.1 ih.2.1
    refine ⟨T.1, T.2.1, ?_⟩
    show (yM D O le co2 br2 m code n2 (ySm D O le co2 br2 m code n2 x ur)).1.2.1 25 = ur.1.2.1 25 + ((yM D O le co2 br2 m code n2 (ySm D O le co2 br2 m code n2 x ur)).1.1 21 - ur.1.1 21)
    rw [T.2.2, ih.2.2, Int32.add_assoc, sub_add3]
theorem m_years {p : Int32} {z : Nat} (hD : D = qDr) (hO : O = qOf) (h : RF m n2 (uPut i) N) (h1 : 1 ≤ z) (h60 : z ≤ 60) (U : WM × Int32) (hU : U = ySm D O (i 93) (mCo i) (i 94) m (i 100) n2 z (uZ (u0 (kupi (uPut i) 91 43 p)) (kuf (u0 (kupi (uPut i) 91 43 p)).2.1 25 0), p)) : CC 250 [.ref 91, .int p, .int (Int32.ofNat z)] i l f t sp (.int (U.1.2.1 25)) (vPut (eM (uPut i) U) 2) (tR l 0 [(if U.1.1 18 < 0 then (-2 : Int32) else U.1.1 18).toInt64, (U.1.1 19).toInt64]) f t sp := by
  obtain ⟨hm, h8, hn, hc, hle, hN⟩ := id h
  have c1 : ¬ Int32.ofNat z < 1 ∧ ¬ 60 < Int32.ofNat z := ⟨by rw [show (1 : Int32) = Int32.ofNat 1 from rfl, tn_lt (by omega) (by decide)]; omega, by rw [show (60 : Int32) = Int32.ofNat 60 from rfl, tn_lt (by decide) (by omega)]; omega⟩
  have hr : RR (aOf (i 100) n2) (nOf n2) (i 100) n2 := ⟨hc, rfl, fun _ _ => rfl⟩
  obtain ⟨U0', hU0⟩ : ∃ U0' : WM × Int32, U0' = (uZ (u0 (kupi (uPut i) 91 43 p)) (kuf (u0 (kupi (uPut i) 91 43 p)).2.1 25 0), p) := ⟨_, rfl⟩
  rw [← hU0] at hU
  have rel := fun x => (ys_rel (D := D) (O := O) (wr := ((N, 0, fun _ => 0), p)) (ur := U0') (le := i 93) (co := mCo i) (co2 := mCo i) (br := i 94) (br2 := i 94) (acts := aOf (i 100) n2) (n := nOf n2) (code := i 100) (n2 := n2) (fun _ _ => rfl) (fun _ _ => rfl) (fun a => b8_mCo a) h8 hle hr (by rw [hU0]; exact hN) (by rw [hU0]) x).1
  intro sc d y nx hd L st cu su K
  have e3 : ∀ ur : WM × Int32, eM (uPut i) ur 91 3 = Int32.ofNat m := fun ur => by unfold eM; rw [mS_f b97 (by decide), kupi_k (by decide)]; exact hm
  refine kCA_of (d := d + 499) (v := some (.int _)) (fun K => ?_)
  rw [km_250]
  show kWP sc (d + 499) 250 0 [.ref 91, .int p, .int (Int32.ofNat z), .retAddr 0, .retAddr 0, .retAddr 0] [] _ K = _
  have s0 : kupi (mS (kupi (uPut i) 91 43 p) 97 (u0 (kupi (uPut i) 91 43 p))) 91 25 0 = eM (uPut i) U0' := by
    rw [mS_z b97 (by decide) (by decide), hU0]; rfl
  simp only [e_X11_years_0, e_X11_years_1, e_X11_years_2, e_X11_years_5, e_X11_years_6, e_X11_years_7, e_X11_years_8, e_X11_years_11, e_X11_years_14, e_X11_years_17, e_X11_years_18, e_X11_years_19, e_X11_years_20, e_X11_years_21, e_X11_years_24, e_X11_years_25, e_X11_years_28, e_X11_years_29, e_X11_years_30, e_X11_years_33, e_X11_years_34, e_X11_years_36, e_X11_years_37, e_X11_years_40, e_X11_years_41, e_X11_years_42, e_X11_years_45, e_X11_years_47, e_X11_years_49, e_X11_years_50, e_X11_years_53, e_X11_years_54, e_X11_years_55, e_X11_years_58, e_X11_years_61, e_X11_years_64, e_X11_years_65, e_X11_years_68, e_X11_years_71, e_X11_years_72, e_X11_years_73, e_X11_years_76, e_X11_years_79, e_X11_years_81, e_X11_years_82, e_X11_years_83, e_X11_years_86, e_X11_years_88, e_X11_years_90, e_X11_years_91, e_X11_years_94, e_X11_years_95, e_X11_years_98, e_X11_years_99, e_X11_years_101, e_X11_years_102, e_X11_years_105, e_X11_years_106, e_X11_years_109, e_X11_years_110, e_X11_years_111, e_X11_years_114, e_X11_years_117, e_X11_years_120, e_X11_years_121, e_X11_years_124, e_X11_years_127, e_X11_years_128, e_X11_years_129, e_X11_years_132, e_X11_years_133, e_X11_years_134, e_X11_years_137, e_X11_years_139, e_X11_years_140, e_X11_years_143, e_X11_years_144, e_X11_years_147, e_X11_years_148, e_X11_years_149, e_X11_years_152, e_X11_years_154, e_X11_years_155, e_X11_years_156, e_X11_years_159, e_X11_years_160, e_X11_years_163, ob_91, rk_91_9, ar_97, kcl_i, kcl_r, kcl_l, kcl_0, kcl_n, true_and, and_true, uP_0, l1, l60, m_in, m_inI, kb_0, c1, not_true_eq_false, not_false_eq_true, and_self, if_false, m_copies, s0]
  have E := k_lq (n := z) (Q := fun x (w : Value × Value) => kWP sc (d + 499) 250 35 [.ref 91, .int p, .int (Int32.ofNat z), .int (Int32.ofNat x), w.1, w.2] [] ((120, cu, su), eM (uPut i) (ySm D O (i 93) (mCo i) (i 94) m (i 100) n2 x U0'), l, kR f t sp) K) (I := fun _ _ => True) (b0 := (.retAddr 0, .retAddr 0)) ?_ trivial
  · obtain ⟨⟨v4, v5⟩, _, e⟩ := E
    refine e.trans ?_
    rw [← hU]
    refine e_X11_years_35.trans ?_
    have r18 : ∀ k, vPut (eM (uPut i) U) k 97 18 = U.1.1 18 := fun k => by rw [v97]; exact mS_97 (by decide)
    have r19 : ∀ k, vPut (eM (uPut i) U) k 97 19 = U.1.1 19 := fun k => by rw [v97]; exact mS_97 (by decide)
    have r25 : ∀ k, vPut (eM (uPut i) U) k 91 25 = U.1.2.1 25 := fun k => by rw [vP_f (by decide)]; unfold eM; rw [mS_zr b97 (by decide) (by decide)]
    simp only [e_X11_years_0, e_X11_years_1, e_X11_years_2, e_X11_years_5, e_X11_years_6, e_X11_years_7, e_X11_years_8, e_X11_years_11, e_X11_years_14, e_X11_years_17, e_X11_years_18, e_X11_years_19, e_X11_years_20, e_X11_years_21, e_X11_years_24, e_X11_years_25, e_X11_years_28, e_X11_years_29, e_X11_years_30, e_X11_years_33, e_X11_years_34, e_X11_years_36, e_X11_years_37, e_X11_years_40, e_X11_years_41, e_X11_years_42, e_X11_years_45, e_X11_years_47, e_X11_years_49, e_X11_years_50, e_X11_years_53, e_X11_years_54, e_X11_years_55, e_X11_years_58, e_X11_years_61, e_X11_years_64, e_X11_years_65, e_X11_years_68, e_X11_years_71, e_X11_years_72, e_X11_years_73, e_X11_years_76, e_X11_years_79, e_X11_years_81, e_X11_years_82, e_X11_years_83, e_X11_years_86, e_X11_years_88, e_X11_years_90, e_X11_years_91, e_X11_years_94, e_X11_years_95, e_X11_years_98, e_X11_years_99, e_X11_years_101, e_X11_years_102, e_X11_years_105, e_X11_years_106, e_X11_years_109, e_X11_years_110, e_X11_years_111, e_X11_years_114, e_X11_years_117, e_X11_years_120, e_X11_years_121, e_X11_years_124, e_X11_years_127, e_X11_years_128, e_X11_years_129, e_X11_years_132, e_X11_years_133, e_X11_years_134, e_X11_years_137, e_X11_years_139, e_X11_years_140, e_X11_years_143, e_X11_years_144, e_X11_years_147, e_X11_years_148, e_X11_years_149, e_X11_years_152, e_X11_years_154, e_X11_years_155, e_X11_years_156, e_X11_years_159, e_X11_years_160, e_X11_years_163, ob_91, rk_91_9, ar_97, kcl_i, kcl_r, kcl_l, kcl_0, kcl_n, true_and, and_true, Int32.le_refl, if_true, vP_0, r18, r19, r25, ki18, ni18, ki19, ni19, m_orNobody, m_enters (show 0 < 256 by decide), m_enters (show 0 + 1 < 256 by decide)]
    rfl
  · intro x ⟨v4, v5⟩ hx _
    have rx := rel x
    have eN : ySm D O (i 93) (mCo i) (i 94) m (i 100) n2 (x + 1) U0' = yM D O (i 93) (mCo i) (i 94) m (i 100) n2 (ySm D O (i 93) (mCo i) (i 94) m (i 100) n2 x U0') := rfl
    rw [eN]
    generalize ySm D O (i 93) (mCo i) (i 94) m (i 100) n2 x U0' = ur at rx
    have T1 : ∀ (r : Int32) (y nx : Nat) (L st : List Value) (hd : List (Int × Nat)) (K : Option (Option Value) → kS → Prop), kCA sc (d + 499) 203 [.ref 91, .ref 97] y nx hd L st ((120, cu, su), eM (uPut i) (ur.1, r), l, kR f t sp) K = kWP sc (d + 499) y nx L st ((120, cu, su), eM (uPut i) (rT (i 93) (mCo i) (i 94) m (i 100) n2 ur.1, r), l, kR f t sp) K := by
      intro r y nx L st hd K
      have := m_turn (sc := sc) (d := d + 493) (y := y) (nx := nx) (hd := hd) (L := L) (st := st) (cu := cu) (su := su) (i := kupi (uPut i) 91 43 r) (l := l) (f := f) (t := t) (sp := sp) (K := K) (u := ur.1) (n2 := n2) (m := m) b97 (by rw [kupi_k (by decide)]; exact hm) h8 (by rw [kupi_k (by decide)]; exact hn) (by rw [k43 (by decide)]; exact hc) rx
      rw [mCo_43, k43 (show 93 ≠ 91 by decide), k43 (show 94 ≠ 91 by decide), k43 (show 100 ≠ 91 by decide), mCo_u, u93, u94] at this
      exact this
    have T2 : ∀ (r p k q : Int32) (y nx : Nat) (L st : List Value) (hd : List (Int × Nat)) (K : Option (Option Value) → kS → Prop), kCA sc (d + 499) 201 [.ref 91, .ref 97, .int p, .int k, .int q] y nx hd L st ((120, cu, su), eM (uPut i) (ur.1, r), l, kR f t sp) K = kWP sc (d + 499) y nx L (.int (tAns (mCo i) (i 93) ur.1.1 m p k q) :: st) ((120, cu, su), eM (uPut i) (yTalkM (i 93) (mCo i) m ur.1 p k q, r), l, kR f t sp) K := by
      intro r p k q y nx L st hd K
      have := m_talks (sc := sc) (d := d + 494) (y := y) (nx := nx) (hd := hd) (L := L) (st := st) (cu := cu) (su := su) (i := kupi (uPut i) 91 43 r) (l := l) (f := f) (t := t) (sp := sp) (K := K) (M := ur.1.1) (Z := ur.1.2.1) (S1 := ur.1.2.2.1) (Q := ur.1.2.2.2) (p := p) (k := k) (q := q) (m := m) b97 (by rw [kupi_k (by decide)]; exact hm) h8 (NR_22 h8 rx)
      rw [mCo_43, k43 (show 93 ≠ 91 by decide), mCo_u, u93] at this
      exact this
    have eE : eM (uPut i) ur = eM (uPut i) (ur.1, ur.2) := rfl
    by_cases c1 : O (D ur.2) 4 < 2
    · have c1' : ¬ 2 ≤ O (D ur.2) 4 := Int32.not_le.2 c1
      refine ⟨(.int (O (D ur.2) 4), v5), trivial, ?_⟩
      refine e_X11_years_35.trans ?_
      simp only [e_X11_years_0, e_X11_years_1, e_X11_years_2, e_X11_years_5, e_X11_years_6, e_X11_years_7, e_X11_years_8, e_X11_years_11, e_X11_years_14, e_X11_years_17, e_X11_years_18, e_X11_years_19, e_X11_years_20, e_X11_years_21, e_X11_years_24, e_X11_years_25, e_X11_years_28, e_X11_years_29, e_X11_years_30, e_X11_years_33, e_X11_years_34, e_X11_years_36, e_X11_years_37, e_X11_years_40, e_X11_years_41, e_X11_years_42, e_X11_years_45, e_X11_years_47, e_X11_years_49, e_X11_years_50, e_X11_years_53, e_X11_years_54, e_X11_years_55, e_X11_years_58, e_X11_years_61, e_X11_years_64, e_X11_years_65, e_X11_years_68, e_X11_years_71, e_X11_years_72, e_X11_years_73, e_X11_years_76, e_X11_years_79, e_X11_years_81, e_X11_years_82, e_X11_years_83, e_X11_years_86, e_X11_years_88, e_X11_years_90, e_X11_years_91, e_X11_years_94, e_X11_years_95, e_X11_years_98, e_X11_years_99, e_X11_years_101, e_X11_years_102, e_X11_years_105, e_X11_years_106, e_X11_years_109, e_X11_years_110, e_X11_years_111, e_X11_years_114, e_X11_years_117, e_X11_years_120, e_X11_years_121, e_X11_years_124, e_X11_years_127, e_X11_years_128, e_X11_years_129, e_X11_years_132, e_X11_years_133, e_X11_years_134, e_X11_years_137, e_X11_years_139, e_X11_years_140, e_X11_years_143, e_X11_years_144, e_X11_years_147, e_X11_years_148, e_X11_years_149, e_X11_years_152, e_X11_years_154, e_X11_years_155, e_X11_years_156, e_X11_years_159, e_X11_years_160, e_X11_years_163, ob_91, rk_91_9, ar_97, kcl_i, kcl_r, kcl_l, kcl_0, kcl_n, true_and, and_true, jpF hx (by omega), if_false, m_drawsE hD hO (show ¬ (4 : Int32) = 0 by decide), c1', T1, tn_s]
      unfold yM
      simp only [c1, if_true]
    · have c1' : 2 ≤ O (D ur.2) 4 := Int32.not_lt.1 c1
      by_cases c2 : m = 0
      · have m0 : (Int32.ofNat m ≤ 0) = True := by rw [le0_nat (by omega)]; exact eq_true (by omega)
        refine ⟨(.int (O (D ur.2) 4), v5), trivial, ?_⟩
        refine e_X11_years_35.trans ?_
        simp only [e_X11_years_0, e_X11_years_1, e_X11_years_2, e_X11_years_5, e_X11_years_6, e_X11_years_7, e_X11_years_8, e_X11_years_11, e_X11_years_14, e_X11_years_17, e_X11_years_18, e_X11_years_19, e_X11_years_20, e_X11_years_21, e_X11_years_24, e_X11_years_25, e_X11_years_28, e_X11_years_29, e_X11_years_30, e_X11_years_33, e_X11_years_34, e_X11_years_36, e_X11_years_37, e_X11_years_40, e_X11_years_41, e_X11_years_42, e_X11_years_45, e_X11_years_47, e_X11_years_49, e_X11_years_50, e_X11_years_53, e_X11_years_54, e_X11_years_55, e_X11_years_58, e_X11_years_61, e_X11_years_64, e_X11_years_65, e_X11_years_68, e_X11_years_71, e_X11_years_72, e_X11_years_73, e_X11_years_76, e_X11_years_79, e_X11_years_81, e_X11_years_82, e_X11_years_83, e_X11_years_86, e_X11_years_88, e_X11_years_90, e_X11_years_91, e_X11_years_94, e_X11_years_95, e_X11_years_98, e_X11_years_99, e_X11_years_101, e_X11_years_102, e_X11_years_105, e_X11_years_106, e_X11_years_109, e_X11_years_110, e_X11_years_111, e_X11_years_114, e_X11_years_117, e_X11_years_120, e_X11_years_121, e_X11_years_124, e_X11_years_127, e_X11_years_128, e_X11_years_129, e_X11_years_132, e_X11_years_133, e_X11_years_134, e_X11_years_137, e_X11_years_139, e_X11_years_140, e_X11_years_143, e_X11_years_144, e_X11_years_147, e_X11_years_148, e_X11_years_149, e_X11_years_152, e_X11_years_154, e_X11_years_155, e_X11_years_156, e_X11_years_159, e_X11_years_160, e_X11_years_163, ob_91, rk_91_9, ar_97, kcl_i, kcl_r, kcl_l, kcl_0, kcl_n, true_and, and_true, jpF hx (by omega), if_false, m_drawsE hD hO (show ¬ (4 : Int32) = 0 by decide), c1', if_true, e3, m0, tn_s]
        unfold yM
        simp only [c1, eq_true c2, if_true, if_false]
      · have m0 : (Int32.ofNat m ≤ 0) = False := by rw [le0_nat (by omega)]; exact eq_false (by omega)
        have mz : ¬ Int32.ofNat m = 0 := by rw [tn_z (by omega)]; exact c2
        by_cases c3 : O (D ur.2) 4 = 2
        · refine ⟨(.int (O (D ur.2) 4), .int (yMan D O m ur.2)), trivial, ?_⟩
          refine e_X11_years_35.trans ?_
          simp only [e_X11_years_0, e_X11_years_1, e_X11_years_2, e_X11_years_5, e_X11_years_6, e_X11_years_7, e_X11_years_8, e_X11_years_11, e_X11_years_14, e_X11_years_17, e_X11_years_18, e_X11_years_19, e_X11_years_20, e_X11_years_21, e_X11_years_24, e_X11_years_25, e_X11_years_28, e_X11_years_29, e_X11_years_30, e_X11_years_33, e_X11_years_34, e_X11_years_36, e_X11_years_37, e_X11_years_40, e_X11_years_41, e_X11_years_42, e_X11_years_45, e_X11_years_47, e_X11_years_49, e_X11_years_50, e_X11_years_53, e_X11_years_54, e_X11_years_55, e_X11_years_58, e_X11_years_61, e_X11_years_64, e_X11_years_65, e_X11_years_68, e_X11_years_71, e_X11_years_72, e_X11_years_73, e_X11_years_76, e_X11_years_79, e_X11_years_81, e_X11_years_82, e_X11_years_83, e_X11_years_86, e_X11_years_88, e_X11_years_90, e_X11_years_91, e_X11_years_94, e_X11_years_95, e_X11_years_98, e_X11_years_99, e_X11_years_101, e_X11_years_102, e_X11_years_105, e_X11_years_106, e_X11_years_109, e_X11_years_110, e_X11_years_111, e_X11_years_114, e_X11_years_117, e_X11_years_120, e_X11_years_121, e_X11_years_124, e_X11_years_127, e_X11_years_128, e_X11_years_129, e_X11_years_132, e_X11_years_133, e_X11_years_134, e_X11_years_137, e_X11_years_139, e_X11_years_140, e_X11_years_143, e_X11_years_144, e_X11_years_147, e_X11_years_148, e_X11_years_149, e_X11_years_152, e_X11_years_154, e_X11_years_155, e_X11_years_156, e_X11_years_159, e_X11_years_160, e_X11_years_163, ob_91, rk_91_9, ar_97, kcl_i, kcl_r, kcl_l, kcl_0, kcl_n, true_and, and_true, jpF hx (by omega), if_false, m_drawsE hD hO (show ¬ (4 : Int32) = 0 by decide), c3, show ((2 : Int32) ≤ 2) = True from eq_true (by decide), if_true, e3, m0, m_drawsE hD hO mz, T2, tn_s]
          unfold yM
          simp only [c3, show ((2 : Int32) < 2) = False from eq_false (by decide), eq_false c2, if_true, if_false]
          rfl
        · refine ⟨(.int (O (D ur.2) 4), .int (yMan D O m ur.2)), trivial, ?_⟩
          refine e_X11_years_35.trans ?_
          simp only [e_X11_years_0, e_X11_years_1, e_X11_years_2, e_X11_years_5, e_X11_years_6, e_X11_years_7, e_X11_years_8, e_X11_years_11, e_X11_years_14, e_X11_years_17, e_X11_years_18, e_X11_years_19, e_X11_years_20, e_X11_years_21, e_X11_years_24, e_X11_years_25, e_X11_years_28, e_X11_years_29, e_X11_years_30, e_X11_years_33, e_X11_years_34, e_X11_years_36, e_X11_years_37, e_X11_years_40, e_X11_years_41, e_X11_years_42, e_X11_years_45, e_X11_years_47, e_X11_years_49, e_X11_years_50, e_X11_years_53, e_X11_years_54, e_X11_years_55, e_X11_years_58, e_X11_years_61, e_X11_years_64, e_X11_years_65, e_X11_years_68, e_X11_years_71, e_X11_years_72, e_X11_years_73, e_X11_years_76, e_X11_years_79, e_X11_years_81, e_X11_years_82, e_X11_years_83, e_X11_years_86, e_X11_years_88, e_X11_years_90, e_X11_years_91, e_X11_years_94, e_X11_years_95, e_X11_years_98, e_X11_years_99, e_X11_years_101, e_X11_years_102, e_X11_years_105, e_X11_years_106, e_X11_years_109, e_X11_years_110, e_X11_years_111, e_X11_years_114, e_X11_years_117, e_X11_years_120, e_X11_years_121, e_X11_years_124, e_X11_years_127, e_X11_years_128, e_X11_years_129, e_X11_years_132, e_X11_years_133, e_X11_years_134, e_X11_years_137, e_X11_years_139, e_X11_years_140, e_X11_years_143, e_X11_years_144, e_X11_years_147, e_X11_years_148, e_X11_years_149, e_X11_years_152, e_X11_years_154, e_X11_years_155, e_X11_years_156, e_X11_years_159, e_X11_years_160, e_X11_years_163, ob_91, rk_91_9, ar_97, kcl_i, kcl_r, kcl_l, kcl_0, kcl_n, true_and, and_true, jpF hx (by omega), if_false, m_drawsE hD hO (show ¬ (4 : Int32) = 0 by decide), c3, c1', if_true, e3, m0, m_drawsE hD hO mz, T2, tn_s]
          unfold yM
          simp only [c1, c3, eq_false c2, if_false]
          rfl
theorem J_years (h : IV m i l f t sp) (p q : Int32) : JJ 132 250 [.int p, .int q] i l f t sp := by
  obtain ⟨⟨h5, h91, h8, e9, hle, hp⟩, _, _, hN, _⟩ := id h
  obtain ⟨n, n2, e2, h40, e19, hr, hf⟩ := IV_rule h
  have hNow := IV_now h
  obtain ⟨D, hD⟩ : ∃ D, D = qDr := ⟨_, rfl⟩
  obtain ⟨O, hO⟩ : ∃ O, O = qOf := ⟨_, rfl⟩
  by_cases h0 : ¬ q < 1 ∧ ¬ 60 < q
  · obtain ⟨z, hz, rfl⟩ := tn_exle (m := 60) (by decide) (Int32.le_trans (by decide) (Int32.not_lt.1 h0.1)) (Int32.not_lt.1 h0.2)
    have h60 : Int32.ofNat z ≤ 60 := Int32.not_lt.1 h0.2
    have z1 : 1 ≤ z := by
      have := h0.1
      rw [show (1 : Int32) = Int32.ofNat 1 from rfl, tn_lt (by omega) (by decide)] at this; omega
    obtain ⟨w1, hw1⟩ : ∃ w1 : WN × Int32, w1 = ySt D O (i 9) (i 8) (i 6) m (i (f + 1)) n z ((nGet i 10, rGet i f), p) := ⟨_, rfl⟩
    have agD : kAg kSc i (dS i f w1) := ag_t (ag_u ag_r rfl) (ag_gS hf)
    have ag : kAg kSc i (uPut (wPut (dS i f w1) 2)) := ag_uu (ag_w agD)
    obtain ⟨c0, c1, c2, c3, c4⟩ := ag_cells ag
    obtain ⟨d0, d1, d2, d3, d4⟩ := ag_cells (ag_w (n := 2) agD)
    obtain ⟨U, hU⟩ : ∃ U, U = ySm D O (wPut (dS i f w1) 2 93) (mCo (wPut (dS i f w1) 2)) (wPut (dS i f w1) 2 94) m (wPut (dS i f w1) 2 100) n2 z (uZ (u0 (kupi (uPut (wPut (dS i f w1) 2)) 91 43 p)) (kuf (u0 (kupi (uPut (wPut (dS i f w1) 2)) 91 43 p)).2.1 25 0), p) := ⟨_, rfl⟩
    have W := fun l => m_years (D := D) (O := O) (i := wPut (dS i f w1) 2) (l := l) (f := f) (t := t) (sp := sp) (p := p) hD hO (RF_of h e19 hr ag) z1 hz U hU
    rw [d0, d1, d2, d3] at hU
    have R := ys_rel (D := D) (O := O) (wr := ((nGet i 10, rGet i f), p)) (ur := (uZ (u0 (kupi (uPut (wPut (dS i f w1) 2)) 91 43 p)) (kuf (u0 (kupi (uPut (wPut (dS i f w1) 2)) 91 43 p)).2.1 25 0), p)) (le := i 93) (co := i 8) (co2 := mCo i) (br := i 6) (br2 := i 94) (acts := i (f + 1)) (n := n) (code := i 100) (n2 := n2) (fun a ha => (hp a ha).2.2) (fun a ha => (hp a ha).1) (fun a => b8_mCo a) h8 hle hr (by
      show NR m (nGet i 10) (kupi (uPut (wPut (dS i f w1) 2)) 91 43 p 96)
      rw [k43 (by decide), c4]; exact hN) rfl z
    rw [← hU, ← e9, ← hw1] at R
    have g1 : (uZ (u0 (kupi (uPut (wPut (dS i f w1) 2)) 91 43 p)) (kuf (u0 (kupi (uPut (wPut (dS i f w1) 2)) 91 43 p)).2.1 25 0)).2.1 25 = 0 := rfl
    have g2 : (uZ (u0 (kupi (uPut (wPut (dS i f w1) 2)) 91 43 p)) (kuf (u0 (kupi (uPut (wPut (dS i f w1) 2)) 91 43 p)).2.1 25 0)).1 21 = i 96 21 := by
      show kupi (uPut (wPut (dS i f w1) 2)) 91 43 p 96 21 = _
      rw [k43 (by decide), c4]
    have R25 := R.2.2
    rw [g1, g2, Int32.zero_add] at R25
    refine JJ_q h (w1.1.1 21 - i 96 21) 2 (dS i f w1) (eM (uPut (wPut (dS i f w1) 2)) U) [(pNob (w1.1.1 18)).toInt64, (w1.1.1 19).toInt64] rfl (by decide) agD (ag_mS (ag_u (ag_uu ag_r) rfl)) rfl ?_ ?_
    · intro sc d y nx hd L st cu su K
      have D0 : kupi (gS i f (nGet i 10, rGet i f)) 84 0 p = dS i f ((nGet i 10, rGet i f), p) := gS_84 hf
      have w10' : ∀ k, wPut (dS i f w1) k 10 4 = i 96 21 := fun k => by rw [w10, dS_lo hf (by decide)]; exact hNow.2.2.2.2.1
      refine kCA_of (d := d + 499) (v := some (.int _)) (fun K => ?_)
      rw [km_132]
      show kWP sc (d + 499) 132 0 [.ref 0, .int p, .int (Int32.ofNat z), .retAddr 0] [] _ K = _
      simp only [e_X10_years_0, e_X10_years_1, e_X10_years_2, e_X10_years_5, e_X10_years_6, e_X10_years_8, e_X10_years_11, e_X10_years_12, e_X10_years_13, e_X10_years_14, e_X10_years_17, e_X10_years_18, e_X10_years_21, e_X10_years_24, e_X10_years_25, e_X10_years_28, e_X10_years_29, e_X10_years_32, e_X10_years_33, e_X10_years_35, e_X10_years_36, e_X10_years_39, e_X10_years_40, e_X10_years_43, e_X10_years_46, e_X10_years_49, e_X10_years_50, e_X10_years_53, e_X10_years_56, e_X10_years_57, e_X10_years_60, e_X10_years_61, e_X10_years_64, e_X10_years_67, e_X10_years_70, e_X10_years_71, e_X10_years_74, e_X10_years_75, e_X10_years_78, e_X10_years_79, e_X10_years_82, e_X10_years_85, e_X10_years_86, e_X10_years_89, e_X10_years_90, e_X10_years_93, e_X10_years_96, e_X10_years_97, e_X10_years_100, e_X10_years_103, e_X10_years_104, ob_0, rk_0_4, rk_0_3, ob_10, ob_13, rk_0_9, ob_84, rk_0_1, ob_3, kcl_i, kcl_r, kcl_l, kcl_0, kcl_n, true_and, and_true, h0.1, h60, if_true, if_false, c_copyG hf, c_dstart, D0]
      refine (k_for (P := fun x (w : Nat) => kWP sc (d + 499) 132 34 [.ref 0, .int p, .int (Int32.ofNat z), .int (Int32.ofNat x)] [] ((120, cu, su), dS i f (ySt D O (i 9) (i 8) (i 6) m (i (f + 1)) n x ((nGet i 10, rGet i f), p)), l, kR f t sp) K) (n := z) (g := fun _ w => w) ?_ 0).trans ?_
      · intro x w hx
        have eY : yC D O (i 9) (i 8) (i 6) m (i (f + 1)) n (ySt D O (i 9) (i 8) (i 6) m (i (f + 1)) n x ((nGet i 10, rGet i f), p)) = ySt D O (i 9) (i 8) (i 6) m (i (f + 1)) n (x + 1) ((nGet i 10, rGet i f), p) := rfl
        refine e_X10_years_34.trans ?_
        simp only [e_X10_years_0, e_X10_years_1, e_X10_years_2, e_X10_years_5, e_X10_years_6, e_X10_years_8, e_X10_years_11, e_X10_years_12, e_X10_years_13, e_X10_years_14, e_X10_years_17, e_X10_years_18, e_X10_years_21, e_X10_years_24, e_X10_years_25, e_X10_years_28, e_X10_years_29, e_X10_years_32, e_X10_years_33, e_X10_years_35, e_X10_years_36, e_X10_years_39, e_X10_years_40, e_X10_years_43, e_X10_years_46, e_X10_years_49, e_X10_years_50, e_X10_years_53, e_X10_years_56, e_X10_years_57, e_X10_years_60, e_X10_years_61, e_X10_years_64, e_X10_years_67, e_X10_years_70, e_X10_years_71, e_X10_years_74, e_X10_years_75, e_X10_years_78, e_X10_years_79, e_X10_years_82, e_X10_years_85, e_X10_years_86, e_X10_years_89, e_X10_years_90, e_X10_years_93, e_X10_years_96, e_X10_years_97, e_X10_years_100, e_X10_years_103, e_X10_years_104, ob_0, rk_0_4, rk_0_3, ob_10, ob_13, rk_0_9, ob_84, rk_0_1, ob_3, kcl_i, kcl_r, kcl_l, kcl_0, kcl_n, true_and, and_true, jpF hx (by omega), if_false, c_liveOn hD hO hf h5 h8 e2 h40, eY, tn_s]
      · rw [← hw1]
        refine e_X10_years_34.trans ?_
        simp only [e_X10_years_0, e_X10_years_1, e_X10_years_2, e_X10_years_5, e_X10_years_6, e_X10_years_8, e_X10_years_11, e_X10_years_12, e_X10_years_13, e_X10_years_14, e_X10_years_17, e_X10_years_18, e_X10_years_21, e_X10_years_24, e_X10_years_25, e_X10_years_28, e_X10_years_29, e_X10_years_32, e_X10_years_33, e_X10_years_35, e_X10_years_36, e_X10_years_39, e_X10_years_40, e_X10_years_43, e_X10_years_46, e_X10_years_49, e_X10_years_50, e_X10_years_53, e_X10_years_56, e_X10_years_57, e_X10_years_60, e_X10_years_61, e_X10_years_64, e_X10_years_67, e_X10_years_70, e_X10_years_71, e_X10_years_74, e_X10_years_75, e_X10_years_78, e_X10_years_79, e_X10_years_82, e_X10_years_85, e_X10_years_86, e_X10_years_89, e_X10_years_90, e_X10_years_93, e_X10_years_96, e_X10_years_97, e_X10_years_100, e_X10_years_103, e_X10_years_104, ob_0, rk_0_4, rk_0_3, ob_10, ob_13, rk_0_9, ob_84, rk_0_1, ob_3, kcl_i, kcl_r, kcl_l, kcl_0, kcl_n, true_and, and_true, Int32.le_refl, if_true, c_start, w13, (dS_13 hf).2.1, (dS_13 hf).2.2.1, (dS_13 hf).2.2.2.1, c_orNobody, c_radd (show 0 < 128 by decide), c_radd (show 0 + 1 < 128 by decide), w10']
        rfl
    · have W2 := W (tC l 0 [(pNob (w1.1.1 18)).toInt64, (w1.1.1 19).toInt64])
      rw [nob_eq R.1.1.2.2.2.1 h8, ← R.1.1.1 18 (by decide), ← R.1.1.1 19 (by decide), R25, ← R.1.1.1 21 (by decide)] at W2
      exact W2
  · refine JJ_n h (-1) i (uPut i) ag_r (ag_uu ag_r) rfl rfl ?_ ?_
    · intro sc d y nx hd L st cu su K
      refine kCA_of (d := d + 499) (v := some (.int _)) (fun K => ?_)
      rw [km_132]
      show kWP sc (d + 499) 132 0 [.ref 0, .int p, .int q, .retAddr 0] [] _ K = _
      simp only [e_X10_years_0, e_X10_years_1, e_X10_years_2, e_X10_years_5, e_X10_years_6, e_X10_years_8, e_X10_years_11, e_X10_years_12, e_X10_years_13, e_X10_years_14, e_X10_years_17, e_X10_years_18, e_X10_years_21, e_X10_years_24, e_X10_years_25, e_X10_years_28, e_X10_years_29, e_X10_years_32, e_X10_years_33, e_X10_years_35, e_X10_years_36, e_X10_years_39, e_X10_years_40, e_X10_years_43, e_X10_years_46, e_X10_years_49, e_X10_years_50, e_X10_years_53, e_X10_years_56, e_X10_years_57, e_X10_years_60, e_X10_years_61, e_X10_years_64, e_X10_years_67, e_X10_years_70, e_X10_years_71, e_X10_years_74, e_X10_years_75, e_X10_years_78, e_X10_years_79, e_X10_years_82, e_X10_years_85, e_X10_years_86, e_X10_years_89, e_X10_years_90, e_X10_years_93, e_X10_years_96, e_X10_years_97, e_X10_years_100, e_X10_years_103, e_X10_years_104, ob_0, rk_0_4, rk_0_3, ob_10, ob_13, rk_0_9, ob_84, rk_0_1, ob_3, kcl_i, kcl_r, kcl_l, kcl_0, kcl_n, true_and, and_true]
      by_cases q1 : q < 1
      · simp only [q1, if_true]
      · have q2 : ¬ q ≤ 60 := fun e => h0 ⟨q1, Int32.not_lt.2 e⟩
        simp only [q1, q2, if_false]
    · intro sc d y nx hd L st cu su K
      refine kCA_of (d := d + 499) (v := some (.int _)) (fun K => ?_)
      rw [km_250]
      show kWP sc (d + 499) 250 0 [.ref 91, .int p, .int q, .retAddr 0, .retAddr 0, .retAddr 0] [] _ K = _
      simp only [e_X11_years_0, e_X11_years_1, e_X11_years_2, e_X11_years_5, e_X11_years_6, e_X11_years_7, e_X11_years_8, e_X11_years_11, e_X11_years_14, e_X11_years_17, e_X11_years_18, e_X11_years_19, e_X11_years_20, e_X11_years_21, e_X11_years_24, e_X11_years_25, e_X11_years_28, e_X11_years_29, e_X11_years_30, e_X11_years_33, e_X11_years_34, e_X11_years_36, e_X11_years_37, e_X11_years_40, e_X11_years_41, e_X11_years_42, e_X11_years_45, e_X11_years_47, e_X11_years_49, e_X11_years_50, e_X11_years_53, e_X11_years_54, e_X11_years_55, e_X11_years_58, e_X11_years_61, e_X11_years_64, e_X11_years_65, e_X11_years_68, e_X11_years_71, e_X11_years_72, e_X11_years_73, e_X11_years_76, e_X11_years_79, e_X11_years_81, e_X11_years_82, e_X11_years_83, e_X11_years_86, e_X11_years_88, e_X11_years_90, e_X11_years_91, e_X11_years_94, e_X11_years_95, e_X11_years_98, e_X11_years_99, e_X11_years_101, e_X11_years_102, e_X11_years_105, e_X11_years_106, e_X11_years_109, e_X11_years_110, e_X11_years_111, e_X11_years_114, e_X11_years_117, e_X11_years_120, e_X11_years_121, e_X11_years_124, e_X11_years_127, e_X11_years_128, e_X11_years_129, e_X11_years_132, e_X11_years_133, e_X11_years_134, e_X11_years_137, e_X11_years_139, e_X11_years_140, e_X11_years_143, e_X11_years_144, e_X11_years_147, e_X11_years_148, e_X11_years_149, e_X11_years_152, e_X11_years_154, e_X11_years_155, e_X11_years_156, e_X11_years_159, e_X11_years_160, e_X11_years_163, ob_91, rk_91_9, ar_97, kcl_i, kcl_r, kcl_l, kcl_0, kcl_n, true_and, and_true, uP_0, l1, l60, m_in, m_inI, kb_0, h0, not_false_eq_true, if_true]
end TC
