/-! the reference's speaker and turns -/
section TC
variable {sc : Nat × (Nat → Int32)} {d y nx : Nat} {hd : List (Int × Nat)} {L st : List Value} {S : kS} {cu su : Nat} {i : Nat → Nat → Int32} {l : Nat → Nat → Int64} {f t c b m : Nat} {sp : Nat → Nat} {K : Option (Option Value) → kS → Prop}
variable {M Z S1 Q : Nat → Int32}
def rDep1 (code : Nat → Int32) (n : Nat) : Prop := n = 0 ∨ rDep code n = 1
theorem sRul_eq {code ask ask2 : Nat → Int32} {n : Nat} {S S2 : Nat → Int32} (hw : rWf code n) (ha : ∀ k, k < 7 → ask k = ask2 k) : ∀ j, j < rDep code n → sRul code ask n S j = sRul code ask2 n S2 j := by
  unfold sRul
  have key : ∀ x, x ≤ n → ∀ j, j < rDep code x → kfo (gRul code ask) x S j = kfo (gRul code ask2) x S2 j := by
    intro x
    induction x with
    | zero => intro _ j hj; exact absurd hj (Nat.not_lt_zero j)
    | succ x ih =>
      intro hx j hj
      have h := ih (by omega)
      have w := hw x (by omega)
      show gRul code ask x (kfo (gRul code ask) x S) j = gRul code ask2 x (kfo (gRul code ask2) x S2) j
      generalize kfo (gRul code ask) x S = A at h ⊢
      generalize kfo (gRul code ask2) x S2 = B at h ⊢
      unfold gRul
      unfold rDep at hj
      by_cases q1 : code x = 3000
      · have w1 := w.1 q1
        simp only [q1, if_true] at hj ⊢
        rw [h (rDep code x - 1) (by omega)]
        unfold kuf
        by_cases e : j = rDep code x - 1
        · rw [if_pos e, if_pos e]
        · rw [if_neg e, if_neg e]; exact h j hj
      · by_cases q2 : code x < 2000
        · simp only [q1, q2, if_true, if_false] at hj ⊢
          have e0 : (if code x < 1000 then code x else ask (code x - 1000).toNatClampNeg) = (if code x < 1000 then code x else ask2 (code x - 1000).toNatClampNeg) := by
            by_cases q3 : code x < 1000
            · rw [if_pos q3, if_pos q3]
            · rw [if_neg q3, if_neg q3]
              apply ha
              have w3 := w.2.2 q2 q3
              have g0 : 0 ≤ code x - 1000 := Int32.sub_nonneg_of_le (by decide) (Int32.not_lt.1 q3)
              have g1 : code x - 1000 < 7 := by
                rw [Int32.lt_iff_toInt_lt, Int32.toInt_sub_of_le _ _ (by decide) (Int32.not_lt.1 q3)]
                rw [Int32.lt_iff_toInt_lt] at w3
                rw [show (1007 : Int32).toInt = 1007 from by decide] at w3
                rw [show (1000 : Int32).toInt = 1000 from by decide, show (7 : Int32).toInt = 7 from by decide]; omega
              obtain ⟨z, hz, ez⟩ := tn_ex (m := 7) (by decide) g0 g1
              rw [ez, tn_cl (by omega)]; exact hz
          rw [e0]
          unfold kuf
          by_cases e : j = rDep code x
          · rw [if_pos e, if_pos e]
          · rw [if_neg e, if_neg e]; exact h j (by omega)
        · have w1 := w.2.1 q1 q2
          simp only [q1, q2, if_false] at hj ⊢
          rw [h (rDep code x - 2) (by omega), h (rDep code x - 1) (by omega)]
          unfold kuf
          by_cases e : j = rDep code x - 2
          · rw [if_pos e, if_pos e]
          · rw [if_neg e, if_neg e]; exact h j (by omega)
  exact key n (Nat.le_refl n)
theorem qAsk_eq {co br M Q Q2 : Nat → Int32} {m a : Nat} : ∀ k, k < 7 → qAsk co br M Q m a k = qAsk co br M Q2 m a k := by
  intro k hk
  have : k = 0 ∨ k = 1 ∨ k = 2 ∨ k = 3 ∨ k = 4 ∨ k = 5 ∨ k = 6 := by omega
  rcases this with rfl | rfl | rfl | rfl | rfl | rfl | rfl <;> rfl
def eR (co br M : Nat → Int32) (m : Nat) (code : Nat → Int32) (n a : Nat) : Int32 := eRef co br M (fun _ => 0) m code n (fun _ => 0) a
theorem eRef_eq {co br M : Nat → Int32} {m n a : Nat} {code : Nat → Int32} (hw : rWf code n) (h1 : rDep1 code n) : eRef co br M Q m code n S1 a = eR co br M m code n a := by
  unfold eR eRef pRul
  rcases h1 with rfl | h1
  · rw [if_pos rfl, if_pos rfl, qAsk_eq (Q2 := fun _ => 0) 0 (by decide), qAsk_eq (Q2 := fun _ => 0) 1 (by decide), qAsk_eq (Q2 := fun _ => 0) 2 (by decide)]
  · by_cases e : n = 0
    · subst e; exact absurd (show (0 : Nat) = 1 from h1) (by decide)
    · rw [if_neg e, if_neg e]
      exact sRul_eq hw qAsk_eq 0 (by omega)
def gRS (co br M : Nat → Int32) (m : Nat) (code : Nat → Int32) (n x : Nat) (w : Int32 × (Nat → Int32) × (Nat → Int32)) : Int32 × (Nat → Int32) × (Nat → Int32) :=
  if pSay co (M 17) (M 18) (Int32.ofNat m) (Int32.ofNat x) = 0 then w
  else if w.1 < 0 then (Int32.ofNat x, w.2.1, w.2.2)
  else (if eR co br M m code n x ≤ eR co br M m code n w.1.toNatClampNeg then w.1 else Int32.ofNat x, sRul code (qAsk co br M (qAsk co br M w.2.2 m x) m w.1.toNatClampNeg) n (sRul code (qAsk co br M w.2.2 m x) n w.2.1), qAsk co br M (qAsk co br M w.2.2 m x) m w.1.toNatClampNeg)
def rSpk (co br M : Nat → Int32) (m : Nat) (code : Nat → Int32) (n : Nat) (S1 Q : Nat → Int32) : Int32 × (Nat → Int32) × (Nat → Int32) := kfo (gRS co br M m code n) m (-1, S1, Q)
theorem tn_lt0 {a : Nat} (ha : a < 2147483648) : (Int32.ofNat a < 0) = False := tn_n0 ha
theorem rSpk_ok {co br : Nat → Int32} {n : Nat} {code : Nat → Int32} (h8 : m ≤ 8) : (rSpk co br M m code n S1 Q).1 = -1 ∨ ∃ a, a < m ∧ (rSpk co br M m code n S1 Q).1 = Int32.ofNat a ∧ ¬ pSay co (M 17) (M 18) (Int32.ofNat m) (Int32.ofNat a) = 0 := by
  unfold rSpk
  exact kfo_inv (I := fun _ (w : Int32 × (Nat → Int32) × (Nat → Int32)) => w.1 = -1 ∨ ∃ a, a < m ∧ w.1 = Int32.ofNat a ∧ ¬ pSay co (M 17) (M 18) (Int32.ofNat m) (Int32.ofNat a) = 0) (fun x w hx h => by
    unfold gRS
    by_cases q1 : pSay co (M 17) (M 18) (Int32.ofNat m) (Int32.ofNat x) = 0
    · rw [if_pos q1]; exact h
    · rw [if_neg q1]
      by_cases q2 : w.1 < 0
      · rw [if_pos q2]; exact Or.inr ⟨x, hx, rfl, q1⟩
      · rw [if_neg q2]
        dsimp only
        split
        · exact h
        · exact Or.inr ⟨x, hx, rfl, q1⟩) (Or.inl rfl)
theorem m_speaker {n : Nat} (hb : mRow b = true) (hm : i 91 3 = Int32.ofNat m) (h8 : m ≤ 8) (hn : i 91 19 = Int32.ofNat n) (h40 : n ≤ 40) (hw : rWf (i 100) n) (h1 : rDep1 (i 100) n) : kCA sc (d + 5) 202 [.ref 91, .ref b] y nx hd L st ((120, cu, su), mPut i b M Z S1 Q, l, kR f t sp) K = kWP sc (d + 5) y nx L (.int (rSpk (mCo i) (i 94) M m (i 100) n S1 Q).1 :: st) ((120, cu, su), mPut i b M Z (rSpk (mCo i) (i 94) M m (i 100) n S1 Q).2.1 (rSpk (mCo i) (i 94) M m (i 100) n S1 Q).2.2, l, kR f t sp) K := by
  refine kCA_of (d := d + 4) (v := some (.int (rSpk (mCo i) (i 94) M m (i 100) n S1 Q).1)) (S2 := ((120, cu, su), mPut i b M Z (rSpk (mCo i) (i 94) M m (i 100) n S1 Q).2.1 (rSpk (mCo i) (i 94) M m (i 100) n S1 Q).2.2, l, kR f t sp)) (fun K => ?_)
  rw [km_202]
  show kWP sc (d + 4) 202 0 [.ref 91, .ref b, .retAddr 0, .retAddr 0] [] ((120, cu, su), mPut i b M Z S1 Q, l, kR f t sp) K = K (some (some (.int (rSpk (mCo i) (i 94) M m (i 100) n S1 Q).1))) ((120, cu, su), mPut i b M Z (rSpk (mCo i) (i 94) M m (i 100) n S1 Q).2.1 (rSpk (mCo i) (i 94) M m (i 100) n S1 Q).2.2, l, kR f t sp)
  simp only [e_X11_speaker_0, e_X11_speaker_1, e_X11_speaker_2, e_X11_speaker_3, e_X11_speaker_5, e_X11_speaker_6, e_X11_speaker_9, e_X11_speaker_12, e_X11_speaker_13, e_X11_speaker_14, e_X11_speaker_15, e_X11_speaker_18, e_X11_speaker_21, e_X11_speaker_22, e_X11_speaker_25, e_X11_speaker_26, e_X11_speaker_27, e_X11_speaker_28, e_X11_speaker_31, e_X11_speaker_32, e_X11_speaker_33, e_X11_speaker_34, e_X11_speaker_37, e_X11_speaker_40, e_X11_speaker_41, e_X11_speaker_44, e_X11_speaker_45, e_X11_speaker_46, e_X11_speaker_49, e_X11_speaker_52, e_X11_speaker_53, ob_91, kcl_i, kcl_r, kcl_l, kcl_0, kcl_n, true_and, and_true]
  have R := k_forI (P := fun x (w : Int32 × (Nat → Int32) × (Nat → Int32)) => kWP sc (d + 4) 202 4 [.ref 91, .ref b, .int w.1, .int (Int32.ofNat x)] [] ((120, cu, su), mPut i b M Z w.2.1 w.2.2, l, kR f t sp) K) (n := m) (I := fun _ w => w.1 = -1 ∨ ∃ a, a < m ∧ w.1 = Int32.ofNat a) (g := gRS (mCo i) (i 94) M m (i 100) n) ?_ (-1, S1, Q) (Or.inl rfl)
  · refine R.1.trans ?_
    refine e_X11_speaker_4.trans ?_
    simp only [e_X11_speaker_0, e_X11_speaker_1, e_X11_speaker_2, e_X11_speaker_3, e_X11_speaker_5, e_X11_speaker_6, e_X11_speaker_9, e_X11_speaker_12, e_X11_speaker_13, e_X11_speaker_14, e_X11_speaker_15, e_X11_speaker_18, e_X11_speaker_21, e_X11_speaker_22, e_X11_speaker_25, e_X11_speaker_26, e_X11_speaker_27, e_X11_speaker_28, e_X11_speaker_31, e_X11_speaker_32, e_X11_speaker_33, e_X11_speaker_34, e_X11_speaker_37, e_X11_speaker_40, e_X11_speaker_41, e_X11_speaker_44, e_X11_speaker_45, e_X11_speaker_46, e_X11_speaker_49, e_X11_speaker_52, e_X11_speaker_53, ob_91, kcl_i, kcl_r, kcl_l, kcl_0, kcl_n, true_and, and_true, mP_f hb (show 3 < 25 ∨ 29 ≤ 3 by decide), hm, Int32.le_refl, if_true]
    rfl
  · intro x ⟨best, S1, Q⟩ hx hI
    have c1 : (Int32.ofNat m ≤ Int32.ofNat x) = False := by rw [tn_le (by omega) (by omega)]; exact eq_false (by omega)
    refine ⟨?_, ?_⟩
    · refine e_X11_speaker_4.trans ?_
      simp only [e_X11_speaker_0, e_X11_speaker_1, e_X11_speaker_2, e_X11_speaker_3, e_X11_speaker_5, e_X11_speaker_6, e_X11_speaker_9, e_X11_speaker_12, e_X11_speaker_13, e_X11_speaker_14, e_X11_speaker_15, e_X11_speaker_18, e_X11_speaker_21, e_X11_speaker_22, e_X11_speaker_25, e_X11_speaker_26, e_X11_speaker_27, e_X11_speaker_28, e_X11_speaker_31, e_X11_speaker_32, e_X11_speaker_33, e_X11_speaker_34, e_X11_speaker_37, e_X11_speaker_40, e_X11_speaker_41, e_X11_speaker_44, e_X11_speaker_45, e_X11_speaker_46, e_X11_speaker_49, e_X11_speaker_52, e_X11_speaker_53, ob_91, kcl_i, kcl_r, kcl_l, kcl_0, kcl_n, true_and, and_true, mP_f hb (show 3 < 25 ∨ 29 ≤ 3 by decide), hm, c1, if_false, m_canSayR hb hx h8, m_eager hb h8 hx hn h40 hw, tn_s, eRef_eq hw h1]
      unfold gRS
      by_cases q1 : pSay (mCo i) (M 17) (M 18) (Int32.ofNat m) (Int32.ofNat x) = 0
      · simp only [q1, if_true]
      · simp only [q1, if_false]
        rcases hI with h | ⟨a, ha, h⟩
        · have h' : best = -1 := h
          subst h'
          simp only [show ((-1 : Int32) < 0) = True from eq_true (by decide), if_true]
        · have h' : best = Int32.ofNat a := h
          subst h'
          simp only [tn_lt0 (show a < 2147483648 by omega), if_false, m_eager hb h8 ha hn h40 hw, eRef_eq hw h1, tn_cl (show a < 2147483648 by omega), e_X11_speaker_0, e_X11_speaker_1, e_X11_speaker_2, e_X11_speaker_3, e_X11_speaker_5, e_X11_speaker_6, e_X11_speaker_9, e_X11_speaker_12, e_X11_speaker_13, e_X11_speaker_14, e_X11_speaker_15, e_X11_speaker_18, e_X11_speaker_21, e_X11_speaker_22, e_X11_speaker_25, e_X11_speaker_26, e_X11_speaker_27, e_X11_speaker_28, e_X11_speaker_31, e_X11_speaker_32, e_X11_speaker_33, e_X11_speaker_34, e_X11_speaker_37, e_X11_speaker_40, e_X11_speaker_41, e_X11_speaker_44, e_X11_speaker_45, e_X11_speaker_46, e_X11_speaker_49, e_X11_speaker_52, e_X11_speaker_53, ob_91, kcl_i, kcl_r, kcl_l, kcl_0, kcl_n, true_and, and_true, tn_s]
          by_cases q3 : eR (mCo i) (i 94) M m (i 100) n x ≤ eR (mCo i) (i 94) M m (i 100) n a
          · simp only [q3, if_true]
          · simp only [q3, if_false]
    · show (gRS (mCo i) (i 94) M m (i 100) n x (best, S1, Q)).1 = -1 ∨ _
      unfold gRS
      split
      · exact hI
      · split
        · exact Or.inr ⟨x, hx, rfl⟩
        · dsimp only
          split
          · exact hI
          · exact Or.inr ⟨x, hx, rfl⟩
theorem c_ntz {v : Int32} {k : Nat} (hk : k < 9) (h : (v ^^^ (-1)) &&& (v - 1) = Int32.ofNat (2 ^ k - 1)) : kCA sc (d + 1) 255 [.int v] y nx hd L st ((120, cu, su), i, l, kR f t sp) K = kWP sc (d + 1) y nx L (.int (Int32.ofNat k) :: st) ((120, cu, su), i, l, kR f t sp) K := by
  refine kCA_of (d := d) (v := some (.int (Int32.ofNat k))) (S2 := ((120, cu, su), i, l, kR f t sp)) (fun K => ?_)
  rw [km_255]
  show kWP sc (d) 255 0 [.int v, .retAddr 0] [] ((120, cu, su), i, l, kR f t sp) K = K (some (some (.int (Int32.ofNat k)))) ((120, cu, su), i, l, kR f t sp)
  simp only [e_J6_numberOfTrailingZeros_0f7a4_0, e_J6_numberOfTrailingZeros_0f7a4_1, e_J6_numberOfTrailingZeros_0f7a4_2, e_J6_numberOfTrailingZeros_0f7a4_3, e_J6_numberOfTrailingZeros_0f7a4_4, e_J6_numberOfTrailingZeros_0f7a4_5, e_J6_numberOfTrailingZeros_0f7a4_6, e_J6_numberOfTrailingZeros_0f7a4_7, e_J6_numberOfTrailingZeros_0f7a4_8, e_J6_numberOfTrailingZeros_0f7a4_9, e_J6_numberOfTrailingZeros_0f7a4_12, e_J6_numberOfTrailingZeros_0f7a4_13, e_J6_numberOfTrailingZeros_0f7a4_15, e_J6_numberOfTrailingZeros_0f7a4_16, e_J6_numberOfTrailingZeros_0f7a4_17, e_J6_numberOfTrailingZeros_0f7a4_18, e_J6_numberOfTrailingZeros_0f7a4_19, e_J6_numberOfTrailingZeros_0f7a4_20, e_J6_numberOfTrailingZeros_0f7a4_23, e_J6_numberOfTrailingZeros_0f7a4_26, e_J6_numberOfTrailingZeros_0f7a4_29, e_J6_numberOfTrailingZeros_0f7a4_30, e_J6_numberOfTrailingZeros_0f7a4_32, e_J6_numberOfTrailingZeros_0f7a4_33, e_J6_numberOfTrailingZeros_0f7a4_34, e_J6_numberOfTrailingZeros_0f7a4_35, e_J6_numberOfTrailingZeros_0f7a4_38, e_J6_numberOfTrailingZeros_0f7a4_41, e_J6_numberOfTrailingZeros_0f7a4_44, e_J6_numberOfTrailingZeros_0f7a4_45, e_J6_numberOfTrailingZeros_0f7a4_47, e_J6_numberOfTrailingZeros_0f7a4_48, e_J6_numberOfTrailingZeros_0f7a4_49, e_J6_numberOfTrailingZeros_0f7a4_50, e_J6_numberOfTrailingZeros_0f7a4_52, e_J6_numberOfTrailingZeros_0f7a4_55, e_J6_numberOfTrailingZeros_0f7a4_58, e_J6_numberOfTrailingZeros_0f7a4_59, e_J6_numberOfTrailingZeros_0f7a4_60, e_J6_numberOfTrailingZeros_0f7a4_61, e_J6_numberOfTrailingZeros_0f7a4_62, e_J6_numberOfTrailingZeros_0f7a4_63, e_J6_numberOfTrailingZeros_0f7a4_64, e_J6_numberOfTrailingZeros_0f7a4_67, e_J6_numberOfTrailingZeros_0f7a4_70, e_J6_numberOfTrailingZeros_0f7a4_71, e_J6_numberOfTrailingZeros_0f7a4_72, e_J6_numberOfTrailingZeros_0f7a4_73, e_J6_numberOfTrailingZeros_0f7a4_74, e_J6_numberOfTrailingZeros_0f7a4_75, e_J6_numberOfTrailingZeros_0f7a4_76, e_J6_numberOfTrailingZeros_0f7a4_77, e_J6_numberOfTrailingZeros_0f7a4_78, e_J6_numberOfTrailingZeros_0f7a4_79, kcl_i, kcl_r, kcl_l, kcl_0, kcl_n, true_and, and_true, h]
  have : k = 0 ∨ k = 1 ∨ k = 2 ∨ k = 3 ∨ k = 4 ∨ k = 5 ∨ k = 6 ∨ k = 7 ∨ k = 8 := by omega
  rcases this with rfl | rfl | rfl | rfl | rfl | rfl | rfl | rfl | rfl <;> rfl
theorem b8_say {co : Nat → Int32} {said hat M0 p : Int32} (h : ∀ a, b8 (co a)) : b8 (pSay co said hat M0 p) := by
  unfold pSay; split
  · exact b8_0
  · exact b8_and (h _)
theorem b8_mCo : ∀ a, b8 (mCo i a) := fun _ => b8_able
theorem ntz_of {v : Int32} (h : b8 v) (h0 : ¬ v = 0) : ∃ k, k < 8 ∧ pFirst v = Int32.ofNat k ∧ (v ^^^ (-1)) &&& (v - 1) = Int32.ofNat (2 ^ k - 1) ∧ tb v k = true := by
  obtain ⟨n, hn, rfl⟩ := b8_nat h
  exact pFirst_ntz n hn (fun e => h0 (by rw [e]; rfl))
def rTurn (co le M : Nat → Int32) (m : Nat) (w : Int32) : Nat → Int32 := if w < 0 then rPass M 1 else tRow co le M m w 0 (pFirst (pSay co (M 17) (M 18) (Int32.ofNat m) w))
def zTurn (co le M Z : Nat → Int32) (m : Nat) (w : Int32) : Nat → Int32 := if w < 0 then zPass M (kuf Z 26 (Z 26 + 1)) 1 else tZ co le M Z m w 0 (pFirst (pSay co (M 17) (M 18) (Int32.ofNat m) w))
theorem m_turnGoes {n : Nat} (hb : mRow b = true) (hm : i 91 3 = Int32.ofNat m) (h8 : m ≤ 8) (hn : i 91 19 = Int32.ofNat n) (h40 : n ≤ 40) (hw : rWf (i 100) n) (h1 : rDep1 (i 100) n) (hh : M 18 = -1 ∨ ∃ a, a < 8 ∧ M 18 = Int32.ofNat a) (hl : M 22 < 0 ∨ ∃ a, a < 8 ∧ M 22 = Int32.ofNat a) : kCA sc (d + 6) 203 [.ref 91, .ref b] y nx hd L st ((120, cu, su), mPut i b M Z S1 Q, l, kR f t sp) K = kWP sc (d + 6) y nx L st ((120, cu, su), mPut i b (rTurn (mCo i) (i 93) M m (rSpk (mCo i) (i 94) M m (i 100) n S1 Q).1) (zTurn (mCo i) (i 93) M Z m (rSpk (mCo i) (i 94) M m (i 100) n S1 Q).1) (rSpk (mCo i) (i 94) M m (i 100) n S1 Q).2.1 (rSpk (mCo i) (i 94) M m (i 100) n S1 Q).2.2, l, kR f t sp) K := by
  refine kCA_of (d := d + 5) (v := none) (S2 := ((120, cu, su), mPut i b (rTurn (mCo i) (i 93) M m (rSpk (mCo i) (i 94) M m (i 100) n S1 Q).1) (zTurn (mCo i) (i 93) M Z m (rSpk (mCo i) (i 94) M m (i 100) n S1 Q).1) (rSpk (mCo i) (i 94) M m (i 100) n S1 Q).2.1 (rSpk (mCo i) (i 94) M m (i 100) n S1 Q).2.2, l, kR f t sp)) (fun K => ?_)
  rw [km_203]
  show kWP sc (d + 5) 203 0 [.ref 91, .ref b, .retAddr 0] [] ((120, cu, su), mPut i b M Z S1 Q, l, kR f t sp) K = K (some (none)) ((120, cu, su), mPut i b (rTurn (mCo i) (i 93) M m (rSpk (mCo i) (i 94) M m (i 100) n S1 Q).1) (zTurn (mCo i) (i 93) M Z m (rSpk (mCo i) (i 94) M m (i 100) n S1 Q).1) (rSpk (mCo i) (i 94) M m (i 100) n S1 Q).2.1 (rSpk (mCo i) (i 94) M m (i 100) n S1 Q).2.2, l, kR f t sp)
  simp only [e_X11_turnGoes_0, e_X11_turnGoes_1, e_X11_turnGoes_2, e_X11_turnGoes_5, e_X11_turnGoes_6, e_X11_turnGoes_7, e_X11_turnGoes_10, e_X11_turnGoes_11, e_X11_turnGoes_12, e_X11_turnGoes_15, e_X11_turnGoes_16, e_X11_turnGoes_17, e_X11_turnGoes_20, e_X11_turnGoes_21, e_X11_turnGoes_22, e_X11_turnGoes_23, e_X11_turnGoes_26, e_X11_turnGoes_29, e_X11_turnGoes_30, e_X11_turnGoes_31, e_X11_turnGoes_32, e_X11_turnGoes_33, e_X11_turnGoes_34, e_X11_turnGoes_35, e_X11_turnGoes_36, e_X11_turnGoes_39, e_X11_turnGoes_42, e_X11_turnGoes_45, e_X11_turnGoes_46, ob_91, kcl_i, kcl_r, kcl_l, kcl_0, kcl_n, true_and, and_true, m_speaker hb hm h8 hn h40 hw h1]
  unfold rTurn zTurn
  have hsp := @rSpk_ok m M S1 Q (mCo i) (i 94) n (i 100) h8
  generalize rSpk (mCo i) (i 94) M m (i 100) n S1 Q = w at hsp
  obtain ⟨w, S2, Q2⟩ := w
  rcases hsp with h | ⟨a, ha, h, hs⟩
  · have h' : w = -1 := h
    subst h'
    simp only [show ((0 : Int32) ≤ -1) = False from eq_false (by decide), show ((-1 : Int32) < 0) = True from eq_true (by decide), if_true, if_false, mP_z hb (show 25 ≤ 26 by decide) (show 26 < 29 by decide), mW_z hb (show 25 ≤ 26 by decide) (show 26 < 29 by decide), m_passes hb hh, e_X11_turnGoes_0, e_X11_turnGoes_1, e_X11_turnGoes_2, e_X11_turnGoes_5, e_X11_turnGoes_6, e_X11_turnGoes_7, e_X11_turnGoes_10, e_X11_turnGoes_11, e_X11_turnGoes_12, e_X11_turnGoes_15, e_X11_turnGoes_16, e_X11_turnGoes_17, e_X11_turnGoes_20, e_X11_turnGoes_21, e_X11_turnGoes_22, e_X11_turnGoes_23, e_X11_turnGoes_26, e_X11_turnGoes_29, e_X11_turnGoes_30, e_X11_turnGoes_31, e_X11_turnGoes_32, e_X11_turnGoes_33, e_X11_turnGoes_34, e_X11_turnGoes_35, e_X11_turnGoes_36, e_X11_turnGoes_39, e_X11_turnGoes_42, e_X11_turnGoes_45, e_X11_turnGoes_46, ob_91, kcl_i, kcl_r, kcl_l, kcl_0, kcl_n, true_and, and_true]
  · have h' : w = Int32.ofNat a := h
    subst h'
    obtain ⟨k, hk, e1, e2, _⟩ := ntz_of (b8_say b8_mCo) hs
    simp only [tn_0 (show a < 2147483648 by omega), tn_lt0 (show a < 2147483648 by omega), if_true, if_false, m_canSayR hb ha h8, c_ntz (show k < 9 by omega) e2, m_talks hb hm h8 hl, e_X11_turnGoes_0, e_X11_turnGoes_1, e_X11_turnGoes_2, e_X11_turnGoes_5, e_X11_turnGoes_6, e_X11_turnGoes_7, e_X11_turnGoes_10, e_X11_turnGoes_11, e_X11_turnGoes_12, e_X11_turnGoes_15, e_X11_turnGoes_16, e_X11_turnGoes_17, e_X11_turnGoes_20, e_X11_turnGoes_21, e_X11_turnGoes_22, e_X11_turnGoes_23, e_X11_turnGoes_26, e_X11_turnGoes_29, e_X11_turnGoes_30, e_X11_turnGoes_31, e_X11_turnGoes_32, e_X11_turnGoes_33, e_X11_turnGoes_34, e_X11_turnGoes_35, e_X11_turnGoes_36, e_X11_turnGoes_39, e_X11_turnGoes_42, e_X11_turnGoes_45, e_X11_turnGoes_46, ob_91, kcl_i, kcl_r, kcl_l, kcl_0, kcl_n, true_and, and_true, e1]
end TC
