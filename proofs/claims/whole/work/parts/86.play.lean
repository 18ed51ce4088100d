/-! who speaks, and turns played -/
section TC
variable {sc : Nat × (Nat → Int32)} {d y nx : Nat} {hd : List (Int × Nat)} {L st : List Value} {S : kS} {cu su : Nat} {i : Nat → Nat → Int32} {l : Nat → Nat → Int64} {f t c b m : Nat} {sp : Nat → Nat} {K : Option (Option Value) → kS → Prop}
variable {N : Nat → Int32} {s : Nat × (Nat → Int32)}
def sEq (s s2 : Nat × (Nat → Int32)) : Prop := s.1 = s2.1 ∧ ∀ k, k < s.1 → s.2 k = s2.2 k
theorem sEq_top {s s2 : Nat × (Nat → Int32)} (h : sEq s s2) : pTop s = pTop s2 := by
  unfold pTop; rw [← h.1]
  by_cases q : s.1 = 0
  · rw [if_pos q, if_pos q]
  · rw [if_neg q, if_neg q]; exact h.2 _ (by omega)
theorem sEq_pop {s s2 : Nat × (Nat → Int32)} (h : sEq s s2) : sEq (pPop s) (pPop s2) := ⟨by simp [pPop, h.1], fun k hk => h.2 k (by simp [pPop] at hk; omega)⟩
theorem sEq_push {s s2 : Nat × (Nat → Int32)} {v : Int32} (h : sEq s s2) : sEq (pPush s v) (pPush s2 v) := by
  unfold pPush; rw [← h.1]
  by_cases q : 40 ≤ s.1
  · rw [if_pos q, if_pos q]; exact h
  · rw [if_neg q, if_neg q]
    refine ⟨rfl, fun k hk => ?_⟩
    show kuf s.2 s.1 v k = kuf s2.2 s.1 v k
    unfold kuf
    by_cases e : k = s.1
    · rw [if_pos e, if_pos e]
    · rw [if_neg e, if_neg e]; exact h.2 k (by simp at hk; omega)
theorem sEq_eag {val : Int32 → Int32} {act : Int32} {s s2 : Nat × (Nat → Int32)} (h : sEq s s2) : sEq (gEag val act s) (gEag val act s2) := by
  unfold gEag
  rw [sEq_top h, sEq_top (sEq_pop h)]
  split
  · split
    · split
      · exact sEq_push (sEq_pop h)
      · exact sEq_push (sEq_pop (sEq_pop h))
    · exact sEq_push h
  · exact sEq_push h
def pEag (val : Int32 → Int32) (acts : Nat → Int32) (n : Nat) : Int32 := pTop (gEagS val acts n (fun _ => 0))
theorem pEag_eq {val : Int32 → Int32} {acts : Nat → Int32} {n : Nat} {A : Nat → Int32} : pTop (gEagS val acts n A) = pEag val acts n := by
  unfold pEag
  apply sEq_top
  unfold gEagS
  exact kfo_rel (R := fun _ a b => sEq a b) (fun x a b _ h => sEq_eag h) ⟨rfl, fun k hk => absurd hk (Nat.not_lt_zero k)⟩
theorem gEagS_le {val : Int32 → Int32} {acts : Nat → Int32} {n : Nat} {A : Nat → Int32} : (gEagS val acts n A).1 ≤ 40 := by
  unfold gEagS
  exact kfo_inv (I := fun _ (a : Nat × (Nat → Int32)) => a.1 ≤ 40) (fun x a _ h => gEag_le h) (Nat.zero_le _)
/-- the speaker: says x what he can say, e how eager he is -/
def pSpk (say e : Nat → Int32) (m : Nat) : Int32 := (kfo (fun x (w : Int32 × Int32) => if say x = 0 then w else if w.1 = -1 ∨ ¬ e x ≤ w.2 then (Int32.ofNat x, e x) else w) m (-1, 0)).1
def gSpk (co br : Nat → Int32) (M : Int32) (N acts : Nat → Int32) (n x : Nat) (w : (Nat × (Nat → Int32)) × Int32 × Int32 × Value) : (Nat × (Nat → Int32)) × Int32 × Int32 × Value :=
  if pSay co (N 17) (N 18) M (Int32.ofNat x) = 0 then w else
  if w.2.1 = -1 ∨ ¬ pEag (pVal co br M N x) acts n ≤ w.2.2.1 then (pPop (gEagS (pVal co br M N x) acts n w.1.2), Int32.ofNat x, pEag (pVal co br M N x) acts n, .int (pEag (pVal co br M N x) acts n))
  else (pPop (gEagS (pVal co br M N x) acts n w.1.2), w.2.1, w.2.2.1, .int (pEag (pVal co br M N x) acts n))
def qSpk (co br : Nat → Int32) (m : Nat) (N acts : Nat → Int32) (n : Nat) : Int32 := pSpk (fun x => pSay co (N 17) (N 18) (Int32.ofNat m) (Int32.ofNat x)) (fun x => pEag (pVal co br (Int32.ofNat m) N x) acts n) m
def sSpk (co br : Nat → Int32) (m : Nat) (N acts : Nat → Int32) (n : Nat) (s : Nat × (Nat → Int32)) : Nat × (Nat → Int32) := (kfo (gSpk co br (Int32.ofNat m) N acts n) m (s, -1, 0, .retAddr 0)).1
theorem gSpk_eq {co br N acts : Nat → Int32} {m n k : Nat} {v : Value} : (kfo (gSpk co br (Int32.ofNat m) N acts n) k (s, -1, 0, v)).2.1 = pSpk (fun x => pSay co (N 17) (N 18) (Int32.ofNat m) (Int32.ofNat x)) (fun x => pEag (pVal co br (Int32.ofNat m) N x) acts n) k := by
  unfold pSpk
  have := kfo_rel (n := k) (a := ((s, -1, 0, v) : (Nat × (Nat → Int32)) × Int32 × Int32 × Value)) (b := ((-1, 0) : Int32 × Int32)) (g := gSpk co br (Int32.ofNat m) N acts n) (g2 := fun x (w : Int32 × Int32) => if pSay co (N 17) (N 18) (Int32.ofNat m) (Int32.ofNat x) = 0 then w else if w.1 = -1 ∨ ¬ pEag (pVal co br (Int32.ofNat m) N x) acts n ≤ w.2 then (Int32.ofNat x, pEag (pVal co br (Int32.ofNat m) N x) acts n) else w) (R := fun _ a b => a.2.1 = b.1 ∧ a.2.2.1 = b.2) (fun x a b _ h => by
    unfold gSpk
    rw [h.1, h.2]
    by_cases q1 : pSay co (N 17) (N 18) (Int32.ofNat m) (Int32.ofNat x) = 0
    · rw [if_pos q1, if_pos q1]; exact h
    · rw [if_neg q1, if_neg q1]
      by_cases q2 : b.1 = -1 ∨ ¬ pEag (pVal co br (Int32.ofNat m) N x) acts n ≤ b.2
      · rw [if_pos q2, if_pos q2]; exact ⟨rfl, rfl⟩
      · rw [if_neg q2, if_neg q2]; exact ⟨rfl, rfl⟩) ⟨rfl, rfl⟩
  exact this.1
theorem gSpk_le {co br N acts : Nat → Int32} {m n x : Nat} {w : (Nat × (Nat → Int32)) × Int32 × Int32 × Value} (h : w.1.1 ≤ 40) : (gSpk co br (Int32.ofNat m) N acts n x w).1.1 ≤ 40 := by
  unfold gSpk
  split
  · exact h
  · split
    · exact pPop_le gEagS_le
    · exact pPop_le gEagS_le
theorem sSpk_le {co br N acts : Nat → Int32} {m n : Nat} (h : s.1 ≤ 40) : (sSpk co br m N acts n s).1 ≤ 40 := by
  unfold sSpk
  exact kfo_inv (I := fun _ (w : (Nat × (Nat → Int32)) × Int32 × Int32 × Value) => w.1.1 ≤ 40) (fun x w _ h => gSpk_le h) h
theorem c_sayableR {p : Int32} (hf : kRc b = true) (hc : kNc c = true) (hm : i 5 0 = Int32.ofNat m) (h8 : m ≤ 8) : kCA sc (d + 1) 6 [.ref c, .ref 5, .int p] y nx hd L st ((120, cu, su), rPut (nPut i c N) b s, l, kR f t sp) K = kWP sc (d + 1) y nx L (.int (pSay (i 8) (N 17) (N 18) (Int32.ofNat m) p) :: st) ((120, cu, su), rPut (nPut i c N) b s, l, kR f t sp) K := by
  have hm2 : nPut (rPut i b s) c N 5 0 = Int32.ofNat m := by rw [nP_lo hc (by decide), rP_lo hf (by decide)]; exact hm
  rw [rN hc hf, c_sayable hc hm2 h8, nP_0, nP_1, hm2, nP_lo hc (show 8 < 10 by decide), rP_lo hf (show 8 < 85 by decide)]
theorem c_speaker {n : Nat} (hf : kRc b = true) (hc : kNc c = true) (hm : i 5 0 = Int32.ofNat m) (h8 : m ≤ 8) (hn : i b 2 = Int32.ofNat n) (h40 : n ≤ 40) : kCA sc (d + 4) 10 [.ref c, .ref 5, .ref b] y nx hd L st ((120, cu, su), rPut (nPut i c N) b s, l, kR f t sp) K = kWP sc (d + 4) y nx L (.int (qSpk (i 8) (i 6) m N (i (b + 1)) n) :: st) ((120, cu, su), rPut (nPut i c N) b (sSpk (i 8) (i 6) m N (i (b + 1)) n s), l, kR f t sp) K := by
  refine kCA_of (d := d + 3) (v := some (.int (qSpk (i 8) (i 6) m N (i (b + 1)) n))) (S2 := ((120, cu, su), rPut (nPut i c N) b (sSpk (i 8) (i 6) m N (i (b + 1)) n s), l, kR f t sp)) (fun K => ?_)
  rw [km_10]
  show kWP sc (d + 3) 10 0 [.ref c, .ref 5, .ref b, .retAddr 0, .retAddr 0, .retAddr 0, .retAddr 0] [] ((120, cu, su), rPut (nPut i c N) b s, l, kR f t sp) K = K (some (some (.int (qSpk (i 8) (i 6) m N (i (b + 1)) n)))) ((120, cu, su), rPut (nPut i c N) b (sSpk (i 8) (i 6) m N (i (b + 1)) n s), l, kR f t sp)
  simp only [e_X1_speaker_0, e_X1_speaker_1, e_X1_speaker_2, e_X1_speaker_3, e_X1_speaker_5, e_X1_speaker_6, e_X1_speaker_10, e_X1_speaker_11, e_X1_speaker_14, e_X1_speaker_17, e_X1_speaker_18, e_X1_speaker_19, e_X1_speaker_21, e_X1_speaker_24, e_X1_speaker_27, e_X1_speaker_28, e_X1_speaker_29, e_X1_speaker_30, e_X1_speaker_32, e_X1_speaker_35, e_X1_speaker_37, e_X1_speaker_38, e_X1_speaker_39, e_X1_speaker_42, e_X1_speaker_44, e_X1_speaker_46, e_X1_speaker_49, e_X1_speaker_51, e_X1_speaker_52, e_X1_speaker_54, e_X1_speaker_56, e_X1_speaker_59, e_X1_speaker_62, e_X1_speaker_63, ob_5, ob_n hc, ob_r hf, kcl_i, kcl_r, kcl_l, kcl_0, kcl_n, true_and, and_true]
  refine (k_for (P := fun x (w : (Nat × (Nat → Int32)) × Int32 × Int32 × Value) => kWP sc (d + 3) 10 8 [.ref c, .ref 5, .ref b, .int w.2.1, .int w.2.2.1, .int (Int32.ofNat x), w.2.2.2] [] ((120, cu, su), rPut (nPut i c N) b w.1, l, kR f t sp) K) (n := m) (g := gSpk (i 8) (i 6) (Int32.ofNat m) N (i (b + 1)) n) ?_ (s, -1, 0, .retAddr 0)).trans ?_
  · intro x ⟨s, who, most, v⟩ hx
    have c1 : (Int32.ofNat m ≤ Int32.ofNat x) = False := by rw [tn_le (by omega) (by omega)]; exact eq_false (by omega)
    refine e_X1_speaker_8.trans ?_
    simp only [e_X1_speaker_0, e_X1_speaker_1, e_X1_speaker_2, e_X1_speaker_3, e_X1_speaker_5, e_X1_speaker_6, e_X1_speaker_10, e_X1_speaker_11, e_X1_speaker_14, e_X1_speaker_17, e_X1_speaker_18, e_X1_speaker_19, e_X1_speaker_21, e_X1_speaker_24, e_X1_speaker_27, e_X1_speaker_28, e_X1_speaker_29, e_X1_speaker_30, e_X1_speaker_32, e_X1_speaker_35, e_X1_speaker_37, e_X1_speaker_38, e_X1_speaker_39, e_X1_speaker_42, e_X1_speaker_44, e_X1_speaker_46, e_X1_speaker_49, e_X1_speaker_51, e_X1_speaker_52, e_X1_speaker_54, e_X1_speaker_56, e_X1_speaker_59, e_X1_speaker_62, e_X1_speaker_63, ob_5, ob_n hc, ob_r hf, kcl_i, kcl_r, kcl_l, kcl_0, kcl_n, true_and, and_true, rP_lo hf (show 5 < 85 by decide), nP_lo hc (show 5 < 10 by decide), hm, c1, if_false, c_sayableR hf hc hm h8, c_eager hf hc hm h8 hx hn h40, tn_s, pEag_eq]
    unfold gSpk
    by_cases q1 : pSay (i 8) (N 17) (N 18) (Int32.ofNat m) (Int32.ofNat x) = 0
    · simp only [q1, if_true]
    · by_cases q2 : who = -1
      · simp only [q1, q2, if_true, if_false, true_or]
      · by_cases q3 : pEag (pVal (i 8) (i 6) (Int32.ofNat m) N x) (i (b + 1)) n ≤ most
        · simp only [q1, q2, q3, if_true, if_false, not_true_eq_false, or_self]
        · simp only [q1, q2, q3, if_true, if_false, not_false_eq_true, or_true]
  · refine e_X1_speaker_8.trans ?_
    simp only [e_X1_speaker_0, e_X1_speaker_1, e_X1_speaker_2, e_X1_speaker_3, e_X1_speaker_5, e_X1_speaker_6, e_X1_speaker_10, e_X1_speaker_11, e_X1_speaker_14, e_X1_speaker_17, e_X1_speaker_18, e_X1_speaker_19, e_X1_speaker_21, e_X1_speaker_24, e_X1_speaker_27, e_X1_speaker_28, e_X1_speaker_29, e_X1_speaker_30, e_X1_speaker_32, e_X1_speaker_35, e_X1_speaker_37, e_X1_speaker_38, e_X1_speaker_39, e_X1_speaker_42, e_X1_speaker_44, e_X1_speaker_46, e_X1_speaker_49, e_X1_speaker_51, e_X1_speaker_52, e_X1_speaker_54, e_X1_speaker_56, e_X1_speaker_59, e_X1_speaker_62, e_X1_speaker_63, ob_5, ob_n hc, ob_r hf, kcl_i, kcl_r, kcl_l, kcl_0, kcl_n, true_and, and_true, rP_lo hf (show 5 < 85 by decide), nP_lo hc (show 5 < 10 by decide), hm, Int32.le_refl, if_true, gSpk_eq]
    rfl
def qTurn (le co br : Nat → Int32) (m : Nat) (acts : Nat → Int32) (n : Nat) (N : Nat → Int32) : Nat → Int32 := qTake le co (Int32.ofNat m) N (qSpk co br m N acts n)
theorem c_takeTurnR {p : Int32} (hf : kRc b = true) (hc : kNc c = true) (hm : i 5 0 = Int32.ofNat m) (h8 : m ≤ 8) : kCA sc (d + 4) 11 [.ref c, .ref 5, .int p] y nx hd L st ((120, cu, su), rPut (nPut i c N) b s, l, kR f t sp) K = kWP sc (d + 4) y nx L st ((120, cu, su), rPut (nPut i c (qTake (i 9) (i 8) (Int32.ofNat m) N p)) b s, l, kR f t sp) K := by
  have hm2 : rPut i b s 5 0 = Int32.ofNat m := by rw [rP_lo hf (by decide)]; exact hm
  rw [rN hc hf, c_takeTurn hc hm2 h8, hm2, rP_lo hf (show 8 < 85 by decide), rP_lo hf (show 9 < 85 by decide), rN hc hf]
def gPlay (le co br : Nat → Int32) (m : Nat) (acts : Nat → Int32) (n : Nat) (w : (Nat → Int32) × (Nat × (Nat → Int32)) × Int32 × Value) : (Nat → Int32) × (Nat × (Nat → Int32)) × Int32 × Value := (qTurn le co br m acts n w.1, sSpk co br m w.1 acts n w.2.1, w.2.2.1 + (if qSpk co br m w.1 acts n = -1 then 1 else 0), .int (qSpk co br m w.1 acts n))
def qPlay (le co br : Nat → Int32) (m : Nat) (acts : Nat → Int32) (n k : Nat) (N : Nat → Int32) : (Nat → Int32) × Int32 := kfo (fun _ (w : (Nat → Int32) × Int32) => (qTurn le co br m acts n w.1, w.2 + (if qSpk co br m w.1 acts n = -1 then 1 else 0))) k (N, 0)
def sPlay (le co br : Nat → Int32) (m : Nat) (acts : Nat → Int32) (n k : Nat) (N : Nat → Int32) (s : Nat × (Nat → Int32)) : Nat × (Nat → Int32) := (kfo (fun _ w => gPlay le co br m acts n w) k (N, s, 0, .retAddr 0)).2.1
theorem gPlay_eq {le co br acts : Nat → Int32} {m n k : Nat} {v : Value} : (kfo (fun _ w => gPlay le co br m acts n w) k (N, s, 0, v)).1 = (qPlay le co br m acts n k N).1 ∧ (kfo (fun _ w => gPlay le co br m acts n w) k (N, s, 0, v)).2.2.1 = (qPlay le co br m acts n k N).2 := by
  unfold qPlay
  exact kfo_rel (R := fun _ (a : (Nat → Int32) × (Nat × (Nat → Int32)) × Int32 × Value) (b : (Nat → Int32) × Int32) => a.1 = b.1 ∧ a.2.2.1 = b.2) (fun x a b _ h => by
    obtain ⟨h1, h2⟩ := h
    unfold gPlay
    exact ⟨by rw [h1], by rw [h1, h2]⟩) ⟨rfl, rfl⟩
theorem sPlay_le {le co br acts : Nat → Int32} {m n k : Nat} (h : s.1 ≤ 40) : (sPlay le co br m acts n k N s).1 ≤ 40 := by
  unfold sPlay
  exact kfo_inv (I := fun _ (w : (Nat → Int32) × (Nat × (Nat → Int32)) × Int32 × Value) => w.2.1.1 ≤ 40) (fun x w _ h => sSpk_le h) h
theorem c_play {n k : Nat} (hf : kRc b = true) (hc : kNc c = true) (hm : i 5 0 = Int32.ofNat m) (h8 : m ≤ 8) (hn : i b 2 = Int32.ofNat n) (h40 : n ≤ 40) (hk : k < 100000) : kCA sc (d + 5) 12 [.ref c, .ref 5, .ref b, .int (Int32.ofNat k)] y nx hd L st ((120, cu, su), rPut (nPut i c N) b s, l, kR f t sp) K = kWP sc (d + 5) y nx L (.int (qPlay (i 9) (i 8) (i 6) m (i (b + 1)) n k N).2 :: st) ((120, cu, su), rPut (nPut i c (qPlay (i 9) (i 8) (i 6) m (i (b + 1)) n k N).1) b (sPlay (i 9) (i 8) (i 6) m (i (b + 1)) n k N s), l, kR f t sp) K := by
  refine kCA_of (d := d + 4) (v := some (.int (qPlay (i 9) (i 8) (i 6) m (i (b + 1)) n k N).2)) (S2 := ((120, cu, su), rPut (nPut i c (qPlay (i 9) (i 8) (i 6) m (i (b + 1)) n k N).1) b (sPlay (i 9) (i 8) (i 6) m (i (b + 1)) n k N s), l, kR f t sp)) (fun K => ?_)
  rw [km_12]
  show kWP sc (d + 4) 12 0 [.ref c, .ref 5, .ref b, .int (Int32.ofNat k), .retAddr 0, .retAddr 0, .retAddr 0] [] ((120, cu, su), rPut (nPut i c N) b s, l, kR f t sp) K = K (some (some (.int (qPlay (i 9) (i 8) (i 6) m (i (b + 1)) n k N).2))) ((120, cu, su), rPut (nPut i c (qPlay (i 9) (i 8) (i 6) m (i (b + 1)) n k N).1) b (sPlay (i 9) (i 8) (i 6) m (i (b + 1)) n k N s), l, kR f t sp)
  simp only [e_X1_play_0, e_X1_play_1, e_X1_play_3, e_X1_play_4, e_X1_play_8, e_X1_play_9, e_X1_play_12, e_X1_play_13, e_X1_play_14, e_X1_play_15, e_X1_play_18, e_X1_play_20, e_X1_play_21, e_X1_play_22, e_X1_play_24, e_X1_play_27, e_X1_play_29, e_X1_play_31, e_X1_play_32, e_X1_play_35, e_X1_play_36, e_X1_play_39, e_X1_play_40, e_X1_play_41, e_X1_play_43, e_X1_play_46, e_X1_play_49, e_X1_play_51, ob_n hc, kcl_i, kcl_r, kcl_l, kcl_0, kcl_n, true_and, and_true]
  refine (k_for (P := fun x (w : (Nat → Int32) × (Nat × (Nat → Int32)) × Int32 × Value) => kWP sc (d + 4) 12 6 [.ref c, .ref 5, .ref b, .int (Int32.ofNat k), .int w.2.2.1, .int (Int32.ofNat x), w.2.2.2] [] ((120, cu, su), rPut (nPut i c w.1) b w.2.1, l, kR f t sp) K) (n := k) (g := fun _ w => gPlay (i 9) (i 8) (i 6) m (i (b + 1)) n w) ?_ (N, s, 0, .retAddr 0)).trans ?_
  · intro x ⟨N, s, sil, v⟩ hx
    have c1 : (Int32.ofNat k ≤ Int32.ofNat x) = False := by rw [tn_le (by omega) (by omega)]; exact eq_false (by omega)
    refine e_X1_play_6.trans ?_
    simp only [e_X1_play_0, e_X1_play_1, e_X1_play_3, e_X1_play_4, e_X1_play_8, e_X1_play_9, e_X1_play_12, e_X1_play_13, e_X1_play_14, e_X1_play_15, e_X1_play_18, e_X1_play_20, e_X1_play_21, e_X1_play_22, e_X1_play_24, e_X1_play_27, e_X1_play_29, e_X1_play_31, e_X1_play_32, e_X1_play_35, e_X1_play_36, e_X1_play_39, e_X1_play_40, e_X1_play_41, e_X1_play_43, e_X1_play_46, e_X1_play_49, e_X1_play_51, ob_n hc, kcl_i, kcl_r, kcl_l, kcl_0, kcl_n, true_and, and_true, c1, if_false, c_speaker hf hc hm h8 hn h40, c_takeTurnR hf hc hm h8, tn_s]
    unfold gPlay qTurn
    by_cases q1 : qSpk (i 8) (i 6) m N (i (b + 1)) n = -1
    · simp only [q1, if_true]
    · simp only [q1, if_false]
  · refine e_X1_play_6.trans ?_
    simp only [e_X1_play_0, e_X1_play_1, e_X1_play_3, e_X1_play_4, e_X1_play_8, e_X1_play_9, e_X1_play_12, e_X1_play_13, e_X1_play_14, e_X1_play_15, e_X1_play_18, e_X1_play_20, e_X1_play_21, e_X1_play_22, e_X1_play_24, e_X1_play_27, e_X1_play_29, e_X1_play_31, e_X1_play_32, e_X1_play_35, e_X1_play_36, e_X1_play_39, e_X1_play_40, e_X1_play_41, e_X1_play_43, e_X1_play_46, e_X1_play_49, e_X1_play_51, ob_n hc, kcl_i, kcl_r, kcl_l, kcl_0, kcl_n, true_and, and_true, Int32.le_refl, if_true, (gPlay_eq).1, (gPlay_eq).2]
    rfl
end TC
