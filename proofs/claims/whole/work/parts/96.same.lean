/-! EAGERNESS, speakers and turns are the same on both sides -/
section TC
variable {sc : Nat × (Nat → Int32)} {d y nx : Nat} {hd : List (Int × Nat)} {L st : List Value} {S : kS} {cu su : Nat} {i : Nat → Nat → Int32} {l : Nat → Nat → Int64} {f t c b m : Nat} {sp : Nat → Nat} {K : Option (Option Value) → kS → Prop}
variable {N M Z S1 Q le co br co2 br2 acts code : Nat → Int32} {k q : Int32} {a x z s v n n2 : Nat}
def trL (k : Nat) : Int32 := match k with | 0 => 119 | 1 => 98 | 2 => 116 | 3 => 112 | 4 => 104 | 5 => 109 | _ => 108
def trS (k : Nat) : Int32 := match k with | 0 => 60 | 1 => 62 | 2 => 61 | 3 => 43 | 4 => 45 | 5 => 42 | _ => 47
def trC (c : Int32) : Int32 := if c < 1000 then c else if c < 2000 then 1000 + trL (c - 1000).toNatClampNeg else if c = 3000 then 3000 else 2000 + trS (c - 2000).toNatClampNeg
def firstA (x : Nat) : Int32 := match x with | 0 => 1119 | 1 => 3 | 2 => 2042 | 3 => 1116 | 4 => 2045 | 5 => 1098 | _ => 2043
def codeOk (code : Nat → Int32) (n : Nat) : Prop := n ≤ 40 ∧ rWf code n ∧ rDep1 code n ∧ ∀ x, x < n → ¬ code x < 2000 → ¬ code x = 3000 → code x < 2007
def aOf (code : Nat → Int32) (n : Nat) : Nat → Int32 := if n = 0 then firstA else fun x => trC (code x)
def nOf (n : Nat) : Nat := if n = 0 then 7 else n
def RR (acts : Nat → Int32) (n : Nat) (code : Nat → Int32) (n2 : Nat) : Prop := codeOk code n2 ∧ n = nOf n2 ∧ ∀ x, x < n → acts x = aOf code n2 x
theorem RR_40 (h : RR acts n code n2) : n ≤ 40 := by
  rw [h.2.1]; unfold nOf; split
  · decide
  · exact h.1.1
theorem off_nat {c : Int32} {o n : Nat} (ho : o < 100000) (hn : n < 100000) (h1 : ¬ c < Int32.ofNat o) (h2 : c < Int32.ofNat (o + n)) : ∃ z, z < n ∧ c = Int32.ofNat (o + z) ∧ c - Int32.ofNat o = Int32.ofNat z := by
  have h0 : 0 ≤ c := Int32.le_trans (Int32.zero_le_ofNat_of_lt (show o < 2147483648 by omega)) (Int32.not_lt.1 h1)
  obtain ⟨w, hw, rfl⟩ := tn_ex (by omega) h0 h2
  rw [tn_lt (by omega) (by omega)] at h1
  refine ⟨w - o, by omega, ?_, ?_⟩
  · rw [show o + (w - o) = w by omega]
  · exact (Int32.ofNat_sub w o (by omega)).symm
theorem trL_1000 : ∀ z, z < 7 → ¬ (1000 + trL z < 1000) ∧ ¬ (2000 ≤ 1000 + trL z) ∧ (1000 ≤ 1000 + trL z) ∧ 1000 + trL z - 1000 = trL z := by decide +kernel
theorem trS_2000 : ∀ z, z < 7 → (1000 ≤ 2000 + trS z) ∧ (2000 ≤ 2000 + trS z) ∧ ¬ (2000 + trS z = 3000) ∧ 2000 + trS z - 2000 = trS z := by decide +kernel
theorem join_work : ∀ z, z < 7 → ∀ p v : Int32, pJoin (trS z) p v = pWork (Int32.ofNat z) p v := by
  intro z hz p v
  have : z = 0 ∨ z = 1 ∨ z = 2 ∨ z = 3 ∨ z = 4 ∨ z = 5 ∨ z = 6 := by omega
  rcases this with rfl | rfl | rfl | rfl | rfl | rfl | rfl <;> rfl
theorem pTop_k {s : Nat × (Nat → Int32)} (h : 0 < s.1) : pTop s = s.2 (s.1 - 1) := by unfold pTop; rw [if_neg (by omega)]
theorem eag_step {val : Int32 → Int32} {ask S1 : Nat → Int32} {s : Nat × (Nat → Int32)} (hv : ∀ k, k < 7 → val (trL k) = ask k) (hc : codeOk code n) (hx : x < n) (h1 : s.1 = rDep code x) (h2 : ∀ j, j < s.1 → s.2 j = S1 j) : (gEag val (trC (code x)) s).1 = rDep code (x + 1) ∧ ∀ j, j < (gEag val (trC (code x)) s).1 → (gEag val (trC (code x)) s).2 j = gRul code ask x S1 j := by
  obtain ⟨h40, hw, _, hr⟩ := hc
  have w := hw x hx
  have hd := @rDep_le code x
  have e1 : rDep code (x + 1) = if code x = 3000 then rDep code x else if code x < 2000 then rDep code x + 1 else rDep code x - 1 := rfl
  rw [e1]
  unfold gRul
  by_cases q1 : code x = 3000
  · have w1 := w.1 q1
    have t1 : trC (code x) = 3000 := by rw [q1]; decide
    rw [t1, if_pos q1, if_pos q1]
    have e : gEag val 3000 s = pPush (pPop s) (-(pTop s)) := by
      unfold gEag; rw [if_pos (by decide), if_pos (by decide), if_pos rfl]
    rw [e, pTop_k (by omega)]
    unfold pPush
    have l1 : ¬ 40 ≤ (pPop s).1 := by show ¬ 40 ≤ s.1 - 1; omega
    rw [if_neg l1]
    refine ⟨by show s.1 - 1 + 1 = _; omega, ?_⟩
    intro j hj
    have hj' : j < s.1 - 1 + 1 := hj
    show kuf s.2 (s.1 - 1) _ j = _
    unfold kuf
    rw [← h1]
    by_cases e2 : j = s.1 - 1
    · rw [if_pos e2, if_pos e2, h2 _ (by omega)]
    · rw [if_neg e2, if_neg e2]; exact h2 j (by omega)
  · rw [if_neg q1, if_neg q1]
    by_cases q2 : code x < 2000
    · rw [if_pos q2, if_pos q2]
      have e : gEag val (trC (code x)) s = pPush s (if code x < 1000 then code x else ask (code x - 1000).toNatClampNeg) := by
        by_cases q3 : code x < 1000
        · have t1 : trC (code x) = code x := by unfold trC; rw [if_pos q3]
          rw [t1, if_pos q3]; unfold gEag; rw [if_neg (Int32.not_le.2 q3)]
        · obtain ⟨z, hz, e1, e2⟩ := off_nat (o := 1000) (n := 7) (by decide) (by decide) q3 (w.2.2 q2 q3)
          have e2' : code x - 1000 = Int32.ofNat z := e2
          have t1 : trC (code x) = 1000 + trL z := by unfold trC; rw [if_neg q3, if_pos q2, e2', tn_cl (by omega)]
          have g := trL_1000 z hz
          rw [t1, if_neg q3, e2', tn_cl (by omega)]
          unfold gEag
          rw [if_pos g.2.2.1, if_neg g.2.1, g.2.2.2, hv z hz]
      rw [e]
      unfold pPush
      rw [if_neg (by omega)]
      refine ⟨by show s.1 + 1 = _; omega, ?_⟩
      intro j hj
      have hj' : j < s.1 + 1 := hj
      show kuf s.2 s.1 _ j = _
      unfold kuf
      rw [← h1]
      by_cases e2 : j = s.1
      · rw [if_pos e2, if_pos e2]
      · rw [if_neg e2, if_neg e2]; exact h2 j (by omega)
    · have w1 := w.2.1 q1 q2
      rw [if_neg q2, if_neg q2]
      obtain ⟨z, hz, e1, e2⟩ := off_nat (o := 2000) (n := 7) (by decide) (by decide) q2 (hr x hx q2 q1)
      have e2' : code x - 2000 = Int32.ofNat z := e2
      have q3 : ¬ code x < 1000 := fun h => q2 (Int32.lt_trans h (by decide))
      have t1 : trC (code x) = 2000 + trS z := by unfold trC; rw [if_neg q3, if_neg q2, if_neg q1, e2', tn_cl (by omega)]
      have g := trS_2000 z hz
      have p1 : (pPop s).1 = s.1 - 1 := rfl
      have e : gEag val (trC (code x)) s = pPush (pPop (pPop s)) (pWork (code x - 2000) (s.2 (s.1 - 2)) (s.2 (s.1 - 1))) := by
        rw [t1]
        unfold gEag
        rw [if_pos g.1, if_pos g.2.1, if_neg g.2.2.1, g.2.2.2, pTop_k (show 0 < (pPop s).1 by omega), pTop_k (show 0 < s.1 by omega), join_work z hz, e2']
        rfl
      rw [e]
      unfold pPush
      have l1 : ¬ 40 ≤ (pPop (pPop s)).1 := by show ¬ 40 ≤ s.1 - 1 - 1; omega
      rw [if_neg l1]
      refine ⟨by show s.1 - 1 - 1 + 1 = _; omega, ?_⟩
      intro j hj
      have hj' : j < s.1 - 1 - 1 + 1 := hj
      show kuf s.2 (s.1 - 1 - 1) _ j = _
      unfold kuf
      rw [← h1, show s.1 - 1 - 1 = s.1 - 2 by omega, h2 (s.1 - 2) (by omega), h2 (s.1 - 1) (by omega)]
      by_cases e2 : j = s.1 - 2
      · rw [if_pos e2, if_pos e2]
      · rw [if_neg e2, if_neg e2]; exact h2 j (by omega)
theorem gEag_let {val : Int32 → Int32} {s : Nat × (Nat → Int32)} (hz : z < 7) : gEag val (1000 + trL z) s = pPush s (val (trL z)) := by
  have g := trL_1000 z hz
  unfold gEag; rw [if_pos g.2.2.1, if_neg g.2.1, g.2.2.2]
theorem gEag_two {val : Int32 → Int32} {s : Nat × (Nat → Int32)} (hz : z < 7) : gEag val (2000 + trS z) s = pPush (pPop (pPop s)) (pJoin (trS z) (pTop (pPop s)) (pTop s)) := by
  have g := trS_2000 z hz
  unfold gEag; rw [if_pos g.1, if_pos g.2.1, if_neg g.2.2.1, g.2.2.2]
theorem first_eag {val : Int32 → Int32} : pEag val firstA 7 = 3 * val 119 - val 116 + val 98 := by
  have e : gEagS val firstA 7 (fun _ => 0) = gEag val (firstA 6) (gEag val (firstA 5) (gEag val (firstA 4) (gEag val (firstA 3) (gEag val (firstA 2) (gEag val (firstA 1) (gEag val (firstA 0) (0, fun _ => 0))))))) := rfl
  rw [show firstA 6 = 2000 + trS 3 from by decide, show firstA 5 = 1000 + trL 1 from by decide, show firstA 4 = 2000 + trS 4 from by decide, show firstA 3 = 1000 + trL 2 from by decide, show firstA 2 = 2000 + trS 5 from by decide, show firstA 1 = 3 from rfl, show firstA 0 = 1000 + trL 0 from by decide] at e
  have e3 : ∀ s, gEag val 3 s = pPush s 3 := fun s => by unfold gEag; rw [if_neg (by decide)]
  unfold pEag
  rw [e, gEag_two (by decide), gEag_let (by decide), gEag_two (by decide), gEag_let (by decide), gEag_two (by decide), e3, gEag_let (by decide), join_work 3 (by decide), join_work 4 (by decide), join_work 5 (by decide)]
  show val 119 * 3 - val 116 + val 98 = _
  rw [Int32.mul_comm]
theorem eag_eq {val : Int32 → Int32} {ask S1 : Nat → Int32} (hv : ∀ k, k < 7 → val (trL k) = ask k) (h : RR acts n code n2) : pEag val acts n = pRul code ask n2 S1 := by
  obtain ⟨hc, hn, ha⟩ := h
  have e0 : pEag val acts n = pEag val (aOf code n2) n := by
    unfold pEag gEagS
    rw [kfo_congr (fun x hx s => by rw [ha x hx])]
  rw [e0]
  unfold pRul aOf
  by_cases q : n2 = 0
  · have : n = 7 := by rw [hn]; unfold nOf; rw [if_pos q]
    subst this
    rw [if_pos q, if_pos q, first_eag, ← hv 0 (by decide), ← hv 1 (by decide), ← hv 2 (by decide)]
    rfl
  · have hn' : n = n2 := by rw [hn]; unfold nOf; rw [if_neg q]
    subst hn'
    rw [if_neg q, if_neg q]
    unfold pEag gEagS sRul
    have R := kfo_rel (n := n) (a := ((0, fun _ => 0) : Nat × (Nat → Int32))) (b := S1) (g := fun x s => gEag val (trC (code x)) s) (g2 := gRul code ask) (R := fun x (s : Nat × (Nat → Int32)) S1 => s.1 = rDep code x ∧ ∀ j, j < s.1 → s.2 j = S1 j) (fun x s S1 hx h => eag_step hv hc hx h.1 h.2) ⟨rfl, fun j hj => absurd hj (Nat.not_lt_zero j)⟩
    have h1 : rDep code n = 1 := by
      rcases hc.2.2.1 with e | e
      · exact absurd e q
      · exact e
    rw [pTop_k (by rw [R.1, h1]; decide), R.1, h1]
    exact R.2 0 (by rw [R.1, h1]; decide)
theorem bit_kb {v : Int32} : v &&& 1 = kb (v &&& 1 = 1) := by
  rcases and_one v with h | h
  · rw [h]; rfl
  · rw [h]; rfl
theorem pSay_c (hco : ∀ a, a < m → co a = co2 a) (h8 : m ≤ 8) {said hat : Int32} (ha : a < m) : pSay co said hat (Int32.ofNat m) (Int32.ofNat a) = pSay co2 said hat (Int32.ofNat m) (Int32.ofNat a) := by
  rw [pSay_nat ha h8, pSay_nat ha h8, hco a ha]
theorem pVal_ask (hco : ∀ a, a < m → co a = co2 a) (hbr : ∀ a, a < m → br a = br2 a) (h8 : m ≤ 8) (ha : a < m) (h : NR0 m N M) : ∀ k, k < 7 → pVal co br (Int32.ofNat m) N a (trL k) = qAsk co2 br2 M Q m a k := by
  obtain ⟨h1, _⟩ := h
  intro k hk
  have : k = 0 ∨ k = 1 ∨ k = 2 ∨ k = 3 ∨ k = 4 ∨ k = 5 ∨ k = 6 := by omega
  rcases this with rfl | rfl | rfl | rfl | rfl | rfl | rfl
  · show pBC (pSay co (N 17) (N 18) (Int32.ofNat m) (Int32.ofNat a)) = pBC (pSay co2 (M 17) (M 18) (Int32.ofNat m) (Int32.ofNat a))
    rw [h1 17 (by decide), h1 18 (by decide), pSay_c hco h8 ha]
  · exact hbr a ha
  · exact h1 a (by omega)
  · exact h1 (8 + a) (by omega)
  · show (N 16 >>> (Int32.ofNat a &&& 31)) &&& 1 = kb ((M 16 >>> (Int32.ofNat a &&& 31)) &&& 1 = 1)
    rw [h1 16 (by decide)]; exact bit_kb
  · exact h1 19 (by decide)
  · show N 20 - N 19 = M 20 - M 19
    rw [h1 19 (by decide), h1 20 (by decide)]
theorem eR_eq (hco : ∀ a, a < m → co a = co2 a) (hbr : ∀ a, a < m → br a = br2 a) (h8 : m ≤ 8) (ha : a < m) (h : NR0 m N M) (hr : RR acts n code n2) : pEag (pVal co br (Int32.ofNat m) N a) acts n = eR co2 br2 M m code n2 a := by
  unfold eR eRef
  exact eag_eq (pVal_ask hco hbr h8 ha h) hr
theorem m1_ne {a : Nat} (h : a < 100000) : ¬ Int32.ofNat a = -1 := by
  intro e
  have := @tn_0 a (by omega)
  rw [e] at this
  exact absurd (of_eq_true this) (by decide)
theorem spk_eq (hco : ∀ a, a < m → co a = co2 a) (hbr : ∀ a, a < m → br a = br2 a) (h8 : m ≤ 8) (h : NR0 m N M) (hr : RR acts n code n2) : qSpk co br m N acts n = (rSpk co2 br2 M m code n2 S1 Q).1 := by
  unfold qSpk pSpk rSpk
  have h1 := h.1
  have R := kfo_rel (n := m) (a := ((-1, 0) : Int32 × Int32)) (b := ((-1, S1, Q) : Int32 × (Nat → Int32) × (Nat → Int32))) (g := fun x (w : Int32 × Int32) => if pSay co (N 17) (N 18) (Int32.ofNat m) (Int32.ofNat x) = 0 then w else if w.1 = -1 ∨ ¬ pEag (pVal co br (Int32.ofNat m) N x) acts n ≤ w.2 then (Int32.ofNat x, pEag (pVal co br (Int32.ofNat m) N x) acts n) else w) (g2 := gRS co2 br2 M m code n2) (R := fun _ (w : Int32 × Int32) w2 => w.1 = w2.1 ∧ (w.1 = -1 ∨ ∃ a, a < m ∧ w.1 = Int32.ofNat a ∧ w.2 = eR co2 br2 M m code n2 a)) (fun x w w2 hx hw => by
    obtain ⟨w1, w2e⟩ := hw
    unfold gRS
    rw [h1 17 (by decide), h1 18 (by decide), pSay_c hco h8 hx, eR_eq hco hbr h8 hx h hr]
    by_cases q1 : pSay co2 (M 17) (M 18) (Int32.ofNat m) (Int32.ofNat x) = 0
    · rw [if_pos q1, if_pos q1]; exact ⟨w1, w2e⟩
    · rw [if_neg q1, if_neg q1, ← w1]
      rcases w2e with e | ⟨a, ha, e, e2⟩
      · rw [if_pos (Or.inl e), e, if_pos (by decide)]
        exact ⟨rfl, Or.inr ⟨x, hx, rfl, rfl⟩⟩
      · have g1 : ¬ Int32.ofNat a = -1 := m1_ne (by omega)
        rw [e, if_neg (tn_nn (by omega)), tn_cl (by omega), e2]
        by_cases q2 : eR co2 br2 M m code n2 x ≤ eR co2 br2 M m code n2 a
        · rw [if_neg (by intro z; rcases z with z | z; exact g1 z; exact z q2)]
          show w.1 = (if _ then _ else _) ∧ _
          rw [if_pos q2]
          exact ⟨e, Or.inr ⟨a, ha, e, e2⟩⟩
        · rw [if_pos (Or.inr q2)]
          show Int32.ofNat x = (if _ then _ else _) ∧ _
          rw [if_neg q2]
          exact ⟨rfl, Or.inr ⟨x, hx, rfl, rfl⟩⟩) ⟨rfl, Or.inl rfl⟩
  exact R.1
theorem kfi_first {v : Int32} {k : Nat} (h : pFirst v = Int32.ofNat k) (hk : k < 8) : kfi (fun x => ¬ pBit v x = 0) 8 0 = some k := by
  unfold pFirst at h
  cases e : kfi (fun x => ¬ pBit v x = 0) 8 0 with
  | none => rw [e] at h; exact absurd h.symm (m1_ne (by omega))
  | some y =>
    rw [e] at h
    have hy := kfi_some e
    have h' : Int32.ofNat y = Int32.ofNat k := h
    rw [tn_eq (by omega) (by omega)] at h'
    rw [h']
theorem refuse_0 (h8 : m ≤ 8) (ha : a < m) (hs : ¬ pSay co (M 17) (M 18) (Int32.ofNat m) (Int32.ofNat a) = 0) {k : Nat} (hk : k < 8) (ht : tb (pSay co (M 17) (M 18) (Int32.ofNat m) (Int32.ofNat a)) k = true) : pRefuse co (M 17) (M 18) (pPm M) (Int32.ofNat m) (Int32.ofNat a) 0 (Int32.ofNat k) = 0 ∧ ¬ pCanTalk co (M 17) (M 18) (pPm M) (Int32.ofNat m) (Int32.ofNat a) 0 (Int32.ofNat k) = 0 := by
  have c : pCanTalk co (M 17) (M 18) (pPm M) (Int32.ofNat m) (Int32.ofNat a) 0 (Int32.ofNat k) = 1 := by
    unfold pCanTalk
    rw [if_pos rfl]
    apply kb_t
    rw [pCanSay_iff]
    refine ⟨⟨by rw [tn_n0 (by omega)]; exact id, by rw [show (8 : Int32) = Int32.ofNat 8 from rfl, tn_le (by omega) (by omega)]; omega⟩, ?_⟩
    have := @pBit_1 (pSay co (M 17) (M 18) (Int32.ofNat m) (Int32.ofNat a)) k (by omega)
    unfold pBit at this
    rw [this]; exact ht
  refine ⟨?_, by rw [c]; decide⟩
  unfold pRefuse
  have hH : pHas (Int32.ofNat m) (Int32.ofNat a) = true := by
    rw [pHas_iff, tn_n0 (by omega), tn_le (by omega) (by omega)]; exact ⟨id, by omega⟩
  have e1 : ¬ (¬ pHas (Int32.ofNat m) (Int32.ofNat a) = true ∨ (0 : Int32) < 0 ∨ (4 : Int32) < 0) := by
    intro z; rcases z with z | z | z
    · exact z hH
    · exact absurd z (by decide)
    · exact absurd z (by decide)
  have e2 : ¬ Int32.ofNat a = M 18 := by
    intro z; apply hs; rw [pSay_nat ha h8, if_pos z.symm]
  rw [if_neg e1, if_neg e2, c, if_neg (by decide)]
theorem turn_eq (hco : ∀ a, a < m → co a = co2 a) (hb8 : ∀ a, b8 (co2 a)) (h8 : m ≤ 8) (hle : leOk le) (h : NR m N M) {w : Int32} (hw : w = -1 ∨ ∃ a, a < m ∧ w = Int32.ofNat a ∧ ¬ pSay co2 (M 17) (M 18) (Int32.ofNat m) (Int32.ofNat a) = 0) : NR m (qTake le co (Int32.ofNat m) N w) (rTurn co2 le M m w) := by
  have h1 := h.1.1
  unfold qTake rTurn
  rcases hw with rfl | ⟨a, ha, rfl, hs⟩
  · have e0 : pSay co (N 17) (N 18) (Int32.ofNat m) (-1) = 0 := by unfold pSay; rw [if_pos (Or.inr (Or.inl (by decide)))]
    have e1 : kfi (fun x => ¬ pBit (0 : Int32) x = 0) 8 0 = none := by decide +kernel
    rw [e0, e1, if_pos (by decide)]
    obtain ⟨h0, x, y, hx, hy, hxy, hy60⟩ := h
    exact NR_pass (s := 1) h8 h0 hx hy (by omega) (by omega) hy60 (by decide)
  · obtain ⟨k, hk, e1, _, e3⟩ := ntz_of (b8_say hb8) hs
    rw [h1 17 (by decide), h1 18 (by decide), pSay_c hco h8 ha, kfi_first e1 hk, tn_cl (by omega), if_neg (tn_nn (by omega)), e1]
    have r := refuse_0 h8 ha hs hk e3
    show NR m (qGo le N a 0 (Int32.ofNat k)) (tRow co2 le M m (Int32.ofNat a) 0 (Int32.ofNat k))
    unfold tRow
    rw [if_pos r.1, tn_cl (by omega)]
    exact NR_go h8 hle h (by decide) (by decide) ha r.2
/-- how often it struck, by the reference's counter -/
theorem z25_pass (hh : M 18 = -1 ∨ ∃ a, a < 8 ∧ M 18 = Int32.ofNat a) {u : Int32} : zPass M Z u 25 = Z 25 + (rPass M u 21 - M 21) ∧ zPass M Z u 26 = Z 26 := by
  unfold zPass rPass
  by_cases q : M 19 + u < M 20
  · rw [if_pos q, if_pos q, kuf_n (by decide), Int32.sub_self, Int32.add_zero]; exact ⟨rfl, rfl⟩
  · rw [if_neg q, if_neg q]
    have e : rStrike (kuf M 19 (M 19 + u)) 21 = M 21 + 1 := by
      unfold rStrike; rw [kuf_s, rPaid_n (by rw [kuf_n (by decide)]; exact hh) (Or.inr (by decide)), kuf_n (by decide)]
    rw [e, kuf_n (by decide), kuf_n (by decide), kuf_s, kuf_n (by decide), kuf_n (by decide), kuf_n (by decide)]
    refine ⟨?_, rfl⟩
    rw [Int32.add_comm (M 21) 1, Int32.add_sub_cancel]
theorem rWear_ok (h8 : m ≤ 8) (ha : a < m) (h : NR0 m N M) (hq2 : k = 2 → pHas (Int32.ofNat m) q = true) (hq4 : k = 4 → ¬ pPm M = -1) : rT6 M a k q 18 = -1 ∨ ∃ a', a' < 8 ∧ rT6 M a k q 18 = Int32.ofNat a' := hat8 h8 (NR0_talk h8 ha h hq2 hq4).2.2.2.1
theorem z25_talk (h8 : m ≤ 8) (h : NR0 m N M) (ha : a < m) (hc : ¬ pCanTalk co (M 17) (M 18) (pPm M) (Int32.ofNat m) (Int32.ofNat a) k q = 0) : zTalk le M Z a k q 25 = Z 25 + (rTalk le M a k q 21 - M 21) ∧ zTalk le M Z a k q 26 = Z 26 := by
  have w := pCanTalk_q hc
  unfold zTalk rTalk
  have := @z25_pass (rT6 M a k q) Z (rWear_ok h8 ha h w.2.2.1 w.2.2.2) (rMins le k q)
  rw [rT6_t (j := 21) (by omega) (by omega)] at this
  exact this
theorem z25_turn (hb8 : ∀ a, b8 (co2 a)) (h8 : m ≤ 8) (h : NR m N M) {w : Int32} (hw : w = -1 ∨ ∃ a, a < m ∧ w = Int32.ofNat a ∧ ¬ pSay co2 (M 17) (M 18) (Int32.ofNat m) (Int32.ofNat a) = 0) : zTurn co2 le M Z m w 25 = Z 25 + (rTurn co2 le M m w 21 - M 21) ∧ zTurn co2 le M Z m w 26 = Z 26 + (if w = -1 then 1 else 0) := by
  unfold zTurn rTurn
  rcases hw with rfl | ⟨a, ha, rfl, hs⟩
  · rw [if_pos (by decide), if_pos (by decide), if_pos rfl]
    have := @z25_pass M (kuf Z 26 (Z 26 + 1)) (hat8 h8 h.1.2.2.2.1) 1
    rw [kuf_n (show 25 ≠ 26 by decide), kuf_s] at this
    exact this
  · obtain ⟨k, hk, e1, _, e3⟩ := ntz_of (b8_say hb8) hs
    have r := refuse_0 h8 ha hs hk e3
    rw [if_neg (tn_nn (by omega)), if_neg (tn_nn (by omega)), e1, if_neg (m1_ne (by omega))]
    unfold tZ tRow
    rw [if_pos r.1, if_pos r.1, tn_cl (by omega), Int32.add_zero]
    exact z25_talk h8 h.1 ha r.2
end TC
