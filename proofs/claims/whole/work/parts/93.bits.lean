/-! bits of ints -/
section TB
def tb (v : Int32) (x : Nat) : Bool := v.toBitVec.getLsbD x
theorem tb_ext {a b : Int32} (h : ∀ x, x < 32 → tb a x = tb b x) : a = b := by
  apply Int32.toBitVec.inj
  apply BitVec.eq_of_getLsbD_eq
  intro x hx
  exact h x hx
theorem tb_and {a b : Int32} {x : Nat} : tb (a &&& b) x = (tb a x && tb b x) := by
  unfold tb; rw [Int32.toBitVec_and, BitVec.getLsbD_and]
theorem tb_or {a b : Int32} {x : Nat} : tb (a ||| b) x = (tb a x || tb b x) := by
  unfold tb; rw [Int32.toBitVec_or, BitVec.getLsbD_or]
theorem tb_m1 : ∀ x, x < 32 → tb (-1) x = true := by decide +kernel
theorem tb_not {a : Int32} {x : Nat} (hx : x < 32) : tb (a ^^^ (-1)) x = !tb a x := by
  have h := tb_m1 x hx
  unfold tb at h ⊢; rw [Int32.toBitVec_xor, BitVec.getLsbD_xor, h]; cases a.toBitVec.getLsbD x <;> rfl
theorem tb_0 {x : Nat} : tb 0 x = false := by unfold tb; simp
theorem tb_one : ∀ k, k < 32 → ∀ x, x < 32 → tb (1 <<< (Int32.ofNat k &&& 31)) x = decide (x = k) := by decide +kernel
theorem tb_hi {a : Int32} {x : Nat} (hx : 32 ≤ x) : tb a x = false := by
  unfold tb; exact BitVec.getLsbD_of_ge _ _ hx
theorem sh_nat : ∀ x, x < 32 → (Int32.ofNat x &&& 31).toBitVec.smod 32 = BitVec.ofNat 32 x := by decide +kernel
theorem tb_shr {a : Int32} {x j : Nat} (hx : x < 32) (hj : x + j < 32) : tb (a >>> (Int32.ofNat x &&& 31)) j = tb a (x + j) := by
  unfold tb
  rw [Int32.toBitVec_shiftRight, sh_nat x hx, BitVec.sshiftRight_eq', BitVec.toNat_ofNat, Nat.mod_eq_of_lt (by omega), BitVec.getLsbD_sshiftRight]
  have : ¬ 32 ≤ j := by omega
  simp [this, hj]
theorem tb_1 : ∀ j, j < 32 → tb 1 j = decide (j = 0) := by decide +kernel
theorem pBit_tb {v : Int32} {x : Nat} (hx : x < 32) : pBit v x = if tb v x then 1 else 0 := by
  unfold pBit
  apply tb_ext
  intro j hj
  rw [tb_and, tb_1 j hj]
  by_cases e : j = 0
  · subst e; rw [tb_shr hx (by omega)]; cases tb v (x + 0) <;> simp [tb_1, tb_0] <;> decide
  · have : tb (if tb v x = true then (1 : Int32) else 0) j = false := by
      split
      · rw [tb_1 j hj]; simp [e]
      · exact tb_0
    rw [this]; simp [e]
theorem pBit_0 {v : Int32} {x : Nat} (hx : x < 32) : (pBit v x = 0) = (tb v x = false) := by
  rw [pBit_tb hx]; cases tb v x <;> simp
theorem pBit_1 {v : Int32} {x : Nat} (hx : x < 32) : (pBit v x = 1) = (tb v x = true) := by
  rw [pBit_tb hx]; cases tb v x <;> simp
theorem pBit_or {v w : Int32} {x : Nat} : pBit v x = 0 ∨ pBit v x = 1 := by unfold pBit; exact and_one _
/-- eight bits -/
def b8 (v : Int32) : Prop := ∀ x, 8 ≤ x → x < 32 → tb v x = false
theorem b8_nat {v : Int32} (h : b8 v) : ∃ n, n < 256 ∧ v = Int32.ofNat n := by
  refine ⟨v.toBitVec.toNat, ?_, ?_⟩
  · have : v.toBitVec.toNat < 2 ^ 8 := by
      apply Nat.lt_pow_two_of_testBit
      intro x hx
      by_cases e : x < 32
      · exact h x hx e
      · rw [BitVec.testBit_toNat]; exact tb_hi (by omega)
    exact this
  · show v = Int32.ofNat v.toBitVec.toNat
    rw [Int32.ofNat_bitVecToNat, Int32.ofBitVec_toBitVec]
theorem tb_nat {n x : Nat} (hn : n < 4294967296) : tb (Int32.ofNat n) x = n.testBit x := by
  unfold tb
  rw [Int32.toBitVec_ofNat', BitVec.getLsbD_ofNat]
  by_cases e : x < 32
  · simp [e]
  · have : n.testBit x = false := Nat.testBit_lt_two_pow (Nat.lt_of_lt_of_le hn (Nat.pow_le_pow_right (n := 2) (i := 32) (by decide) (show 32 ≤ x by omega)))
    simp [this]
theorem b8_of {n : Nat} (hn : n < 256) : b8 (Int32.ofNat n) := by
  intro x h1 h2
  rw [tb_nat (by omega)]
  exact Nat.testBit_lt_two_pow (Nat.lt_of_lt_of_le hn (Nat.pow_le_pow_right (n := 2) (i := 8) (by decide) h1))
theorem b8_and {v w : Int32} (h : b8 v) : b8 (v &&& w) := by intro x h1 h2; rw [tb_and, h x h1 h2]; rfl
theorem b8_or {v w : Int32} (h : b8 v) (h2 : b8 w) : b8 (v ||| w) := by intro x q1 q2; rw [tb_or, h x q1 q2, h2 x q1 q2]; rfl
theorem b8_0 : b8 0 := fun _ _ _ => tb_0
theorem b8_one {k : Nat} (hk : k < 8) : b8 (1 <<< (Int32.ofNat k &&& 31)) := by
  intro x h1 h2; rw [tb_one k (by omega) x h2]; exact decide_eq_false (by omega)
theorem tb_able {le : Nat → Int32} {br wa : Int32} {x : Nat} (hx : x < 32) : tb (pAble le br wa) x = (decide (x < 8) && tb wa x && !decide (br < le x)) := by
  unfold pAble
  have : ∀ n, n ≤ 8 → tb (kfo (fun x c => c ||| (if (wa >>> (Int32.ofNat x &&& 31)) &&& 1 = 1 ∧ ¬ br < le x then 1 <<< (Int32.ofNat x &&& 31) else 0)) n 0) x = (decide (x < n) && tb wa x && !decide (br < le x)) := by
    intro n
    induction n with
    | zero => intro _; simp [kfo, tb_0]
    | succ n ih =>
      intro hn
      show tb (kfo _ n 0 ||| _) x = _
      rw [tb_or, ih (by omega)]
      have e : ((wa >>> (Int32.ofNat n &&& 31)) &&& 1 = 1) = (tb wa n = true) := pBit_1 (by omega)
      simp only [e]
      by_cases h : x = n
      · subst h
        have h1 : ¬ x < x := by omega
        by_cases q : tb wa x = true ∧ ¬ br < le x
        · rw [if_pos q, tb_one x (by omega) x hx]; simp [q.1, q.2]
        · rw [if_neg q, tb_0]
          have q' : (tb wa x && !decide (br < le x)) = false := by
            cases w : tb wa x
            · rfl
            · by_cases r : br < le x
              · simp [r]
              · exact absurd ⟨w, r⟩ q
          simp [q']
      · have h1 : decide (x < n + 1) = decide (x < n) := by
          by_cases z : x < n
          · simp [z]; omega
          · have : ¬ x < n + 1 := by omega
            simp [z, this]
        rw [h1]
        split
        · rw [tb_one n (by omega) x hx]; simp [h]
        · rw [tb_0]; simp
  exact this 8 (Nat.le_refl _)
theorem tb_W {le : Nat → Int32} {br wa : Int32} {x : Nat} (hx : x < 32) : tb (pW le br wa) x = (decide (x < 8) && tb wa x && !decide (br < le x)) := by
  unfold pW
  have : ∀ n, n ≤ 8 → tb (kfo (fun x c => if br < le x then c else c ||| (wa &&& (1 <<< (Int32.ofNat x &&& 31)))) n 0) x = (decide (x < n) && tb wa x && !decide (br < le x)) := by
    intro n
    induction n with
    | zero => intro _; simp [kfo, tb_0]
    | succ n ih =>
      intro hn
      show tb (if br < le n then kfo _ n 0 else kfo _ n 0 ||| _) x = _
      by_cases h : x = n
      · subst h
        have h1 : ¬ x < x := by omega
        by_cases q : br < le x
        · rw [if_pos q, ih (by omega)]; simp [q]
        · rw [if_neg q, tb_or, ih (by omega), tb_and, tb_one x (by omega) x hx]; simp [q]
      · have h1 : decide (x < n + 1) = decide (x < n) := by
          by_cases z : x < n
          · simp [z]; omega
          · have : ¬ x < n + 1 := by omega
            simp [z, this]
        rw [h1]
        split
        · exact ih (by omega)
        · rw [tb_or, ih (by omega), tb_and, tb_one n (by omega) x hx]; simp [h]
  exact this 8 (Nat.le_refl _)
theorem pW_able {le : Nat → Int32} {br wa : Int32} : pW le br wa = pAble le br wa := tb_ext fun x hx => by rw [tb_W hx, tb_able hx]
theorem b8_able {le : Nat → Int32} {br wa : Int32} : b8 (pAble le br wa) := by
  intro x h1 h2
  rw [tb_able h2]
  have : ¬ x < 8 := by omega
  simp [this]
theorem pFirst_ntz : ∀ n, n < 256 → n ≠ 0 → ∃ k, k < 8 ∧ pFirst (Int32.ofNat n) = Int32.ofNat k ∧ (Int32.ofNat n ^^^ (-1)) &&& (Int32.ofNat n - 1) = Int32.ofNat (2 ^ k - 1) ∧ tb (Int32.ofNat n) k = true := by decide +kernel
theorem pFirst_0 : pFirst 0 = -1 := by decide +kernel
end TB
