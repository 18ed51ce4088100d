/-! each instruction that only goes on: the machine follows the abstract one -/
theorem kgo_inj {n pc' : Nat} {L L' st st' : List Value} {S S' : kS} (h : kgo n L st S = some (.inr (.inl (pc', L', st', S')))) : n = pc' ∧ L = L' ∧ st = st' ∧ S = S' := by
  simp only [kgo, Option.some.injEq, Sum.inr.injEq, Sum.inl.injEq, Prod.mk.injEq] at h
  exact h
theorem kif_inj {α : Type} {c : Prop} [Decidable c] {A : Option α} {v : α} (h : (if c then A else none) = some v) : c ∧ A = some v := by
  by_cases q : c
  · rw [if_pos q] at h; exact ⟨q, h⟩
  · rw [if_neg q] at h; cases h
theorem knif_inj {α : Type} {c : Prop} [Decidable c] {A : Option α} {v : α} (h : (if c then none else A) = some v) : ¬ c ∧ A = some v := by
  by_cases q : c
  · rw [if_pos q] at h; cases h
  · rw [if_neg q] at h; exact ⟨q, h⟩
section KShape
variable {b n a : Nat} {v : Int} {L st : List Value} {S : kS} {c : kC}
theorem ks6_shape (h : ks6 b n L st S = some c) : ∃ (y x : Int32) (st2 : List Value), st = .int y :: .int x :: st2 := by
  unfold ks6 at h; split at h <;> first | exact ⟨_, _, _, rfl⟩ | cases h
theorem ks7_shape (h : ks7 b n L st S = some c) : ∃ (y x : Int64) (st2 : List Value), st = .long y :: .long x :: st2 := by
  unfold ks7 at h; split at h <;> first | exact ⟨_, _, _, rfl⟩ | cases h
theorem ks8_shape (h : ks8 b n L st S = some c) : ∃ (x : Int32) (st2 : List Value), st = .int x :: st2 := by
  unfold ks8 at h; split at h <;> first | exact ⟨_, _, rfl⟩ | cases h
theorem ks9_shape (h : ks9 n L st S = some c) : ∃ (y x : Int64) (st2 : List Value), st = .long y :: .long x :: st2 := by
  unfold ks9 at h; split at h <;> first | exact ⟨_, _, _, rfl⟩ | cases h
theorem ks3_shape0 (h : ks3 a 0 n L st S = some c) : ∃ x : Int32, kget L a = .int x ∧ kgo n L (.int x :: st) S = some c := by
  unfold ks3 at h; split at h <;> rename_i h1 h2 <;> first | exact ⟨_, h2, h⟩ | cases h1 | cases h
theorem ks3_shape1 (h : ks3 a 1 n L st S = some c) : ∃ x : Int64, kget L a = .long x ∧ kgo n L (.long x :: st) S = some c := by
  unfold ks3 at h; split at h <;> rename_i h1 h2 <;> first | exact ⟨_, h2, h⟩ | cases h1 | cases h
theorem ks3_shape2 (h : ks3 a 2 n L st S = some c) : ∃ x : Nat, kget L a = .ref x ∧ kgo n L (.ref x :: st) S = some c := by
  unfold ks3 at h; split at h <;> rename_i h1 h2 <;> first | exact ⟨_, h2, h⟩ | cases h1 | cases h
theorem ks4_shape0 (h : ks4 a 0 n L st S = some c) : ∃ (x : Int32) (st2 : List Value), st = .int x :: st2 ∧ (if a < L.length then kgo n (kset (kclr L a) a (.int x)) st2 S else none) = some c := by
  unfold ks4 at h; split at h <;> rename_i h1 <;> first | exact ⟨_, _, rfl, h⟩ | cases h1 | cases h
theorem ks4_shape1 (h : ks4 a 1 n L st S = some c) : ∃ (x : Int64) (st2 : List Value), st = .long x :: st2 ∧ (if a + 1 < L.length then kgo n (kset (kset (kclr L a) a (.long x)) (a + 1) (.retAddr 0)) st2 S else none) = some c := by
  unfold ks4 at h; split at h <;> rename_i h1 <;> first | exact ⟨_, _, rfl, h⟩ | cases h1 | cases h
theorem ks4_shape2 (h : ks4 a 2 n L st S = some c) : ∃ (x : Nat) (st2 : List Value), st = .ref x :: st2 ∧ (if a < L.length then kgo n (kset (kclr L a) a (.ref x)) st2 S else none) = some c := by
  unfold ks4 at h; split at h <;> rename_i h1 <;> first | exact ⟨_, _, rfl, h⟩ | cases h1 | cases h
theorem ks5_shape (h : ks5 a v n L st S = some c) : ∃ x : Int32, kget L a = .int x ∧ (if a < L.length then kgo n (kset L a (.int (x + Int32.ofInt v))) st S else none) = some c := by
  unfold ks5 at h; split at h <;> rename_i h1 <;> first | exact ⟨_, h1, h⟩ | cases h
theorem ks10_shape0 (h : ks10 0 n L st S = some c) : ∃ (w : Value) (st2 : List Value), st = w :: st2 ∧ (if kc1 w then kgo n L (w :: w :: st2) S else none) = some c := by
  unfold ks10 at h; split at h <;> rename_i h1 <;> first | exact ⟨_, _, rfl, h⟩ | cases h1 | cases h
theorem ks10_shape1 (h : ks10 1 n L st S = some c) : ∃ (w : Value) (st2 : List Value), st = w :: st2 ∧ (if kc1 w then kgo n L st2 S else none) = some c := by
  unfold ks10 at h; split at h <;> rename_i h1 <;> first | exact ⟨_, _, rfl, h⟩ | cases h1 | cases h
theorem ks10_shape2 (h : ks10 2 n L st S = some c) : ∃ (w w2 : Value) (st2 : List Value), st = w :: w2 :: st2 ∧ (if kc1 w && kc1 w2 then kgo n L (w :: w2 :: w :: w2 :: st2) S else none) = some c := by
  unfold ks10 at h; split at h <;> rename_i h1 <;> first | exact ⟨_, _, _, rfl, h⟩ | cases h1 | cases h
theorem ks11_shape (h : ks11 a b n L st S = some c) : ∃ (y x : Int32) (st2 : List Value), st = .int y :: .int x :: st2 ∧ kgo (kbr b x y a n) L st2 S = some c := by
  unfold ks11 at h; split at h <;> first | exact ⟨_, _, _, rfl, h⟩ | cases h
theorem ks12_shape (h : ks12 a b n L st S = some c) : ∃ (x : Int32) (st2 : List Value), st = .int x :: st2 ∧ kgo (kbr b x 0 a n) L st2 S = some c := by
  unfold ks12 at h; split at h <;> first | exact ⟨_, _, rfl, h⟩ | cases h
theorem ks14_shape {tb : List (Int × Nat)} (h : ks14 a tb L st S = some c) : ∃ (x : Int32) (st2 : List Value), st = .int x :: st2 ∧ kgo (ksw x a tb) L st2 S = some c := by
  unfold ks14 at h; split at h <;> first | exact ⟨_, _, rfl, h⟩ | cases h
theorem ks15_shape {ci k : Nat} {ty : Int} (h : ks15 ci k ty n L st S = some c) : ∃ (q : Nat) (st2 : List Value), st = .ref q :: st2 ∧ kob S.1 q ci ∧ kgo n L ((if ty = 2 then S.2.2.2 q k else .int (S.2.1 q k)) :: st2) S = some c := by
  unfold ks15 at h
  split at h
  · obtain ⟨h1, h2⟩ := kif_inj h
    exact ⟨_, _, rfl, h1, by rw [if_pos rfl]; exact h2⟩
  · rename_i h0
    obtain ⟨h1, h2⟩ := kif_inj h
    exact ⟨_, _, rfl, h1, by rw [if_neg h0]; exact h2⟩
  · cases h
theorem ks19_shape (h : ks19 n L st S = some c) : ∃ (q t w : Nat) (st2 : List Value), st = .ref q :: st2 ∧ q < S.1.1 ∧ kSH q = .inr (t, w) ∧ kgo n L (.int (Int32.ofNat w) :: st2) S = some c := by
  unfold ks19 at h
  split at h
  · obtain ⟨h1, h2⟩ := kif_inj h
    split at h2
    · rename_i h3; exact ⟨_, _, _, _, rfl, h1, h3, h2⟩
    · cases h2
  · cases h
theorem ks20_shape (h : ks20 b n L st S = some c) : ∃ (x : Int32) (st2 : List Value), st = .int x :: st2 ∧ (S.1.2.1 = S.1.1 ∧ ¬ x < 0 ∧ x.toNatClampNeg ≤ 65536 ∧ kSH S.1.1 = .inr (b, x.toNatClampNeg)) ∧ kgo n L (.ref S.1.1 :: st2) (kfresh S x.toNatClampNeg) = some c := by
  unfold ks20 at h
  split at h
  · obtain ⟨h1, h2⟩ := kif_inj h
    exact ⟨_, _, rfl, h1, h2⟩
  · cases h
theorem ks22_shape {ci : Nat} (h : ks22 ci n L st S = some c) : ∃ w : Nat, kNF[ci]? = some w ∧ (S.1.2.1 = S.1.1 ∧ kSH S.1.1 = .inl ci) ∧ kgo n L (.ref S.1.1 :: st) (kfresh S w) = some c := by
  unfold ks22 at h
  split at h
  · rename_i h0
    obtain ⟨h1, h2⟩ := kif_inj h
    exact ⟨_, h0, h1, h2⟩
  · cases h
theorem ks16_shape {ci k : Nat} {ty : Int} (h : ks16 ci k ty n L st S = some c) : (∃ (x : Int32) (q : Nat) (st2 : List Value), st = .int x :: .ref q :: st2 ∧ kob S.1 q ci ∧ (ty = 0 ∨ ty = 3 ∧ (x = 0 ∨ x = 1)) ∧ kgo n L st2 (S.1, kupi S.2.1 q k x, S.2.2) = some c) ∨
    (∃ (x q : Nat) (st2 : List Value), st = .ref x :: .ref q :: st2 ∧ kob S.1 q ci ∧ ty = 2 ∧ kgo n L st2 (S.1, S.2.1, S.2.2.1, kupr S.2.2.2 q k (.ref x)) = some c) := by
  unfold ks16 at h
  split at h
  · obtain ⟨h1, h2⟩ := kif_inj h
    exact Or.inl ⟨_, _, _, rfl, h1, Or.inl rfl, h2⟩
  · obtain ⟨h1, h2⟩ := kif_inj h
    exact Or.inl ⟨_, _, _, rfl, h1.1, Or.inr ⟨rfl, h1.2⟩, h2⟩
  · obtain ⟨h1, h2⟩ := kif_inj h
    exact Or.inr ⟨_, _, _, rfl, h1, rfl, h2⟩
  · cases h
theorem ks17_shapei (hb : b < 3) (h : ks17 b n L st S = some c) : ∃ (j : Int32) (q : Nat) (st2 : List Value), st = .int j :: .ref q :: st2 ∧ kar S.1 q b j ∧ kgo n L (.int (S.2.1 q j.toNatClampNeg) :: st2) S = some c := by
  unfold ks17 at h
  split at h
  · omega
  · omega
  · obtain ⟨h1, h2⟩ := kif_inj h
    exact ⟨_, _, _, rfl, h1, h2⟩
  · cases h
theorem ks17_shapel (h : ks17 3 n L st S = some c) : ∃ (j : Int32) (q : Nat) (st2 : List Value), st = .int j :: .ref q :: st2 ∧ kar S.1 q 3 j ∧ kgo n L (.long (S.2.2.1 q j.toNatClampNeg) :: st2) S = some c := by
  unfold ks17 at h
  split at h
  · obtain ⟨h1, h2⟩ := kif_inj h
    exact ⟨_, _, _, rfl, h1, h2⟩
  · rename_i h0; cases h0
  · rename_i h0 _; exact (h0 rfl).elim
  · cases h
theorem ks17_shaper (h : ks17 4 n L st S = some c) : ∃ (j : Int32) (q : Nat) (st2 : List Value), st = .int j :: .ref q :: st2 ∧ kar S.1 q 4 j ∧ kgo n L (S.2.2.2 q j.toNatClampNeg :: st2) S = some c := by
  unfold ks17 at h
  split at h
  · rename_i h0; cases h0
  · obtain ⟨h1, h2⟩ := kif_inj h
    exact ⟨_, _, _, rfl, h1, h2⟩
  · rename_i h0; exact (h0 rfl).elim
  · cases h
theorem ks18_shape0 (h : ks18 0 n L st S = some c) : ∃ (x j : Int32) (q : Nat) (st2 : List Value), st = .int x :: .int j :: .ref q :: st2 ∧ kar S.1 q 0 j ∧ kgo n L st2 (S.1, kupi S.2.1 q j.toNatClampNeg x, S.2.2) = some c := by
  unfold ks18 at h; split at h <;> rename_i h0 <;> first | (obtain ⟨h1, h2⟩ := kif_inj h; exact ⟨_, _, _, _, rfl, h1, h2⟩) | cases h0 | cases h
theorem ks18_shape1 (h : ks18 1 n L st S = some c) : ∃ (x j : Int32) (q : Nat) (st2 : List Value), st = .int x :: .int j :: .ref q :: st2 ∧ kar S.1 q 1 j ∧ kgo n L st2 (S.1, kupi S.2.1 q j.toNatClampNeg (kchar x), S.2.2) = some c := by
  unfold ks18 at h; split at h <;> rename_i h0 <;> first | (obtain ⟨h1, h2⟩ := kif_inj h; exact ⟨_, _, _, _, rfl, h1, h2⟩) | cases h0 | cases h
theorem ks18_shape2 (h : ks18 2 n L st S = some c) : ∃ (x j : Int32) (q : Nat) (st2 : List Value), st = .int x :: .int j :: .ref q :: st2 ∧ kar S.1 q 2 j ∧ kgo n L st2 (S.1, kupi S.2.1 q j.toNatClampNeg (kbool x), S.2.2) = some c := by
  unfold ks18 at h; split at h <;> rename_i h0 <;> first | (obtain ⟨h1, h2⟩ := kif_inj h; exact ⟨_, _, _, _, rfl, h1, h2⟩) | cases h0 | cases h
theorem ks18_shape3 (h : ks18 3 n L st S = some c) : ∃ (x : Int64) (j : Int32) (q : Nat) (st2 : List Value), st = .long x :: .int j :: .ref q :: st2 ∧ kar S.1 q 3 j ∧ kgo n L st2 (S.1, S.2.1, kupl S.2.2.1 q j.toNatClampNeg x, S.2.2.2) = some c := by
  unfold ks18 at h; split at h <;> rename_i h0 <;> first | (obtain ⟨h1, h2⟩ := kif_inj h; exact ⟨_, _, _, _, rfl, h1, h2⟩) | cases h0 | cases h
theorem ks18_shape4 (h : ks18 4 n L st S = some c) : ∃ (x : Nat) (j : Int32) (q : Nat) (st2 : List Value), st = .ref x :: .int j :: .ref q :: st2 ∧ (kar S.1 q 4 j ∧ kob S.1 x 1) ∧ kgo n L st2 (S.1, S.2.1, S.2.2.1, kupr S.2.2.2 q j.toNatClampNeg (.ref x)) = some c := by
  unfold ks18 at h; split at h <;> rename_i h0 <;> first | (obtain ⟨h1, h2⟩ := kif_inj h; exact ⟨_, _, _, _, rfl, h1, h2⟩) | cases h0 | cases h
end KShape
