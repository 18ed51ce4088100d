/-! what a step can come to; the counters never fall -/
def kpl (c : kC) (S : kS) : Prop := ∃ q : Nat × List Value × List Value × kS, c = .inr (.inl q) ∧ S.1.2.1 ≤ q.2.2.2.1.2.1 ∧ S.1.2.2 ≤ q.2.2.2.1.2.2
theorem kpl_go {n : Nat} {L st : List Value} {S S2 : kS} {c : kC} (h : kgo n L st S2 = some c) (h1 : S.1.2.1 ≤ S2.1.2.1) (h2 : S.1.2.2 ≤ S2.1.2.2) : kpl c S := by
  simp only [kgo, Option.some.injEq] at h
  exact ⟨_, h.symm, h1, h2⟩
section KPl
variable {sc : Nat × (Nat → Int32)} {a b n : Nat} {v : Int} {L st : List Value} {S : kS} {c : kC}
theorem ks3_pl (h : ks3 a b n L st S = some c) : kpl c S := by
  unfold ks3 at h; split at h <;> first | exact kpl_go h (Nat.le_refl _) (Nat.le_refl _) | cases h
theorem ks4_pl (h : ks4 a b n L st S = some c) : kpl c S := by
  unfold ks4 at h; split at h <;> first | (obtain ⟨_, h⟩ := kif_inj h; exact kpl_go h (Nat.le_refl _) (Nat.le_refl _)) | cases h
theorem ks5_pl (h : ks5 a v n L st S = some c) : kpl c S := by
  unfold ks5 at h; split at h <;> first | (obtain ⟨_, h⟩ := kif_inj h; exact kpl_go h (Nat.le_refl _) (Nat.le_refl _)) | cases h
theorem ks6_pl (h : ks6 b n L st S = some c) : kpl c S := by
  unfold ks6 at h; split at h <;> first | exact kpl_go h (Nat.le_refl _) (Nat.le_refl _) | (obtain ⟨_, h⟩ := knif_inj h; exact kpl_go h (Nat.le_refl _) (Nat.le_refl _)) | cases h
theorem ks7_pl (h : ks7 b n L st S = some c) : kpl c S := by
  unfold ks7 at h; split at h <;> first | exact kpl_go h (Nat.le_refl _) (Nat.le_refl _) | (obtain ⟨_, h⟩ := knif_inj h; exact kpl_go h (Nat.le_refl _) (Nat.le_refl _)) | cases h
theorem ks8_pl (h : ks8 b n L st S = some c) : kpl c S := by
  unfold ks8 at h; split at h <;> first | exact kpl_go h (Nat.le_refl _) (Nat.le_refl _) | cases h
theorem ks9_pl (h : ks9 n L st S = some c) : kpl c S := by
  unfold ks9 at h; split at h <;> first | exact kpl_go h (Nat.le_refl _) (Nat.le_refl _) | cases h
theorem ks10_pl (h : ks10 b n L st S = some c) : kpl c S := by
  unfold ks10 at h; split at h <;> first | (obtain ⟨_, h⟩ := kif_inj h; exact kpl_go h (Nat.le_refl _) (Nat.le_refl _)) | cases h
theorem ks11_pl (h : ks11 a b n L st S = some c) : kpl c S := by
  unfold ks11 at h; split at h <;> first | exact kpl_go h (Nat.le_refl _) (Nat.le_refl _) | cases h
theorem ks12_pl (h : ks12 a b n L st S = some c) : kpl c S := by
  unfold ks12 at h; split at h <;> first | exact kpl_go h (Nat.le_refl _) (Nat.le_refl _) | cases h
theorem ks14_pl {tb : List (Int × Nat)} (h : ks14 a tb L st S = some c) : kpl c S := by
  unfold ks14 at h; split at h <;> first | exact kpl_go h (Nat.le_refl _) (Nat.le_refl _) | cases h
theorem ks15_pl (h : ks15 a b v n L st S = some c) : kpl c S := by
  unfold ks15 at h; split at h <;> first | (obtain ⟨_, h⟩ := kif_inj h; exact kpl_go h (Nat.le_refl _) (Nat.le_refl _)) | cases h
theorem ks16_pl (h : ks16 a b v n L st S = some c) : kpl c S := by
  unfold ks16 at h; split at h <;> first | (obtain ⟨_, h⟩ := kif_inj h; exact kpl_go h (Nat.le_refl _) (Nat.le_refl _)) | cases h
theorem ks17_pl (h : ks17 b n L st S = some c) : kpl c S := by
  unfold ks17 at h; split at h <;> first | (obtain ⟨_, h⟩ := kif_inj h; exact kpl_go h (Nat.le_refl _) (Nat.le_refl _)) | cases h
theorem ks18_pl (h : ks18 b n L st S = some c) : kpl c S := by
  unfold ks18 at h; split at h <;> first | (obtain ⟨_, h⟩ := kif_inj h; exact kpl_go h (Nat.le_refl _) (Nat.le_refl _)) | cases h
theorem ks19_pl (h : ks19 n L st S = some c) : kpl c S := by
  obtain ⟨_, _, _, _, _, _, _, h⟩ := ks19_shape h
  exact kpl_go h (Nat.le_refl _) (Nat.le_refl _)
theorem ks20_pl (h : ks20 b n L st S = some c) : kpl c S := by
  obtain ⟨_, _, _, _, h⟩ := ks20_shape h
  exact kpl_go h (Nat.le_succ _) (Nat.le_add_right _ _)
theorem ks22_pl (h : ks22 a n L st S = some c) : kpl c S := by
  obtain ⟨_, _, _, h⟩ := ks22_shape h
  exact kpl_go h (Nat.le_succ _) (Nat.le_add_right _ _)
theorem ks27_pl (h : ks27 b n L st S = some c) : kpl c S := by
  unfold ks27 at h; split at h <;> first | (obtain ⟨_, h⟩ := kif_inj h; exact kpl_go h (Nat.le_refl _) (Nat.le_refl _)) | cases h
theorem ks30_pl (h : ks30 sc n L st S = some c) : kpl c S := by
  unfold ks30 at h; split at h <;> first | (obtain ⟨_, h⟩ := kif_inj h; exact kpl_go h (Nat.le_refl _) (Nat.le_refl _)) | cases h
theorem ks31_pl (h : ks31 sc n L st S = some c) : kpl c S := by
  unfold ks31 at h; split at h <;> first | (obtain ⟨_, h⟩ := kif_inj h; exact kpl_go h (Nat.le_refl _) (Nat.le_refl _)) | cases h
theorem kstep_kind {I : kI} (h : kstep sc I L st S = some c) : (I.1 = 24 ∧ ks24 I.2.2.1 st S = some c) ∨ (I.1 = 23 ∧ ks23 I.2.1 I.2.2.1 I.2.2.2.1 I.2.2.2.2.1 I.2.2.2.2.2 L st S = some c) ∨ (I.1 = 26 ∧ (if 2 * st.length ≤ 8 then kend none ((S.1.1, S.1.2.1 + 1, S.1.2.2 + 6), S.2) else none) = some c) ∨ kpl c S := by
  unfold kstep at h
  split at h
  · exact Or.inr (Or.inr (Or.inr (kpl_go h (Nat.le_refl _) (Nat.le_refl _))))
  · exact Or.inr (Or.inr (Or.inr (kpl_go h (Nat.le_refl _) (Nat.le_refl _))))
  · exact Or.inr (Or.inr (Or.inr (ks3_pl h)))
  · exact Or.inr (Or.inr (Or.inr (ks4_pl h)))
  · exact Or.inr (Or.inr (Or.inr (ks5_pl h)))
  · exact Or.inr (Or.inr (Or.inr (ks6_pl h)))
  · exact Or.inr (Or.inr (Or.inr (ks7_pl h)))
  · exact Or.inr (Or.inr (Or.inr (ks8_pl h)))
  · exact Or.inr (Or.inr (Or.inr (ks9_pl h)))
  · exact Or.inr (Or.inr (Or.inr (ks10_pl h)))
  · exact Or.inr (Or.inr (Or.inr (ks11_pl h)))
  · exact Or.inr (Or.inr (Or.inr (ks12_pl h)))
  · exact Or.inr (Or.inr (Or.inr (kpl_go h (Nat.le_refl _) (Nat.le_refl _))))
  · exact Or.inr (Or.inr (Or.inr (ks14_pl h)))
  · exact Or.inr (Or.inr (Or.inr (ks15_pl h)))
  · exact Or.inr (Or.inr (Or.inr (ks16_pl h)))
  · exact Or.inr (Or.inr (Or.inr (ks17_pl h)))
  · exact Or.inr (Or.inr (Or.inr (ks18_pl h)))
  · exact Or.inr (Or.inr (Or.inr (ks19_pl h)))
  · exact Or.inr (Or.inr (Or.inr (ks20_pl h)))
  · exact Or.inr (Or.inr (Or.inr (ks20_pl h)))
  · exact Or.inr (Or.inr (Or.inr (ks22_pl h)))
  · exact Or.inr (Or.inl ⟨rfl, h⟩)
  · exact Or.inl ⟨rfl, h⟩
  · exact Or.inr (Or.inr (Or.inr (kpl_go h (Nat.le_refl _) (Nat.le_refl _))))
  · exact Or.inr (Or.inr (Or.inl ⟨rfl, h⟩))
  · exact Or.inr (Or.inr (Or.inr (ks27_pl h)))
  · exact Or.inr (Or.inr (Or.inr (ks30_pl h)))
  · exact Or.inr (Or.inr (Or.inr (ks31_pl h)))
  · cases h
theorem ks24_end (h : ks24 b st S = some c) : ∃ v : Option Value, c = .inl (some v, S) ∧ st = v.toList := by
  unfold ks24 at h
  split at h
  · cases h; exact ⟨none, rfl, rfl⟩
  · cases h; exact ⟨some _, rfl, rfl⟩
  · obtain ⟨_, h⟩ := kif_inj h; cases h; exact ⟨some _, rfl, rfl⟩
  · cases h; exact ⟨some _, rfl, rfl⟩
  · cases h
theorem ks23_call {z kind : Nat} {np : Int} {hd : List (Int × Nat)} (h : ks23 z kind np n hd L st S = some c) : ∃ (as rest : List Value), c = .inr (.inr (z, as, n, hd, L, rest, S)) ∧ kpop (if kind = 1 then np.toNat else np.toNat + 1) [] st = some (as, rest) ∧ 2 * rest.length ≤ 8 ∧ kaok z as = true ∧ (kind ≠ 1 → ∃ (a : Nat) (t : List Value), as = .ref a :: t ∧ kob S.1 a (kow z)) := by
  unfold ks23 at h
  split at h
  · rename_i as rest hp
    obtain ⟨h1, h⟩ := kif_inj h
    split at h
    · cases h; exact ⟨as, rest, rfl, hp, h1.1, h1.2, fun q => absurd rfl q⟩
    · obtain ⟨h2, h⟩ := kif_inj h
      cases h
      exact ⟨_, rest, rfl, hp, h1.1, h1.2, fun _ => ⟨_, _, rfl, h2⟩⟩
    · cases h
  · cases h
theorem krun_cu : ∀ {n d y pc : Nat} {L st : List Value} {S : kS} {r : Option (Option Value) × kS}, krun sc n d y pc L st S = some r → S.1.2.1 ≤ r.2.1.2.1 ∧ S.1.2.2 ≤ r.2.1.2.2 := by
  intro n
  induction n with
  | zero => intro d y pc L st S r h; simp [krun] at h
  | succ n ih =>
    intro d y pc L st S r h
    rw [krun] at h
    cases hf : kfetch y pc with
    | none => rw [hf] at h; simp at h
    | some I =>
      rw [hf] at h
      simp only at h
      cases hs : kstep sc I L st S with
      | none => rw [hs] at h; simp at h
      | some c =>
        rw [hs] at h
        rcases kstep_kind hs with ⟨-, h1⟩ | ⟨-, h1⟩ | ⟨-, h1⟩ | ⟨⟨pc2, L2, st2, S2⟩, rfl, h2, h3⟩
        · obtain ⟨v, rfl, -⟩ := ks24_end h1
          cases h
          exact ⟨Nat.le_refl _, Nat.le_refl _⟩
        · obtain ⟨as, rest, rfl, -, -, -, -⟩ := ks23_call h1
          simp only at h
          cases d with
          | zero => simp at h
          | succ d' =>
            simp only at h
            cases hc : krun sc n d' I.2.1 0 (kpad (kmx I.2.1) as) [] S with
            | none => rw [hc] at h; simp at h
            | some q =>
              rw [hc] at h
              have h4 := ih hc
              rcases q with ⟨_ | v, S2⟩
              · cases hd : I.2.2.2.2.2 with
                | nil => rw [hd] at h; simp at h
                | cons a t =>
                  rw [hd] at h
                  have h5 := ih h
                  exact ⟨Nat.le_trans h4.1 h5.1, Nat.le_trans h4.2 h5.2⟩
              · have h5 := ih h
                exact ⟨Nat.le_trans h4.1 h5.1, Nat.le_trans h4.2 h5.2⟩
        · obtain ⟨-, h1⟩ := kif_inj h1
          cases h1
          cases h
          exact ⟨Nat.le_succ _, Nat.le_add_right _ _⟩
        · have h5 := ih h
          exact ⟨Nat.le_trans h2 h5.1, Nat.le_trans h3 h5.2⟩
end KPl
/-- the entry of a method: its arguments as locals -/
theorem kent_mem {ad : Nat → Nat} : ∀ (vs : List Value) (n off : Nat), vs.all kargok = true → kasz vs ≤ n → ∀ (k : Nat) (v : Value), (kpad n vs)[k]? = some v → kknown v → (off + k, kcv ad v) ∈ lv_args off (vs.map (kcv ad))
  | [], n, off, _, _, k, v, hk, hv => by
    have : ∀ n k : Nat, (kpad n [])[k]? = some v → v = .retAddr 0 := by
      intro n
      induction n with
      | zero => intro k h; simp [kpad] at h
      | succ n ih =>
        intro k h
        cases k with
        | zero => simpa [kpad] using h.symm
        | succ k => exact ih k (by simpa [kpad] using h)
    exact absurd (this n k hk) (hv 0)
  | w :: t, n, off, ha, hs, k, v, hk, hv => by
    rw [List.all_cons, Bool.and_eq_true] at ha
    cases w with
    | float x => exact absurd ha.1 (by simp [kargok])
    | double x => exact absurd ha.1 (by simp [kargok])
    | retAddr x => exact absurd ha.1 (by simp [kargok])
    | long x =>
      match n, hs with
      | 0, hs => simp [kasz, Value.category] at hs
      | 1, hs => simp [kasz, Value.category] at hs; omega
      | n + 2, hs =>
        have hs2 : kasz t ≤ n := by simp [kasz, Value.category] at hs; omega
        match k, hk with
        | 0, hk =>
          have e : v = .long x := by simpa [kpad] using hk.symm
          subst e
          exact List.mem_cons_self
        | 1, hk =>
          have e : v = .retAddr 0 := by simpa [kpad] using hk.symm
          exact absurd e (hv 0)
        | k + 2, hk =>
          have h1 := kent_mem (ad := ad) t n (off + 2) ha.2 hs2 k v (by simpa [kpad] using hk) hv
          refine List.mem_cons_of_mem _ ?_
          show (off + (k + 2), kcv ad v) ∈ lv_args (if (kcv ad (.long x)).category = 2 then off + 2 else off + 1) _
          rw [if_pos (by rfl), show off + (k + 2) = off + 2 + k by omega]
          exact h1
    | int x =>
      match n, hs with
      | 0, hs => simp [kasz, Value.category] at hs
      | n + 1, hs =>
        have hs2 : kasz t ≤ n := by simp [kasz, Value.category] at hs; omega
        match k, hk with
        | 0, hk =>
          have e : v = .int x := by simpa [kpad] using hk.symm
          subst e
          exact List.mem_cons_self
        | k + 1, hk =>
          have h1 := kent_mem (ad := ad) t n (off + 1) ha.2 hs2 k v (by simpa [kpad] using hk) hv
          refine List.mem_cons_of_mem _ ?_
          show (off + (k + 1), kcv ad v) ∈ lv_args (if (kcv ad (.int x)).category = 2 then off + 2 else off + 1) _
          rw [if_neg (by simp [kcv, Value.category]), show off + (k + 1) = off + 1 + k by omega]
          exact h1
    | null =>
      match n, hs with
      | 0, hs => simp [kasz, Value.category] at hs
      | n + 1, hs =>
        have hs2 : kasz t ≤ n := by simp [kasz, Value.category] at hs; omega
        match k, hk with
        | 0, hk =>
          have e : v = .null := by simpa [kpad] using hk.symm
          subst e
          exact List.mem_cons_self
        | k + 1, hk =>
          have h1 := kent_mem (ad := ad) t n (off + 1) ha.2 hs2 k v (by simpa [kpad] using hk) hv
          refine List.mem_cons_of_mem _ ?_
          show (off + (k + 1), kcv ad v) ∈ lv_args (if (kcv ad .null).category = 2 then off + 2 else off + 1) _
          rw [if_neg (by simp [kcv, Value.category]), show off + (k + 1) = off + 1 + k by omega]
          exact h1
    | ref x =>
      match n, hs with
      | 0, hs => simp [kasz, Value.category] at hs
      | n + 1, hs =>
        have hs2 : kasz t ≤ n := by simp [kasz, Value.category] at hs; omega
        match k, hk with
        | 0, hk =>
          have e : v = .ref x := by simpa [kpad] using hk.symm
          subst e
          exact List.mem_cons_self
        | k + 1, hk =>
          have h1 := kent_mem (ad := ad) t n (off + 1) ha.2 hs2 k v (by simpa [kpad] using hk) hv
          refine List.mem_cons_of_mem _ ?_
          show (off + (k + 1), kcv ad v) ∈ lv_args (if (Value.ref (ad x)).category = 2 then off + 2 else off + 1) _
          rw [if_neg (by simp [Value.category]), show off + (k + 1) = off + 1 + k by omega]
          exact h1
theorem kslots {ad : Nat → Nat} : ∀ vs : List Value, (lg_sl (vs.map (kcv ad))).length = kasz vs
  | [] => rfl
  | v :: t => by
    have h := kslots (ad := ad) t
    have e : lg_sl ((v :: t).map (kcv ad)) = (if (kcv ad v).category = 2 then [.val (kcv ad v), .second] else [.val (kcv ad v)]) ++ lg_sl (t.map (kcv ad)) := by simp [lg_sl]
    rw [e, List.length_append, h, kasz, kcv_cat]
    cases v <;> simp [Value.category]
theorem kentry {ad : Nat → Nat} {vs : List Value} {n : Nat} (ha : vs.all kargok = true) (hs : kasz vs ≤ n) : kLv ad ((lg_sl (vs.map (kcv ad)) ++ List.replicate (n - (lg_sl (vs.map (kcv ad))).length) Slot.unset).toArray) (kpad n vs) := by
  refine kLv_of (lv_entry (vs.map (kcv ad)) (by rw [kslots]; exact hs)) (kpad_len n vs) (fun k v hk hv => ?_)
  have := kent_mem (ad := ad) vs n 0 ha hs k v hk hv
  rwa [Nat.zero_add] at this
