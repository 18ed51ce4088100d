/-! A RUN: where the abstract machine comes to an end, the machine does -/
section KBody
variable {l : Launch} {sc : Nat × (Nat → Int32)} {ad : Nat → Nat} {cT : Nat → ClassId} {D : va_G} {B0 : Nat} {Xp : State → Prop}
def kPc (ad : Nat → Nat) (cT : Nat → ClassId) (D : va_G) (B0 : Nat) (Xp : State → Prop) (As : List Value) (S : kS) : Array Value → State → Prop := fun v U => v = (As.map (kcv ad)).toArray ∧ kRep ad cT D S U.heap ∧ U.heap.size ≤ B0 + S.1.2.1 ∧ B0 ≤ U.heap.size ∧ kK cT D U ∧ Xp U
def kQr (ad : Nat → Nat) (cT : Nat → ClassId) (D : va_G) (B0 : Nat) (v : Option Value) (S : kS) : Array Value → State → Outcome → State → Prop := fun _ st o t => o = .returned (v.map (kcv ad)) ∧ kRep ad cT D S t.heap ∧ va_F (fun q => B0 ≤ q) st t
def kRm (d mc ms : Nat) : Room := { frames := d + 10, cells := mc, slots := ms, locals := 40 * d + 200 }
/-- a call that came back -/
theorem kCallW {p : Program} {e : Env} {R : Room} {s : State} {m : MethodId} {args : Array Value} {below : List Frame} {meth : Method} {c : Code} {H : Heap} {locs : List Loc} {cells slots mc ms : Nat} {Q : State → Prop} {pc : Nat} {ls : Array Slot} {st0 rest : List Value} {a : Array Value} {v : Option Value} {S2 : kS}
    (hr : va_Run p l e R s m args below meth c H locs cells slots mc ms (F0 m pc ls st0) rest (kQr ad cT D B0 v S2 a) (fun q => B0 ≤ q)) (hS : va_S (fun q => B0 ≤ q) s.heap H locs)
    (kk : ∀ (H1 : Heap) (locs1 : List Loc), kRep ad cT D S2 H1 → va_S (fun q => B0 ≤ q) s.heap H1 locs1 → W p l e R s m args below meth c H1 locs1 (cells + mc) (slots + ms) Q (F0 m (pc + 3) ls ((v.map (kcv ad)).toList ++ rest))) : W p l e R s m args below meth c H locs cells slots Q (F0 m pc ls st0) := by
  intro T hT X
  obtain ⟨v', st₀, t, T', L, h0, X', hL, e1, e2, ⟨hv, hrep, hF⟩, go⟩ := hr T hT X
  have hv : v' = v.map (kcv ad) := by cases hv; rfl
  subst hv
  have hS' : va_S (fun q => B0 ≤ q) s.heap T'.heap (locs ++ L) := by
    refine ⟨Nat.le_trans hS.1 (by rw [e1, ← h0]; exact hF.1), fun q h1 h2 => ?_, fun q hq => ?_⟩
    · rw [e1, hF.2 q (by rw [h0]; exact Nat.lt_of_lt_of_le h1 hS.1) h2, h0]
      exact hS.2.1 q h1 h2
    · rcases List.mem_append.mp hq with h | h
      · exact hS.2.2 q h
      · exact hL q h
  obtain ⟨t2, a1, b1⟩ := kk T'.heap (locs ++ L) (by rw [e1]; exact hrep) hS' T' rfl X'
  exact ⟨t2, go t2 a1, b1⟩
/-- what is asked of a frame at a place of its run -/
def kGo (l : Launch) (sc : Nat × (Nat → Int32)) (ad : Nat → Nat) (cT : Nat → ClassId) (D : va_G) (B0 : Nat) (Xp : State → Prop) (n : Nat) : Prop :=
  ∀ {d y pc : Nat} {L st : List Value} {S S' : kS} {v : Option Value}, krun sc n d y pc L st S = some (some v, S') →
  ∀ {mm : kM}, kms[y]? = some mm → ∀ {p : Program} {e : Env} {R : Room} {s : State} {m : MethodId} {args : Array Value} {below : List Frame} {meth : Method} {c : Code} {Q : State → Prop},
  p.tables.exec = Jvm.exec → c.code = mm.2.1 → (∀ w ∈ kT, w.before args s = true) → kK cT D s → Xp s → s.vm.findClass (kRn mm.2.2.2.2) = some m.cls → c.maxLocals = L.length → (mm.1.name = "<init>" → meth.name = "<init>") → B0 ≤ s.heap.size → kExt ad B0 sc mm.2.2.2.2 y p l e R s m args below meth c →
  d + 10 ≤ R.frames → 40 * d + 200 ≤ R.locals → ∀ {c0 s0 : Nat}, s.heap.size ≤ B0 + c0 → c0 ≤ S.1.2.1 → s0 ≤ S.1.2.2 → S'.1.2.1 - c0 ≤ R.cells → S'.1.2.2 - s0 ≤ R.slots →
  (∀ (pc2 : Nat) (I : kI) (ls2 : Array Slot) (H2 : Heap) (locs2 : List Loc), kfetch y pc2 = some I → I.1 = 24 → ks24 I.2.2.1 v.toList S' = some (.inl (some v, S')) → kRep ad cT D S' H2 → va_S (fun q => B0 ≤ q) s.heap H2 locs2 → W p l e R s m args below meth c H2 locs2 (S'.1.2.1 - c0) (S'.1.2.2 - s0) Q (F0 m pc2 ls2 (v.toList.map (kcv ad)))) →
  ∀ {ls : Array Slot} {H : Heap} {locs : List Loc}, kRep ad cT D S H → va_S (fun q => B0 ≤ q) s.heap H locs → kLv ad ls L → W p l e R s m args below meth c H locs (S.1.2.1 - c0) (S.1.2.2 - s0) Q (F0 m pc ls (st.map (kcv ad)))
theorem kfetch_inv {y pc : Nat} {I : kI} {mm : kM} (hy : kms[y]? = some mm) (h : kfetch y pc = some I) : ∃ (ins : Instr) (len : Nat), decode mm.2.1 pc = .ok (ins, len) ∧ (kil ins = len ∨ kil ins = 0) ∧ ktr mm.2.2.2.2 y (mm.1.name == "<init>") mm.2.2.2.1 mm.2.1 ins len pc = some I := by
  unfold kfetch at h
  rw [hy] at h
  obtain ⟨nm, cc, ml, ret, own⟩ := mm
  simp only at h ⊢
  cases hd : decode cc pc with
  | error _ => rw [hd] at h; simp at h
  | ok q =>
    obtain ⟨ins, len⟩ := q
    rw [hd] at h
    simp only at h
    obtain ⟨h1, h2⟩ := kif_inj h
    exact ⟨ins, len, rfl, h1, h2⟩
theorem ks24_0 {st : List Value} {S : kS} {c : kC} (h : ks24 0 st S = some c) : st = [] ∧ kend (some none) S = some c := by
  unfold ks24 at h; split at h <;> rename_i h0 <;> first | exact ⟨rfl, h⟩ | cases h0 | cases h
theorem ks24_1 {st : List Value} {S : kS} {c : kC} (h : ks24 1 st S = some c) : ∃ x : Int32, st = [.int x] ∧ kend (some (some (.int x))) S = some c := by
  unfold ks24 at h; split at h <;> rename_i h0 <;> first | exact ⟨_, rfl, h⟩ | cases h0 | cases h
theorem ks24_2 {st : List Value} {S : kS} {c : kC} (h : ks24 2 st S = some c) : ∃ x : Int32, st = [.int x] ∧ kbool x = x := by
  cases st with
  | nil => simp [ks24] at h
  | cons w t =>
    cases t with
    | cons w2 t2 => simp [ks24] at h
    | nil =>
      cases w with
      | int x =>
        have h : (if kbool x = x then kend (some (some (.int x))) S else none) = some c := h
        exact ⟨x, rfl, (kif_inj h).1⟩
      | _ => simp [ks24] at h
theorem ks24_3 {st : List Value} {S : kS} {c : kC} (h : ks24 3 st S = some c) : ∃ x : Int64, st = [.long x] ∧ kend (some (some (.long x))) S = some c := by
  unfold ks24 at h; split at h <;> rename_i h0 <;> first | exact ⟨_, rfl, h⟩ | cases h0 | cases h
/-- a place where a method ends: its instruction, by what it answers -/
theorem kret_inv {y pc : Nat} {I : kI} {mm : kM} {st : List Value} {S : kS} {c : kC} (hy : kms[y]? = some mm) (h : kfetch y pc = some I) (h24 : I.1 = 24) (he : ks24 I.2.2.1 st S = some c) :
    (st = [] ∧ mm.2.2.2.1 = none ∧ decode mm.2.1 pc = .ok (.return_, 1)) ∨ (∃ x : Int32, st = [.int x] ∧ mm.2.2.2.1 = some .int ∧ decode mm.2.1 pc = .ok (.ireturn, 1)) ∨ (∃ x : Int32, st = [.int x] ∧ kbool x = x ∧ mm.2.2.2.1 = some .boolean ∧ decode mm.2.1 pc = .ok (.ireturn, 1)) ∨ (∃ x : Int64, st = [.long x] ∧ mm.2.2.2.1 = some .long ∧ decode mm.2.1 pc = .ok (.lreturn, 1)) := by
  obtain ⟨ins, len, hdec, hlen, htr⟩ := kfetch_inv hy h
  have hnot : ∀ ins, (match ins with | Instr.ireturn => False | Instr.lreturn => False | Instr.return_ => False | _ => True) → ktr mm.2.2.2.2 y (mm.1.name == "<init>") mm.2.2.2.1 mm.2.1 ins len pc = some I → I.1 ≠ 24 := by
    intro ins hi htr
    cases ins <;> simp only [ktr, kkon, kinv] at htr <;> first | exact hi.elim | (repeat' split at htr) <;> first | (cases htr; done) | (simp only [Option.some.injEq] at htr; subst htr; simp)
  cases hi : ins with
  | ireturn =>
    subst hi
    obtain rfl : len = 1 := by
      rcases hlen with h | h
      · exact h.symm
      · exact absurd (show (1 : Nat) = 0 from h) (by decide)
    simp only [ktr] at htr
    split at htr
    · rename_i hret
      simp only [Option.some.injEq] at htr
      subst htr
      obtain ⟨x, hst, -⟩ := ks24_1 he
      exact Or.inr (Or.inl ⟨x, hst, hret, hdec⟩)
    · rename_i hret
      simp only [Option.some.injEq] at htr
      subst htr
      obtain ⟨x, hst, hk⟩ := ks24_2 he
      exact Or.inr (Or.inr (Or.inl ⟨x, hst, hk, hret, hdec⟩))
    · cases htr
  | lreturn =>
    subst hi
    obtain rfl : len = 1 := by
      rcases hlen with h | h
      · exact h.symm
      · exact absurd (show (1 : Nat) = 0 from h) (by decide)
    simp only [ktr] at htr
    split at htr
    · rename_i hret
      simp only [Option.some.injEq] at htr
      subst htr
      obtain ⟨x, hst, -⟩ := ks24_3 he
      exact Or.inr (Or.inr (Or.inr ⟨x, hst, hret, hdec⟩))
    · cases htr
  | return_ =>
    subst hi
    obtain rfl : len = 1 := by
      rcases hlen with h | h
      · exact h.symm
      · exact absurd (show (1 : Nat) = 0 from h) (by decide)
    simp only [ktr] at htr
    split at htr
    · rename_i hret
      simp only [Option.some.injEq] at htr
      subst htr
      exact Or.inl ⟨(ks24_0 he).1, hret, hdec⟩
    · cases htr
  | _ => exact absurd h24 (hnot ins (by rw [hi]; trivial) htr)
end KBody
