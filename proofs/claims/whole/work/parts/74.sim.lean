/-! THE STEP: where the abstract machine goes on, the machine does -/
/-- what the machine does beside the cells: texts, the script -/
def kExt (ad : Nat → Nat) (B0 : Nat) (sc : Nat × (Nat → Int32)) (own y : Nat) (p : Program) (l : Launch) (e : Env) (R : Room) (s : State) (m : MethodId) (args : Array Value) (below : List Frame) (meth : Method) (c : Code) : Prop :=
  (∀ (H : Heap) (locs : List Loc) (cells slots : Nat) (Q : State → Prop) (pc : Nat) (ls : Array Slot) (rest : List Value) (ix len : Nat) (k : Int), klk krK own ix = some (2, k) → (decode c.code pc = .ok (.ldc ix, 2) ∧ len = 2 ∨ decode c.code pc = .ok (.ldc_w ix, 3) ∧ len = 3) → va_S (fun q => B0 ≤ q) s.heap H locs →
    W p l e R s m args below meth c H locs cells slots Q (F0 m (pc + len) ls (.ref (ad (kStA + k.toNat)) :: rest)) → W p l e R s m args below meth c H locs cells slots Q (F0 m pc ls rest)) ∧
  (∀ (H : Heap) (locs : List Loc) (cells slots : Nat) (Q : State → Prop) (pc : Nat) (ls : Array Slot) (rest : List Value) (a ix : Nat), (kStA ≤ a ∧ a < kStA + kStr.length) → Cond.methodLink (kRn own) ix (kJn 10) ∈ kT → decode c.code pc = .ok (.invokevirtual ix, 3) → ls.size = c.maxLocals → (rest.map fun v => v.category).sum ≤ 8 → va_S (fun q => B0 ≤ q) s.heap H locs → cells ≤ R.cells → slots ≤ R.slots →
    W p l e R s m args below meth c H locs cells slots Q (F0 m (pc + 3) ls (.int (Int32.ofNat (kstl a)) :: rest)) → W p l e R s m args below meth c H locs cells slots Q (F0 m pc ls (.ref (ad a) :: rest))) ∧
  (∀ (H : Heap) (locs : List Loc) (cells slots : Nat) (Q : State → Prop) (pc : Nat) (ls : Array Slot) (rest : List Value) (a ix : Nat) (j : Int32), kin j (kstl a) → Cond.methodLink (kRn own) ix (kJn 11) ∈ kT → decode c.code pc = .ok (.invokevirtual ix, 3) → ls.size = c.maxLocals → (rest.map fun v => v.category).sum ≤ 8 → va_S (fun q => B0 ≤ q) s.heap H locs → cells ≤ R.cells → slots ≤ R.slots →
    W p l e R s m args below meth c H locs cells slots Q (F0 m (pc + 3) ls (.int (kchr a j.toNatClampNeg) :: rest)) → W p l e R s m args below meth c H locs cells slots Q (F0 m pc ls (.int j :: .ref (ad a) :: rest))) ∧
  (y = kLaw → va_X (ad kScA) sc.1 sc.2 s s.heap ∧ ad kScA < s.heap.size ∧ ad kScA < B0)
theorem k8 (x : Int8) : Int32.ofInt x.toInt = x.toInt32 := by
  apply Int32.toInt_inj.mp
  have h1 := Int8.le_toInt x
  have h2 := Int8.toInt_lt x
  rw [Int32.toInt_ofInt_of_le (by omega) (by omega), Int8.toInt_toInt32]
theorem k16 (x : Int16) : Int32.ofInt x.toInt = x.toInt32 := by
  apply Int32.toInt_inj.mp
  have h1 := Int16.le_toInt x
  have h2 := Int16.toInt_lt x
  rw [Int32.toInt_ofInt_of_le (by omega) (by omega), Int16.toInt_toInt32]
theorem kcat_sum {rest : List Value} {ad : Nat → Nat} (h : 2 * rest.length ≤ 8) : ((rest.map (kcv ad)).map fun v => v.category).sum ≤ 8 := by
  have key : ∀ l : List Value, ((l.map (kcv ad)).map fun v => v.category).sum ≤ 2 * l.length := by
    intro l
    induction l with
    | nil => simp
    | cons v t ih =>
      have : (kcv ad v).category ≤ 2 := by rw [kcv_cat]; cases v <;> simp [Value.category]
      simp only [List.map_cons, List.sum_cons, List.length_cons]
      omega
  exact Nat.le_trans (key rest) h
theorem kc1_eq {v : Value} (h : kc1 v = true) : v.category = 1 := by simpa [kc1] using h
theorem kjm_eq {pc : Nat} {off : Int} (h : kjo pc off = true) : (pc : Int) + off = (kjm pc off : Int) := by
  unfold kjo at h
  have h := of_decide_eq_true h
  unfold kjm
  omega
def kKc (own : Nat) (e : Nat × Nat × Int) : Bool := match e with
  | (ix, 0, v) => decide (Cond.constant (kRn own) ix (Int32.ofInt v) ∈ lw_tbl)
  | (ix, 1, v) => decide (Cond.constantLong (kRn own) ix (Int64.ofInt v) ∈ lw_tbl)
  | _ => true
theorem kKc_all : ∀ own, own < 14 → ∀ e ∈ (krK[own]?).getD [], kKc own e = true := by decide +kernel
theorem kKi {own ix : Nat} {v : Int} (ho : own < 14) (h : klk krK own ix = some (0, v)) : Cond.constant (kRn own) ix (Int32.ofInt v) ∈ kT := by
  obtain ⟨r, hr, hm⟩ := klk_mem h
  have h2 : decide (Cond.constant (kRn own) ix (Int32.ofInt v) ∈ lw_tbl) = true := kKc_all own ho (ix, 0, v) (by rw [hr]; exact hm)
  exact kT_of (of_decide_eq_true h2) rfl
theorem kKl {own ix : Nat} {v : Int} (ho : own < 14) (h : klk krK own ix = some (1, v)) : Cond.constantLong (kRn own) ix (Int64.ofInt v) ∈ kT := by
  obtain ⟨r, hr, hm⟩ := klk_mem h
  have h2 : decide (Cond.constantLong (kRn own) ix (Int64.ofInt v) ∈ lw_tbl) = true := kKc_all own ho (ix, 1, v) (by rw [hr]; exact hm)
  exact kT_of (of_decide_eq_true h2) rfl
def kCc (own : Nat) (e : Nat × Nat) : Bool := match vwCl[e.2]? with
  | some (C, _, _) => decide (Cond.classLink (kRn own) e.1 C ∈ lw_tbl)
  | none => true
theorem kCc_all : ∀ own, own < 14 → ∀ e ∈ (krC[own]?).getD [], kCc own e = true := by decide +kernel
theorem kCl {own ix ci N : Nat} {C : String} {Tt : u_T} (ho : own < 14) (h : klk krC own ix = some ci) (hv : vwCl[ci]? = some (C, Tt, N)) : Cond.classLink (kRn own) ix C ∈ kT := by
  obtain ⟨r, hr, hm⟩ := klk_mem h
  have h1 := kCc_all own ho (ix, ci) (by rw [hr]; exact hm)
  unfold kCc at h1
  simp only [hv] at h1
  exact kT_of (of_decide_eq_true h1) rfl
theorem knar_i (x : Int32) : ∀ ty0 : FieldType, kftok ty0 0 = true → narrow ty0 (.int x) = .int x ∧ fits ty0 (.int x) = true := by
  intro ty0 h
  cases ty0 <;> first | exact ⟨rfl, rfl⟩ | cases h
theorem kbool_nar {x : Int32} (h : kbool x = x) : narrow .boolean (.int x) = .int x := by
  unfold kbool vp_nar at h
  cases hn : narrow .boolean (.int x) with
  | int z => rw [hn] at h; rw [show z = x from h]
  | _ => cases hn
theorem kntab (pc : Nat) : ∀ (offs : List Int) (lo : Int) (x : Int32) (d : Nat), (∀ k : Nat, k < offs.length → -2147483648 ≤ lo + k ∧ lo + k < 2147483648) →
    (∀ k : Nat, x.toInt = lo + k → k < offs.length → ∃ o, offs[k]? = some o ∧ ksw x d (ktb pc offs lo) = kjm pc o) ∧ ((x.toInt < lo ∨ lo + offs.length ≤ x.toInt) → ksw x d (ktb pc offs lo) = d)
  | [], lo, x, d, _ => ⟨fun k _ h => by simp at h, fun _ => rfl⟩
  | o :: r, lo, x, d, hr => by
    have h0 := hr 0 (by simp)
    simp only [Int.natCast_zero, Int.add_zero] at h0
    have he : x = Int32.ofInt lo ↔ x.toInt = lo := by
      constructor
      · intro q; rw [q, Int32.toInt_ofInt_of_le (by omega) (by omega)]
      · intro q; apply Int32.toInt_inj.mp; rw [Int32.toInt_ofInt_of_le (by omega) (by omega)]; exact q
    have ih := kntab pc r (lo + 1) x d (fun k hk => by have := hr (k + 1) (by simpa using hk); omega)
    refine ⟨fun k hk hl => ?_, fun hk => ?_⟩
    · cases k with
      | zero =>
        refine ⟨o, rfl, ?_⟩
        show (if x = Int32.ofInt lo then kjm pc o else ksw x d (ktb pc r (lo + 1))) = _
        rw [if_pos (he.mpr (by omega))]
      | succ k =>
        obtain ⟨o2, h1, h2⟩ := ih.1 k (by omega) (by simpa using hl)
        refine ⟨o2, by simpa using h1, ?_⟩
        show (if x = Int32.ofInt lo then kjm pc o else ksw x d (ktb pc r (lo + 1))) = _
        rw [if_neg (fun q => by have := he.mp q; omega)]
        exact h2
    · show (if x = Int32.ofInt lo then kjm pc o else ksw x d (ktb pc r (lo + 1))) = d
      have hl : ((o :: r).length : Int) = r.length + 1 := by simp
      rw [hl] at hk
      rw [if_neg (fun q => by have := he.mp q; have : (0 : Int) ≤ r.length := Int.natCast_nonneg _; omega)]
      exact ih.2 (by omega)
theorem knlook (pc : Nat) : ∀ (ps : List (Int × Int)) (x : Int32) (d : Int), (∀ q ∈ ps, (kjo pc q.2 && k32 q.1) = true) → kjo pc d = true → (pc : Int) + Op.lookupswitch.offset ps d x.toInt = (ksw x (kjm pc d) (ps.map fun q => (q.1, kjm pc q.2)) : Int)
  | [], x, d, _, hd => kjm_eq hd
  | (k, o) :: r, x, d, h, hd => by
    have h0 := h (k, o) List.mem_cons_self
    simp only [Bool.and_eq_true, k32, decide_eq_true_eq] at h0
    have ih := knlook pc r x d (fun q hq => h q (List.mem_cons_of_mem _ hq)) hd
    have he : x = Int32.ofInt k ↔ x.toInt = k := by
      constructor
      · intro q; rw [q, Int32.toInt_ofInt_of_le (by omega) (by omega)]
      · intro q; apply Int32.toInt_inj.mp; rw [Int32.toInt_ofInt_of_le (by omega) (by omega)]; exact q
    rw [Op.lookupswitch.offset_cons]
    show _ = ((if x = Int32.ofInt k then kjm pc o else ksw x (kjm pc d) (r.map fun q => (q.1, kjm pc q.2)) : Nat) : Int)
    by_cases q : x = Int32.ofInt k
    · rw [if_pos q, if_pos (he.mp q).symm]
      exact kjm_eq h0.1
    · rw [if_neg q, if_neg (fun z => q (he.mpr z.symm))]
      exact ih
theorem ks23_no {z kind n : Nat} {np : Int} {hd : List (Int × Nat)} {L st : List Value} {S : kS} {q : Nat × List Value × List Value × kS} : ks23 z kind np n hd L st S ≠ some (.inr (.inl q)) := by
  intro h
  unfold ks23 at h
  split at h
  · obtain ⟨-, h⟩ := kif_inj h
    split at h
    · cases h
    · obtain ⟨-, h⟩ := kif_inj h; cases h
    · cases h
  · cases h
theorem ks24_no {b : Nat} {st : List Value} {S : kS} {q : Nat × List Value × List Value × kS} : ¬ ks24 b st S = some (.inr (.inl q)) := by
  intro h
  unfold ks24 at h
  split at h
  · cases h
  · cases h
  · obtain ⟨-, h⟩ := kif_inj h; cases h
  · cases h
  · cases h
section KSh27
variable {n : Nat} {L st : List Value} {S : kS} {c : kC}
theorem ks27_10 (h : ks27 10 n L st S = some c) : ∃ (a : Nat) (st2 : List Value), st = .ref a :: st2 ∧ kStA ≤ a ∧ a < kStA + kStr.length ∧ 2 * st2.length ≤ 8 ∧ kgo n L (.int (Int32.ofNat (kstl a)) :: st2) S = some c := by
  unfold ks27 at h; split at h <;> rename_i h0 <;> first | (obtain ⟨h1, h2⟩ := kif_inj h; exact ⟨_, _, rfl, h1.1, h1.2.1, h1.2.2, h2⟩) | cases h0 | cases h
theorem ks27_11 (h : ks27 11 n L st S = some c) : ∃ (a : Nat) (j : Int32) (st2 : List Value), st = .int j :: .ref a :: st2 ∧ kin j (kstl a) ∧ 2 * st2.length ≤ 8 ∧ kgo n L (.int (kchr a j.toNatClampNeg) :: st2) S = some c := by
  unfold ks27 at h; split at h <;> rename_i h0 <;> first | (obtain ⟨h1, h2⟩ := kif_inj h; exact ⟨_, _, _, rfl, h1.1, h1.2, h2⟩) | cases h0 | cases h
theorem ks27_12 (h : ks27 12 n L st S = some c) : ∃ (x dp : Int32) (d : Nat) (sp : Int32) (s : Nat) (st2 : List Value), st = .int x :: .int dp :: .ref d :: .int sp :: .ref s :: st2 ∧ (s < S.1.1 ∧ d < S.1.1 ∧ s ≠ d ∧ ¬ x < 0 ∧ ¬ dp < 0 ∧ ¬ sp < 0 ∧ sp.toNatClampNeg + x.toNatClampNeg ≤ klen s 0 ∧ dp.toNatClampNeg + x.toNatClampNeg ≤ klen d 0 ∧ (0 < klen s 0 ∧ 0 < klen d 0) ∧ 2 * st2.length ≤ 8) ∧ kgo n L st2 (S.1, kcop S.2.1 s sp.toNatClampNeg d dp.toNatClampNeg x.toNatClampNeg, S.2.2) = some c := by
  unfold ks27 at h; split at h <;> rename_i h0 <;> first | (obtain ⟨h1, h2⟩ := kif_inj h; exact ⟨_, _, _, _, _, _, rfl, h1, h2⟩) | cases h0 | cases h
theorem ks27_13 (h : ks27 13 n L st S = some c) : ∃ (a : Nat) (st2 : List Value), st = .ref a :: st2 ∧ 2 * st2.length ≤ 8 ∧ kgo n L st2 S = some c := by
  unfold ks27 at h; split at h <;> rename_i h0 <;> first | (obtain ⟨h1, h2⟩ := kif_inj h; exact ⟨_, _, rfl, h1, h2⟩) | cases h0 | cases h
theorem ks27_14 (h : ks27 14 n L st S = some c) : ∃ (y x : Int32) (st2 : List Value), st = .int y :: .int x :: st2 ∧ 2 * st2.length ≤ 8 ∧ kgo n L (.int (if x < y then y else x) :: st2) S = some c := by
  unfold ks27 at h; split at h <;> rename_i h0 <;> first | (obtain ⟨h1, h2⟩ := kif_inj h; exact ⟨_, _, _, rfl, h1, h2⟩) | cases h0 | cases h
theorem ks27_15 (h : ks27 15 n L st S = some c) : ∃ (y x : Int32) (st2 : List Value), st = .int y :: .int x :: st2 ∧ 2 * st2.length ≤ 8 ∧ kgo n L (.int (if y < x then y else x) :: st2) S = some c := by
  unfold ks27 at h; split at h <;> rename_i h0 <;> first | (obtain ⟨h1, h2⟩ := kif_inj h; exact ⟨_, _, _, rfl, h1, h2⟩) | cases h0 | cases h
end KSh27
theorem kSL_t : ∀ q ∈ kSL, (match q with | .inr (t, _) => decide (t < 5) | .inl _ => true) = true := by decide +kernel
theorem kSL_len : kSL.length < 1000 := by decide +kernel
theorem kSH_t (q : Nat) : match kSH q with | .inr (t, _) => t < 5 | .inl _ => True := by
  unfold kSH
  cases h : kSL[q]? with
  | none => trivial
  | some r =>
    have h1 := kSL_t r (List.mem_of_getElem? h)
    obtain ci | ⟨t, n⟩ := r
    · trivial
    · have h2 : decide (t < 5) = true := h1
      exact (of_decide_eq_true h2 : t < 5)
theorem kSH_lt (q : Nat) : match kSH q with | .inr _ => q < 1000 | .inl ci => (ci < 99 → q < 1000) := by
  unfold kSH
  cases h : kSL[q]? with
  | none => exact fun h => absurd h (by decide)
  | some r =>
    have h1 := (List.getElem?_eq_some_iff.mp h).1
    have h2 := kSL_len
    obtain ci | ⟨t, n⟩ := r
    · exact fun _ => by omega
    · show q < 1000; omega
theorem klen_sh0 {a : Nat} (h : 0 < klen a 0) : kSH a = .inr (0, klen a 0) := by
  unfold klen at h ⊢
  cases hs : kSH a with
  | inl ci => rw [hs] at h; exact absurd h (Nat.lt_irrefl _)
  | inr q =>
    obtain ⟨t, n⟩ := q
    rw [hs] at h
    by_cases e : t = 0
    · subst e; simp
    · simp only [e, if_false] at h
      exact absurd h (Nat.lt_irrefl _)
theorem kW_cop {ad : Nat → Nat} {cT : Nat → ClassId} {S : kS} {s d sp dp n : Nat} (hs : kSH d = .inr (0, klen d 0)) : (kW ad cT S).set d (ad d, .inl (cT 0, klen d 0, .inl (va_cpy (S.2.1 s) (S.2.1 d) sp dp n))) = kW ad cT (S.1, kcop S.2.1 s sp d dp n, S.2.2) := by
  refine kW_set rfl ?_ (fun b hb => kE_cong (by funext j; simp [kcop, hb]) rfl rfl)
  rw [kE_arr hs, kAr_i (by omega)]
  show (Sum.inl (cT 0, klen d 0, Sum.inl (kcop S.2.1 s sp d dp n d)) : va_E) = _
  rw [show kcop S.2.1 s sp d dp n d = va_cpy (S.2.1 s) (S.2.1 d) sp dp n from by funext j; simp [kcop, va_cpy]]

set_option maxHeartbeats 4000000 in
theorem kSim {p : Program} {l : Launch} {e : Env} {R : Room} {s : State} {m : MethodId} {args : Array Value} {below : List Frame} {meth : Method} {c : Code} {H : Heap} {locs : List Loc} {Q : State → Prop} {pc : Nat} {ls : Array Slot} {ad : Nat → Nat} {cT : Nat → ClassId} {D : va_G} {B0 : Nat} {sc : Nat × (Nat → Int32)} {y : Nat} {mm : kM} {L st L' st' : List Value} {S S' : kS} {pc' : Nat} {I : kI} {len c0 s0 : Nat}
    (hAd : ∀ a, a < 1000 → ad a = B0 + a) (hx : p.tables.exec = Jvm.exec) (ho : mm.2.2.2.2 < 14) (hb : c.code = mm.2.1) (hts : ∀ w ∈ kT, w.before args s = true) (hK : kK cT D s) (hown : s.vm.findClass (kRn mm.2.2.2.2) = some m.cls) (hml : c.maxLocals = L.length) (hinit : mm.1.name = "<init>" → meth.name = "<init>") (hB : B0 ≤ s.heap.size) (hX : kExt ad B0 sc mm.2.2.2.2 y p l e R s m args below meth c)
    (hRf : 10 ≤ R.frames) (hRl : 200 ≤ R.locals) (hc0 : s.heap.size ≤ B0 + c0) (hc1 : c0 ≤ S.1.2.1) (hs1 : s0 ≤ S.1.2.2) (hfc : S'.1.2.1 - c0 ≤ R.cells) (hfs : S'.1.2.2 - s0 ≤ R.slots)
    (hR : kRep ad cT D S H) (hS : va_S (fun q => B0 ≤ q) s.heap H locs) (hL : kLv ad ls L) (ins : Instr)
    (hdec : decode mm.2.1 pc = .ok (ins, len)) (hlen : kil ins = len ∨ kil ins = 0) (htr : ktr mm.2.2.2.2 y (mm.1.name == "<init>") mm.2.2.2.1 mm.2.1 ins len pc = some I) (hstep : kstep sc I L st S = some (.inr (.inl (pc', L', st', S'))))
    (kk : ∀ (ls' : Array Slot) (H' : Heap) (locs' : List Loc), kRep ad cT D S' H' → va_S (fun q => B0 ≤ q) s.heap H' locs' → kLv ad ls' L' → L'.length = L.length → W p l e R s m args below meth c H' locs' (S'.1.2.1 - c0) (S'.1.2.2 - s0) Q (F0 m pc' ls' (st'.map (kcv ad)))) :
    W p l e R s m args below meth c H locs (S.1.2.1 - c0) (S.1.2.2 - s0) Q (F0 m pc ls (st.map (kcv ad))) := by
  have hls : ls.size = L.length := hL.1
  cases ins
  case iconst n =>
    obtain rfl : len = 1 := by
      rcases hlen with h | h
      · exact h.symm
      · exact absurd (show (1 : Nat) = 0 from h) (by decide)
    simp only [ktr, Option.some.injEq] at htr
    subst htr
    obtain ⟨rfl, rfl, rfl, rfl⟩ := kgo_inj hstep
    exact lv_iconst hx hb hdec rfl (kk ls H locs hR hS hL rfl)
  case bipush n =>
    obtain rfl : len = 2 := by
      rcases hlen with h | h
      · exact h.symm
      · exact absurd (show (2 : Nat) = 0 from h) (by decide)
    simp only [ktr, Option.some.injEq] at htr
    subst htr
    obtain ⟨rfl, rfl, rfl, rfl⟩ := kgo_inj hstep
    exact lv_bipush hx hb hdec (k8 _).symm (kk ls H locs hR hS hL rfl)
  case sipush n =>
    obtain rfl : len = 3 := by
      rcases hlen with h | h
      · exact h.symm
      · exact absurd (show (3 : Nat) = 0 from h) (by decide)
    simp only [ktr, Option.some.injEq] at htr
    subst htr
    obtain ⟨rfl, rfl, rfl, rfl⟩ := kgo_inj hstep
    exact lv_sipush hx hb hdec (k16 _).symm (kk ls H locs hR hS hL rfl)
  case lconst n =>
    obtain rfl : len = 1 := by
      rcases hlen with h | h
      · exact h.symm
      · exact absurd (show (1 : Nat) = 0 from h) (by decide)
    simp only [ktr, Option.some.injEq] at htr
    subst htr
    obtain ⟨rfl, rfl, rfl, rfl⟩ := kgo_inj hstep
    exact lv_lconst hx hb hdec (by match n with | 0 => rfl | 1 => rfl) (kk ls H locs hR hS hL rfl)
  case ldc ix =>
    obtain rfl : len = 2 := by
      rcases hlen with h | h
      · exact h.symm
      · exact absurd (show (2 : Nat) = 0 from h) (by decide)
    simp only [ktr, kkon] at htr
    split at htr
    · rename_i hq
      rw [if_pos (by decide)] at htr
      simp only [Option.some.injEq] at htr
      subst htr
      obtain ⟨rfl, rfl, rfl, rfl⟩ := kgo_inj hstep
      exact lv_ldc hx hb hown (hts _ (kKi ho hq)) hdec (kk ls H locs hR hS hL rfl)
    · rename_i hq
      rw [if_neg (by decide)] at htr
      cases htr
    · rename_i hq
      rw [if_pos (by decide)] at htr
      simp only [Option.some.injEq] at htr
      subst htr
      obtain ⟨rfl, rfl, rfl, rfl⟩ := kgo_inj hstep
      exact hX.1 H locs _ _ Q pc ls _ ix 2 _ hq (Or.inl ⟨by rw [hb]; exact hdec, rfl⟩) hS (kk ls H locs hR hS hL rfl)
    · cases htr
  case ldc_w ix =>
    obtain rfl : len = 3 := by
      rcases hlen with h | h
      · exact h.symm
      · exact absurd (show (3 : Nat) = 0 from h) (by decide)
    simp only [ktr, kkon] at htr
    split at htr
    · rename_i hq
      rw [if_pos (by decide)] at htr
      simp only [Option.some.injEq] at htr
      subst htr
      obtain ⟨rfl, rfl, rfl, rfl⟩ := kgo_inj hstep
      exact lv_ldcw hx hb hown (hts _ (kKi ho hq)) hdec (kk ls H locs hR hS hL rfl)
    · rename_i hq
      rw [if_neg (by decide)] at htr
      cases htr
    · rename_i hq
      rw [if_pos (by decide)] at htr
      simp only [Option.some.injEq] at htr
      subst htr
      obtain ⟨rfl, rfl, rfl, rfl⟩ := kgo_inj hstep
      exact hX.1 H locs _ _ Q pc ls _ ix 3 _ hq (Or.inr ⟨by rw [hb]; exact hdec, rfl⟩) hS (kk ls H locs hR hS hL rfl)
    · cases htr
  case ldc2_w ix =>
    obtain rfl : len = 3 := by
      rcases hlen with h | h
      · exact h.symm
      · exact absurd (show (3 : Nat) = 0 from h) (by decide)
    simp only [ktr, kkon] at htr
    split at htr
    · rename_i hq
      rw [if_neg (by decide)] at htr
      cases htr
    · rename_i hq
      rw [if_pos (by decide)] at htr
      simp only [Option.some.injEq] at htr
      subst htr
      obtain ⟨rfl, rfl, rfl, rfl⟩ := kgo_inj hstep
      exact lv_ldc2 hx hb hown (hts _ (kKl ho hq)) hdec (kk ls H locs hR hS hL rfl)
    · rename_i hq
      rw [if_neg (by decide)] at htr
      cases htr
    · cases htr
  case iload_n k =>
    obtain rfl : len = 1 := by
      rcases hlen with h | h
      · exact h.symm
      · exact absurd (show (1 : Nat) = 0 from h) (by decide)
    simp only [ktr, Option.some.injEq] at htr
    subst htr
    obtain ⟨x, hg, hstep⟩ := ks3_shape0 hstep
    obtain ⟨rfl, rfl, rfl, rfl⟩ := kgo_inj hstep
    exact lv_iload_n hx hb hdec rfl (kLv_get hL hg (fun x h => by cases h)) (kk ls H locs hR hS hL rfl)
  case istore_n k =>
    obtain rfl : len = 1 := by
      rcases hlen with h | h
      · exact h.symm
      · exact absurd (show (1 : Nat) = 0 from h) (by decide)
    simp only [ktr, Option.some.injEq] at htr
    subst htr
    obtain ⟨x, st2, rfl, hstep⟩ := ks4_shape0 hstep
    obtain ⟨hlt, hstep⟩ := kif_inj hstep
    obtain ⟨rfl, rfl, rfl, rfl⟩ := kgo_inj hstep
    exact lv_istore_n hx hb hdec rfl hL hlt rfl (fun ls2 hl2 => kk ls2 H locs hR hS (kLv_st1 (v := .int x) hlt hl2) (by simp [kset_eq, kclr_len]))
  case iload k =>
    obtain rfl : len = 2 := by
      rcases hlen with h | h
      · exact h.symm
      · exact absurd (show (2 : Nat) = 0 from h) (by decide)
    simp only [ktr, Option.some.injEq] at htr
    subst htr
    obtain ⟨x, hg, hstep⟩ := ks3_shape0 hstep
    obtain ⟨rfl, rfl, rfl, rfl⟩ := kgo_inj hstep
    exact lv_iload hx hb hdec (kLv_get hL hg (fun x h => by cases h)) (kk ls H locs hR hS hL rfl)
  case istore k =>
    obtain rfl : len = 2 := by
      rcases hlen with h | h
      · exact h.symm
      · exact absurd (show (2 : Nat) = 0 from h) (by decide)
    simp only [ktr, Option.some.injEq] at htr
    subst htr
    obtain ⟨x, st2, rfl, hstep⟩ := ks4_shape0 hstep
    obtain ⟨hlt, hstep⟩ := kif_inj hstep
    obtain ⟨rfl, rfl, rfl, rfl⟩ := kgo_inj hstep
    exact lv_istore hx hb hdec hL hlt rfl (fun ls2 hl2 => kk ls2 H locs hR hS (kLv_st1 (v := .int x) hlt hl2) (by simp [kset_eq, kclr_len]))
  case lload_n k =>
    obtain rfl : len = 1 := by
      rcases hlen with h | h
      · exact h.symm
      · exact absurd (show (1 : Nat) = 0 from h) (by decide)
    simp only [ktr, Option.some.injEq] at htr
    subst htr
    obtain ⟨x, hg, hstep⟩ := ks3_shape1 hstep
    obtain ⟨rfl, rfl, rfl, rfl⟩ := kgo_inj hstep
    exact lv_lload_n hx hb hdec rfl (kLv_get hL hg (fun x h => by cases h)) (kk ls H locs hR hS hL rfl)
  case lstore_n k =>
    obtain rfl : len = 1 := by
      rcases hlen with h | h
      · exact h.symm
      · exact absurd (show (1 : Nat) = 0 from h) (by decide)
    simp only [ktr, Option.some.injEq] at htr
    subst htr
    obtain ⟨x, st2, rfl, hstep⟩ := ks4_shape1 hstep
    obtain ⟨hlt, hstep⟩ := kif_inj hstep
    obtain ⟨rfl, rfl, rfl, rfl⟩ := kgo_inj hstep
    exact lv_lstore_n hx hb hdec rfl hL hlt rfl (fun ls2 hl2 => kk ls2 H locs hR hS (kLv_st2 (v := .long x) hlt hl2) (by simp [kset_eq, kclr_len]))
  case lload k =>
    obtain rfl : len = 2 := by
      rcases hlen with h | h
      · exact h.symm
      · exact absurd (show (2 : Nat) = 0 from h) (by decide)
    simp only [ktr, Option.some.injEq] at htr
    subst htr
    obtain ⟨x, hg, hstep⟩ := ks3_shape1 hstep
    obtain ⟨rfl, rfl, rfl, rfl⟩ := kgo_inj hstep
    exact lv_lload hx hb hdec (kLv_get hL hg (fun x h => by cases h)) (kk ls H locs hR hS hL rfl)
  case lstore k =>
    obtain rfl : len = 2 := by
      rcases hlen with h | h
      · exact h.symm
      · exact absurd (show (2 : Nat) = 0 from h) (by decide)
    simp only [ktr, Option.some.injEq] at htr
    subst htr
    obtain ⟨x, st2, rfl, hstep⟩ := ks4_shape1 hstep
    obtain ⟨hlt, hstep⟩ := kif_inj hstep
    obtain ⟨rfl, rfl, rfl, rfl⟩ := kgo_inj hstep
    exact lv_lstore hx hb hdec hL hlt rfl (fun ls2 hl2 => kk ls2 H locs hR hS (kLv_st2 (v := .long x) hlt hl2) (by simp [kset_eq, kclr_len]))
  case aload_n k =>
    obtain rfl : len = 1 := by
      rcases hlen with h | h
      · exact h.symm
      · exact absurd (show (1 : Nat) = 0 from h) (by decide)
    simp only [ktr, Option.some.injEq] at htr
    subst htr
    obtain ⟨x, hg, hstep⟩ := ks3_shape2 hstep
    obtain ⟨rfl, rfl, rfl, rfl⟩ := kgo_inj hstep
    exact lv_aload_n hx hb hdec rfl (kLv_get hL hg (fun x h => by cases h)) (kk ls H locs hR hS hL rfl)
  case astore_n k =>
    obtain rfl : len = 1 := by
      rcases hlen with h | h
      · exact h.symm
      · exact absurd (show (1 : Nat) = 0 from h) (by decide)
    simp only [ktr, Option.some.injEq] at htr
    subst htr
    obtain ⟨x, st2, rfl, hstep⟩ := ks4_shape2 hstep
    obtain ⟨hlt, hstep⟩ := kif_inj hstep
    obtain ⟨rfl, rfl, rfl, rfl⟩ := kgo_inj hstep
    exact lv_astore_n hx hb hdec rfl hL hlt rfl (fun ls2 hl2 => kk ls2 H locs hR hS (kLv_st1 (v := .ref x) hlt hl2) (by simp [kset_eq, kclr_len]))
  case aload k =>
    obtain rfl : len = 2 := by
      rcases hlen with h | h
      · exact h.symm
      · exact absurd (show (2 : Nat) = 0 from h) (by decide)
    simp only [ktr, Option.some.injEq] at htr
    subst htr
    obtain ⟨x, hg, hstep⟩ := ks3_shape2 hstep
    obtain ⟨rfl, rfl, rfl, rfl⟩ := kgo_inj hstep
    exact lv_aload hx hb hdec (kLv_get hL hg (fun x h => by cases h)) (kk ls H locs hR hS hL rfl)
  case astore k =>
    obtain rfl : len = 2 := by
      rcases hlen with h | h
      · exact h.symm
      · exact absurd (show (2 : Nat) = 0 from h) (by decide)
    simp only [ktr, Option.some.injEq] at htr
    subst htr
    obtain ⟨x, st2, rfl, hstep⟩ := ks4_shape2 hstep
    obtain ⟨hlt, hstep⟩ := kif_inj hstep
    obtain ⟨rfl, rfl, rfl, rfl⟩ := kgo_inj hstep
    exact lv_astore hx hb hdec hL hlt rfl (fun ls2 hl2 => kk ls2 H locs hR hS (kLv_st1 (v := .ref x) hlt hl2) (by simp [kset_eq, kclr_len]))
  case iinc k n =>
    obtain rfl : len = 3 := by
      rcases hlen with h | h
      · exact h.symm
      · exact absurd (show (3 : Nat) = 0 from h) (by decide)
    simp only [ktr, Option.some.injEq] at htr
    subst htr
    obtain ⟨x, hg, hstep⟩ := ks5_shape hstep
    obtain ⟨hlt, hstep⟩ := kif_inj hstep
    obtain ⟨rfl, rfl, rfl, rfl⟩ := kgo_inj hstep
    have hgL : L[k]? = some (.int x) := by
      rw [kget_eq, List.getElem?_eq_getElem hlt] at hg
      rw [List.getElem?_eq_getElem hlt]
      exact congrArg some hg
    obtain ⟨q, hq⟩ := List.getElem?_of_mem ((kLl_mem (ad := ad) (n := 0) (L := L) (j := k) (w := .int x)).mpr ⟨k, .int x, by omega, hgL, (fun x h => by cases h), rfl⟩)
    exact lv_iinc hx hb hdec hL hq rfl hlt rfl (fun ls2 hl2 => kk ls2 H locs hR hS (kLv_inc hlt hL hg hl2) (by simp [kset_eq]))
  case iadd =>
    obtain rfl : len = 1 := by
      rcases hlen with h | h
      · exact h.symm
      · exact absurd (show (1 : Nat) = 0 from h) (by decide)
    simp only [ktr, Option.some.injEq] at htr
    subst htr
    obtain ⟨z, x, st2, rfl⟩ := ks6_shape (b := 0) hstep
    obtain ⟨rfl, rfl, rfl, rfl⟩ := kgo_inj hstep
    exact lv_iadd hx hb hdec (kk ls H locs hR hS hL rfl)
  case isub =>
    obtain rfl : len = 1 := by
      rcases hlen with h | h
      · exact h.symm
      · exact absurd (show (1 : Nat) = 0 from h) (by decide)
    simp only [ktr, Option.some.injEq] at htr
    subst htr
    obtain ⟨z, x, st2, rfl⟩ := ks6_shape (b := 1) hstep
    obtain ⟨rfl, rfl, rfl, rfl⟩ := kgo_inj hstep
    exact lv_isub hx hb hdec (kk ls H locs hR hS hL rfl)
  case imul =>
    obtain rfl : len = 1 := by
      rcases hlen with h | h
      · exact h.symm
      · exact absurd (show (1 : Nat) = 0 from h) (by decide)
    simp only [ktr, Option.some.injEq] at htr
    subst htr
    obtain ⟨z, x, st2, rfl⟩ := ks6_shape (b := 2) hstep
    obtain ⟨rfl, rfl, rfl, rfl⟩ := kgo_inj hstep
    exact lv_imul hx hb hdec (kk ls H locs hR hS hL rfl)
  case idiv =>
    obtain rfl : len = 1 := by
      rcases hlen with h | h
      · exact h.symm
      · exact absurd (show (1 : Nat) = 0 from h) (by decide)
    simp only [ktr, Option.some.injEq] at htr
    subst htr
    obtain ⟨z, x, st2, rfl⟩ := ks6_shape (b := 3) hstep
    obtain ⟨hne, hstep⟩ := knif_inj (c := z = 0) hstep
    obtain ⟨rfl, rfl, rfl, rfl⟩ := kgo_inj hstep
    exact lv_idiv hx hb hdec hne (kk ls H locs hR hS hL rfl)
  case irem =>
    obtain rfl : len = 1 := by
      rcases hlen with h | h
      · exact h.symm
      · exact absurd (show (1 : Nat) = 0 from h) (by decide)
    simp only [ktr, Option.some.injEq] at htr
    subst htr
    obtain ⟨z, x, st2, rfl⟩ := ks6_shape (b := 4) hstep
    obtain ⟨hne, hstep⟩ := knif_inj (c := z = 0) hstep
    obtain ⟨rfl, rfl, rfl, rfl⟩ := kgo_inj hstep
    exact lv_irem hx hb hdec hne (kk ls H locs hR hS hL rfl)
  case iand =>
    obtain rfl : len = 1 := by
      rcases hlen with h | h
      · exact h.symm
      · exact absurd (show (1 : Nat) = 0 from h) (by decide)
    simp only [ktr, Option.some.injEq] at htr
    subst htr
    obtain ⟨z, x, st2, rfl⟩ := ks6_shape (b := 5) hstep
    obtain ⟨rfl, rfl, rfl, rfl⟩ := kgo_inj hstep
    exact lv_iand hx hb hdec (kk ls H locs hR hS hL rfl)
  case ior =>
    obtain rfl : len = 1 := by
      rcases hlen with h | h
      · exact h.symm
      · exact absurd (show (1 : Nat) = 0 from h) (by decide)
    simp only [ktr, Option.some.injEq] at htr
    subst htr
    obtain ⟨z, x, st2, rfl⟩ := ks6_shape (b := 6) hstep
    obtain ⟨rfl, rfl, rfl, rfl⟩ := kgo_inj hstep
    exact lv_ior hx hb hdec (kk ls H locs hR hS hL rfl)
  case ixor =>
    obtain rfl : len = 1 := by
      rcases hlen with h | h
      · exact h.symm
      · exact absurd (show (1 : Nat) = 0 from h) (by decide)
    simp only [ktr, Option.some.injEq] at htr
    subst htr
    obtain ⟨z, x, st2, rfl⟩ := ks6_shape (b := 7) hstep
    obtain ⟨rfl, rfl, rfl, rfl⟩ := kgo_inj hstep
    exact lv_ixor hx hb hdec (kk ls H locs hR hS hL rfl)
  case ishl =>
    obtain rfl : len = 1 := by
      rcases hlen with h | h
      · exact h.symm
      · exact absurd (show (1 : Nat) = 0 from h) (by decide)
    simp only [ktr, Option.some.injEq] at htr
    subst htr
    obtain ⟨z, x, st2, rfl⟩ := ks6_shape (b := 8) hstep
    obtain ⟨rfl, rfl, rfl, rfl⟩ := kgo_inj hstep
    exact lv_ishl hx hb hdec (kk ls H locs hR hS hL rfl)
  case ishr =>
    obtain rfl : len = 1 := by
      rcases hlen with h | h
      · exact h.symm
      · exact absurd (show (1 : Nat) = 0 from h) (by decide)
    simp only [ktr, Option.some.injEq] at htr
    subst htr
    obtain ⟨z, x, st2, rfl⟩ := ks6_shape (b := 9) hstep
    obtain ⟨rfl, rfl, rfl, rfl⟩ := kgo_inj hstep
    exact lv_ishr hx hb hdec (kk ls H locs hR hS hL rfl)
  case iushr =>
    obtain rfl : len = 1 := by
      rcases hlen with h | h
      · exact h.symm
      · exact absurd (show (1 : Nat) = 0 from h) (by decide)
    simp only [ktr, Option.some.injEq] at htr
    subst htr
    obtain ⟨z, x, st2, rfl⟩ := ks6_shape (b := 10) hstep
    obtain ⟨rfl, rfl, rfl, rfl⟩ := kgo_inj hstep
    exact lv_iushr hx hb hdec rfl (kk ls H locs hR hS hL rfl)
  case ladd =>
    obtain rfl : len = 1 := by
      rcases hlen with h | h
      · exact h.symm
      · exact absurd (show (1 : Nat) = 0 from h) (by decide)
    simp only [ktr, Option.some.injEq] at htr
    subst htr
    obtain ⟨z, x, st2, rfl⟩ := ks7_shape (b := 0) hstep
    obtain ⟨rfl, rfl, rfl, rfl⟩ := kgo_inj hstep
    exact lv_ladd hx hb hdec (kk ls H locs hR hS hL rfl)
  case lsub =>
    obtain rfl : len = 1 := by
      rcases hlen with h | h
      · exact h.symm
      · exact absurd (show (1 : Nat) = 0 from h) (by decide)
    simp only [ktr, Option.some.injEq] at htr
    subst htr
    obtain ⟨z, x, st2, rfl⟩ := ks7_shape (b := 1) hstep
    obtain ⟨rfl, rfl, rfl, rfl⟩ := kgo_inj hstep
    exact lv_lsub hx hb hdec (kk ls H locs hR hS hL rfl)
  case lmul =>
    obtain rfl : len = 1 := by
      rcases hlen with h | h
      · exact h.symm
      · exact absurd (show (1 : Nat) = 0 from h) (by decide)
    simp only [ktr, Option.some.injEq] at htr
    subst htr
    obtain ⟨z, x, st2, rfl⟩ := ks7_shape (b := 2) hstep
    obtain ⟨rfl, rfl, rfl, rfl⟩ := kgo_inj hstep
    exact lv_lmul hx hb hdec (kk ls H locs hR hS hL rfl)
  case ldiv =>
    obtain rfl : len = 1 := by
      rcases hlen with h | h
      · exact h.symm
      · exact absurd (show (1 : Nat) = 0 from h) (by decide)
    simp only [ktr, Option.some.injEq] at htr
    subst htr
    obtain ⟨z, x, st2, rfl⟩ := ks7_shape (b := 3) hstep
    obtain ⟨hne, hstep⟩ := knif_inj (c := z = 0) hstep
    obtain ⟨rfl, rfl, rfl, rfl⟩ := kgo_inj hstep
    exact lv_ldiv hx hb hdec hne (kk ls H locs hR hS hL rfl)
  case lrem =>
    obtain rfl : len = 1 := by
      rcases hlen with h | h
      · exact h.symm
      · exact absurd (show (1 : Nat) = 0 from h) (by decide)
    simp only [ktr, Option.some.injEq] at htr
    subst htr
    obtain ⟨z, x, st2, rfl⟩ := ks7_shape (b := 4) hstep
    obtain ⟨hne, hstep⟩ := knif_inj (c := z = 0) hstep
    obtain ⟨rfl, rfl, rfl, rfl⟩ := kgo_inj hstep
    exact lv_lrem hx hb hdec hne (kk ls H locs hR hS hL rfl)
  case ineg =>
    obtain rfl : len = 1 := by
      rcases hlen with h | h
      · exact h.symm
      · exact absurd (show (1 : Nat) = 0 from h) (by decide)
    simp only [ktr, Option.some.injEq] at htr
    subst htr
    obtain ⟨x, st2, rfl⟩ := ks8_shape (b := 0) hstep
    obtain ⟨rfl, rfl, rfl, rfl⟩ := kgo_inj hstep
    exact lv_ineg hx hb hdec (kk ls H locs hR hS hL rfl)
  case i2l =>
    obtain rfl : len = 1 := by
      rcases hlen with h | h
      · exact h.symm
      · exact absurd (show (1 : Nat) = 0 from h) (by decide)
    simp only [ktr, Option.some.injEq] at htr
    subst htr
    obtain ⟨x, st2, rfl⟩ := ks8_shape (b := 1) hstep
    obtain ⟨rfl, rfl, rfl, rfl⟩ := kgo_inj hstep
    exact lv_i2l hx hb hdec rfl (kk ls H locs hR hS hL rfl)
  case i2b =>
    obtain rfl : len = 1 := by
      rcases hlen with h | h
      · exact h.symm
      · exact absurd (show (1 : Nat) = 0 from h) (by decide)
    simp only [ktr, Option.some.injEq] at htr
    subst htr
    obtain ⟨x, st2, rfl⟩ := ks8_shape (b := 3) hstep
    obtain ⟨rfl, rfl, rfl, rfl⟩ := kgo_inj hstep
    exact lv_i2b hx hb hdec rfl (kk ls H locs hR hS hL rfl)
  case i2s =>
    obtain rfl : len = 1 := by
      rcases hlen with h | h
      · exact h.symm
      · exact absurd (show (1 : Nat) = 0 from h) (by decide)
    simp only [ktr, Option.some.injEq] at htr
    subst htr
    obtain ⟨x, st2, rfl⟩ := ks8_shape (b := 4) hstep
    obtain ⟨rfl, rfl, rfl, rfl⟩ := kgo_inj hstep
    exact lv_i2s hx hb hdec rfl (kk ls H locs hR hS hL rfl)
  case i2c =>
    obtain rfl : len = 1 := by
      rcases hlen with h | h
      · exact h.symm
      · exact absurd (show (1 : Nat) = 0 from h) (by decide)
    simp only [ktr, Option.some.injEq] at htr
    subst htr
    obtain ⟨x, st2, rfl⟩ := ks8_shape (b := 5) hstep
    obtain ⟨rfl, rfl, rfl, rfl⟩ := kgo_inj hstep
    exact lv_i2c hx hb hdec rfl (kk ls H locs hR hS hL rfl)
  case lcmp =>
    obtain rfl : len = 1 := by
      rcases hlen with h | h
      · exact h.symm
      · exact absurd (show (1 : Nat) = 0 from h) (by decide)
    simp only [ktr, Option.some.injEq] at htr
    subst htr
    obtain ⟨z, x, st2, rfl⟩ := ks9_shape hstep
    obtain ⟨rfl, rfl, rfl, rfl⟩ := kgo_inj hstep
    exact W.lcmp hx hb hdec (kk ls H locs hR hS hL rfl)
  case dup =>
    obtain rfl : len = 1 := by
      rcases hlen with h | h
      · exact h.symm
      · exact absurd (show (1 : Nat) = 0 from h) (by decide)
    simp only [ktr, Option.some.injEq] at htr
    subst htr
    obtain ⟨v, st2, rfl, hstep⟩ := ks10_shape0 hstep
    obtain ⟨hc, hstep⟩ := kif_inj hstep
    obtain ⟨rfl, rfl, rfl, rfl⟩ := kgo_inj hstep
    exact lv_dup hx hb hdec (by rw [kcv_cat]; exact kc1_eq hc) (kk ls H locs hR hS hL rfl)
  case pop =>
    obtain rfl : len = 1 := by
      rcases hlen with h | h
      · exact h.symm
      · exact absurd (show (1 : Nat) = 0 from h) (by decide)
    simp only [ktr, Option.some.injEq] at htr
    subst htr
    obtain ⟨v, st2, rfl, hstep⟩ := ks10_shape1 hstep
    obtain ⟨hc, hstep⟩ := kif_inj hstep
    obtain ⟨rfl, rfl, rfl, rfl⟩ := kgo_inj hstep
    exact lv_pop hx hb hdec (by rw [kcv_cat]; exact kc1_eq hc) (kk ls H locs hR hS hL rfl)
  case dup2 =>
    obtain rfl : len = 1 := by
      rcases hlen with h | h
      · exact h.symm
      · exact absurd (show (1 : Nat) = 0 from h) (by decide)
    simp only [ktr, Option.some.injEq] at htr
    subst htr
    obtain ⟨v, w, st2, rfl, hstep⟩ := ks10_shape2 hstep
    obtain ⟨hc, hstep⟩ := kif_inj hstep
    rw [Bool.and_eq_true] at hc
    obtain ⟨rfl, rfl, rfl, rfl⟩ := kgo_inj hstep
    exact lv_dup2_11 hx hb hdec (by rw [kcv_cat]; exact kc1_eq hc.1) (by rw [kcv_cat]; exact kc1_eq hc.2) (kk ls H locs hR hS hL rfl)
  case if_icmp cond off =>
    obtain rfl : len = 3 := by
      rcases hlen with h | h
      · exact h.symm
      · exact absurd (show (3 : Nat) = 0 from h) (by decide)
    simp only [ktr] at htr
    obtain ⟨hj, htr⟩ := kif_inj htr
    simp only [Option.some.injEq] at htr
    subst htr
    have ht := kjm_eq hj
    obtain ⟨z, x, st2, rfl, hstep⟩ := ks11_shape hstep
    obtain ⟨rfl, rfl, rfl, rfl⟩ := kgo_inj hstep
    cases cond
    · exact lv_icmp_eq hx hb hdec ht (fun h => by have q := kk ls H locs hR hS hL rfl; rwa [show kbr (kcn .eq) x z (kjm pc off) (pc + 3) = kjm pc off from if_pos h] at q) (fun h => by have q := kk ls H locs hR hS hL rfl; rwa [show kbr (kcn .eq) x z (kjm pc off) (pc + 3) = pc + 3 from if_neg h] at q)
    · exact lv_icmp_ne hx hb hdec ht (fun h => by have q := kk ls H locs hR hS hL rfl; rwa [show kbr (kcn .ne) x z (kjm pc off) (pc + 3) = kjm pc off from if_neg h] at q) (fun h => by have q := kk ls H locs hR hS hL rfl; rwa [show kbr (kcn .ne) x z (kjm pc off) (pc + 3) = pc + 3 from if_pos h] at q)
    · exact lv_icmp_lt hx hb hdec ht (fun h => by have q := kk ls H locs hR hS hL rfl; rwa [show kbr (kcn .lt) x z (kjm pc off) (pc + 3) = kjm pc off from if_pos h] at q) (fun h => by have q := kk ls H locs hR hS hL rfl; rwa [show kbr (kcn .lt) x z (kjm pc off) (pc + 3) = pc + 3 from if_neg h] at q)
    · exact lv_icmp_ge hx hb hdec ht (fun h => by have q := kk ls H locs hR hS hL rfl; rwa [show kbr (kcn .ge) x z (kjm pc off) (pc + 3) = kjm pc off from if_pos h] at q) (fun h => by have q := kk ls H locs hR hS hL rfl; rwa [show kbr (kcn .ge) x z (kjm pc off) (pc + 3) = pc + 3 from if_neg h] at q)
    · exact lv_icmp_gt hx hb hdec ht (fun h => by have q := kk ls H locs hR hS hL rfl; rwa [show kbr (kcn .gt) x z (kjm pc off) (pc + 3) = kjm pc off from if_pos h] at q) (fun h => by have q := kk ls H locs hR hS hL rfl; rwa [show kbr (kcn .gt) x z (kjm pc off) (pc + 3) = pc + 3 from if_neg h] at q)
    · exact lv_icmp_le hx hb hdec ht (fun h => by have q := kk ls H locs hR hS hL rfl; rwa [show kbr (kcn .le) x z (kjm pc off) (pc + 3) = kjm pc off from if_pos h] at q) (fun h => by have q := kk ls H locs hR hS hL rfl; rwa [show kbr (kcn .le) x z (kjm pc off) (pc + 3) = pc + 3 from if_neg h] at q)
  case ifCond cond off =>
    obtain rfl : len = 3 := by
      rcases hlen with h | h
      · exact h.symm
      · exact absurd (show (3 : Nat) = 0 from h) (by decide)
    simp only [ktr] at htr
    obtain ⟨hj, htr⟩ := kif_inj htr
    simp only [Option.some.injEq] at htr
    subst htr
    have ht := kjm_eq hj
    obtain ⟨x, st2, rfl, hstep⟩ := ks12_shape hstep
    obtain ⟨rfl, rfl, rfl, rfl⟩ := kgo_inj hstep
    cases cond
    · exact lv_if_eq hx hb hdec ht (fun h => by have q := kk ls H locs hR hS hL rfl; rwa [show kbr (kcn .eq) x 0 (kjm pc off) (pc + 3) = kjm pc off from if_pos h] at q) (fun h => by have q := kk ls H locs hR hS hL rfl; rwa [show kbr (kcn .eq) x 0 (kjm pc off) (pc + 3) = pc + 3 from if_neg h] at q)
    · exact lv_if_ne hx hb hdec ht (fun h => by have q := kk ls H locs hR hS hL rfl; rwa [show kbr (kcn .ne) x 0 (kjm pc off) (pc + 3) = kjm pc off from if_neg h] at q) (fun h => by have q := kk ls H locs hR hS hL rfl; rwa [show kbr (kcn .ne) x 0 (kjm pc off) (pc + 3) = pc + 3 from if_pos h] at q)
    · exact lv_if_lt hx hb hdec ht (fun h => by have q := kk ls H locs hR hS hL rfl; rwa [show kbr (kcn .lt) x 0 (kjm pc off) (pc + 3) = kjm pc off from if_pos h] at q) (fun h => by have q := kk ls H locs hR hS hL rfl; rwa [show kbr (kcn .lt) x 0 (kjm pc off) (pc + 3) = pc + 3 from if_neg h] at q)
    · exact lv_if_ge hx hb hdec ht (fun h => by have q := kk ls H locs hR hS hL rfl; rwa [show kbr (kcn .ge) x 0 (kjm pc off) (pc + 3) = kjm pc off from if_pos h] at q) (fun h => by have q := kk ls H locs hR hS hL rfl; rwa [show kbr (kcn .ge) x 0 (kjm pc off) (pc + 3) = pc + 3 from if_neg h] at q)
    · exact lv_if_gt hx hb hdec ht (fun h => by have q := kk ls H locs hR hS hL rfl; rwa [show kbr (kcn .gt) x 0 (kjm pc off) (pc + 3) = kjm pc off from if_pos h] at q) (fun h => by have q := kk ls H locs hR hS hL rfl; rwa [show kbr (kcn .gt) x 0 (kjm pc off) (pc + 3) = pc + 3 from if_neg h] at q)
    · exact lv_if_le hx hb hdec ht (fun h => by have q := kk ls H locs hR hS hL rfl; rwa [show kbr (kcn .le) x 0 (kjm pc off) (pc + 3) = kjm pc off from if_pos h] at q) (fun h => by have q := kk ls H locs hR hS hL rfl; rwa [show kbr (kcn .le) x 0 (kjm pc off) (pc + 3) = pc + 3 from if_neg h] at q)
  case goto off =>
    obtain rfl : len = 3 := by
      rcases hlen with h | h
      · exact h.symm
      · exact absurd (show (3 : Nat) = 0 from h) (by decide)
    simp only [ktr] at htr
    obtain ⟨hj, htr⟩ := kif_inj htr
    simp only [Option.some.injEq] at htr
    subst htr
    have ht := kjm_eq hj
    obtain ⟨rfl, rfl, rfl, rfl⟩ := kgo_inj hstep
    exact lv_goto hx hb hdec ht (kk ls H locs hR hS hL rfl)
  case tableswitch d lo hi offs =>
    simp only [ktr] at htr
    obtain ⟨hj, htr⟩ := kif_inj htr
    simp only [Option.some.injEq] at htr
    subst htr
    simp only [Bool.and_eq_true, k32, decide_eq_true_eq, List.all_eq_true] at hj
    obtain ⟨hd, hall, hlo, hhi, heq⟩ := hj
    obtain ⟨x, st2, rfl, hstep⟩ := ks14_shape hstep
    obtain ⟨rfl, rfl, rfl, rfl⟩ := kgo_inj hstep
    have hn := kntab pc offs.toList lo x (kjm pc d) (fun k hk => by omega)
    by_cases q : x.toInt < lo ∨ hi < x.toInt
    · have q2 := hn.2 (by omega)
      have h1 := kk ls H locs hR hS hL rfl
      rw [q2] at h1
      exact lv_tableOut hx hb hdec q (kjm_eq hd) h1
    · have q1 : x.toInt = lo + ((x.toInt - lo).toNat : Int) := by omega
      obtain ⟨o2, h1, h2⟩ := hn.1 (x.toInt - lo).toNat q1 (by omega)
      have h3 := kk ls H locs hR hS hL rfl
      rw [h2] at h3
      exact lv_tableIn hx hb hdec (by omega) (by omega) (by rw [← Array.getElem?_toList]; exact h1) (kjm_eq (hall o2 (List.mem_of_getElem? h1))) h3
  case lookupswitch d ps =>
    simp only [ktr] at htr
    obtain ⟨hj, htr⟩ := kif_inj htr
    simp only [Option.some.injEq] at htr
    subst htr
    rw [Bool.and_eq_true, Bool.and_eq_true] at hj
    obtain ⟨hd, hall, hsort⟩ := hj
    obtain ⟨x, st2, rfl, hstep⟩ := ks14_shape hstep
    obtain ⟨rfl, rfl, rfl, rfl⟩ := kgo_inj hstep
    exact lv_lookup hx hb hdec hsort rfl (knlook pc ps.toList x d (List.all_eq_true.mp hall) hd) (kk ls H locs hR hS hL rfl)
  case getfield ix =>
    obtain rfl : len = 3 := by
      rcases hlen with h | h
      · exact h.symm
      · exact absurd (show (3 : Nat) = 0 from h) (by decide)
    simp only [ktr] at htr
    split at htr
    · rename_i ci k ty nest hq
      simp only [Option.some.injEq] at htr
      subst htr
      obtain ⟨q, st2, rfl, hob, hstep⟩ := ks15_shape hstep
      obtain ⟨rfl, rfl, rfl, rfl⟩ := kgo_inj hstep
      refine k_get hx hb hts hK hown ho hR hq hob hdec ?_
      have h1 := kk ls H locs hR hS hL rfl
      obtain ⟨C, Tt, N, -, -, hty, -⟩ := kFw ho hq
      have h2 : kcv ad (if (ty : Int) = 2 then S.2.2.2 q k else .int (S.2.1 q k)) = kfv ad S.2.1 S.2.2.2 q ci k := by
        unfold kfv
        rw [hty]
        by_cases e2 : ty = 2
        · rw [if_pos e2, if_pos (by omega)]
        · rw [if_neg e2, if_neg (by omega)]; rfl
      rw [List.map_cons, h2] at h1
      exact h1
    · cases htr
  case putfield ix =>
    obtain rfl : len = 3 := by
      rcases hlen with h | h
      · exact h.symm
      · exact absurd (show (3 : Nat) = 0 from h) (by decide)
    simp only [ktr] at htr
    split at htr
    · rename_i ci k ty nest hq
      split at htr
      · rename_i C Tt N hvw
        obtain ⟨hfin, htr⟩ := kif_inj htr
        simp only [Option.some.injEq] at htr
        subst htr
        obtain ⟨C2, Tt2, N2, -, -, hty, -⟩ := kFw ho hq
        have hf2 : ∀ C' Tt' N', vwCl[ci]? = some (C', Tt', N') → (Tt' k).2.2.2 = true → meth.name = "<init>" ∧ ci = mm.2.2.2.2 := by
          intro C' Tt' N' h1 h2
          rw [hvw] at h1
          cases h1
          have h3 := hfin h2
          exact ⟨hinit (by simpa using h3.1), h3.2⟩
        rcases ks16_shape hstep with ⟨x, q, st2, rfl, hob, hk, hstep⟩ | ⟨x, q, st2, rfl, hob, hk, hstep⟩
        · obtain ⟨rfl, rfl, rfl, rfl⟩ := kgo_inj hstep
          refine k_put (v := .int x) hAd hx hb hts hK hown ho hR hS hq hob hf2 ?_ hdec (fun H1 locs1 g1 g3 => ?_)
          · intro ty0 h0
            rcases hk with hk | ⟨hk, hbo⟩
            · obtain rfl : ty = 0 := by omega
              exact knar_i x ty0 h0
            · obtain rfl : ty = 3 := by omega
              cases ty0 <;> first | (rcases hbo with rfl | rfl <;> exact ⟨rfl, rfl⟩) | cases h0
          · have hne : kft ci k ≠ 2 := by rw [hty]; omega
            rw [kW_puti hob.2 hne] at g1
            exact kk ls H1 locs1 ⟨g1, hR.2.1, hR.2.2⟩ g3 hL rfl
        · obtain ⟨rfl, rfl, rfl, rfl⟩ := kgo_inj hstep
          obtain rfl : ty = 2 := by omega
          refine k_put (v := .ref (ad x)) hAd hx hb hts hK hown ho hR hS hq hob hf2 ?_ hdec (fun H1 locs1 g1 g3 => ?_)
          · intro ty0 h0
            cases ty0 <;> first | exact ⟨rfl, rfl⟩ | cases h0
          · rw [kW_putr hob.2 hty] at g1
            exact kk ls H1 locs1 ⟨g1, hR.2.1, kisr_upr hR.2.2⟩ g3 hL rfl
      · cases htr
    · cases htr
  case caload =>
    obtain rfl : len = 1 := by
      rcases hlen with h | h
      · exact h.symm
      · exact absurd (show (1 : Nat) = 0 from h) (by decide)
    simp only [ktr, Option.some.injEq] at htr
    subst htr
    obtain ⟨j, q, st2, rfl, hk, hstep⟩ := ks17_shapei (b := 1) (by omega) hstep
    obtain ⟨rfl, rfl, rfl, rfl⟩ := kgo_inj hstep
    exact va_cald hx hb (hK.arr (t := 1) (by omega)) hR.1 q 0 (karr_i (by omega) hk) rfl hk.2 hdec (kk ls H locs hR hS hL rfl)
  case baload =>
    obtain rfl : len = 1 := by
      rcases hlen with h | h
      · exact h.symm
      · exact absurd (show (1 : Nat) = 0 from h) (by decide)
    simp only [ktr, Option.some.injEq] at htr
    subst htr
    obtain ⟨j, q, st2, rfl, hk, hstep⟩ := ks17_shapei (b := 2) (by omega) hstep
    obtain ⟨rfl, rfl, rfl, rfl⟩ := kgo_inj hstep
    exact va_zald hx hb (hK.arr (t := 2) (by omega)) hR.1 q 0 (karr_i (by omega) hk) rfl hk.2 hdec (kk ls H locs hR hS hL rfl)
  case iaload =>
    obtain rfl : len = 1 := by
      rcases hlen with h | h
      · exact h.symm
      · exact absurd (show (1 : Nat) = 0 from h) (by decide)
    simp only [ktr] at htr
    by_cases hyl : y = kLaw
    · rw [if_pos hyl] at htr
      simp only [Option.some.injEq] at htr
      subst htr
      obtain ⟨j, st2, rfl, hk, hstep⟩ : ∃ (j : Int32) (st2 : List Value), st = .int j :: .ref kScA :: st2 ∧ kin j sc.1 ∧ kgo (pc + 1) L (.int (sc.2 j.toNatClampNeg) :: st2) S = some (.inr (.inl (pc', L', st', S'))) := by
        have h : ks31 sc (pc + 1) L st S = some (.inr (.inl (pc', L', st', S'))) := hstep
        unfold ks31 at h
        split at h
        · obtain ⟨h1, h2⟩ := kif_inj h
          obtain ⟨rfl, h1⟩ := h1
          exact ⟨_, _, rfl, h1, h2⟩
        · cases h
      obtain ⟨rfl, rfl, rfl, rfl⟩ := kgo_inj hstep
      obtain ⟨hX1, hX2, hX3⟩ := hX.2.2.2 hyl
      exact va_sld hx hb hX1 hX2 (Nat.not_le.mpr hX3) hS hk hdec (kk ls H locs hR hS hL rfl)
    · rw [if_neg hyl] at htr
      simp only [Option.some.injEq] at htr
      subst htr
      obtain ⟨j, q, st2, rfl, hk, hstep⟩ := ks17_shapei (b := 0) (by omega) hstep
      obtain ⟨rfl, rfl, rfl, rfl⟩ := kgo_inj hstep
      exact va_iald hx hb (hK.arr (t := 0) (by omega)) hR.1 q 0 (karr_i (by omega) hk) rfl hk.2 hdec (kk ls H locs hR hS hL rfl)
  case laload =>
    obtain rfl : len = 1 := by
      rcases hlen with h | h
      · exact h.symm
      · exact absurd (show (1 : Nat) = 0 from h) (by decide)
    simp only [ktr, Option.some.injEq] at htr
    subst htr
    obtain ⟨j, q, st2, rfl, hk, hstep⟩ := ks17_shapel hstep
    obtain ⟨rfl, rfl, rfl, rfl⟩ := kgo_inj hstep
    exact va_lald hx hb (hK.arr (t := 3) (by omega)) hR.1 q 0 (by rw [karr_at hk, kAr_l]) rfl hk.2 hdec (kk ls H locs hR hS hL rfl)
  case aaload =>
    obtain rfl : len = 1 := by
      rcases hlen with h | h
      · exact h.symm
      · exact absurd (show (1 : Nat) = 0 from h) (by decide)
    simp only [ktr, Option.some.injEq] at htr
    subst htr
    obtain ⟨j, q, st2, rfl, hk, hstep⟩ := ks17_shaper hstep
    obtain ⟨rfl, rfl, rfl, rfl⟩ := kgo_inj hstep
    refine va_aldq hx hb (hK.arr (t := 4) (by omega)) hR.1 q 0 (by rw [karr_at hk, kAr_r]) rfl hk.2 hdec ?_
    rw [kro_cv (hR.2.2 _ _)]
    exact kk ls H locs hR hS hL rfl
  case iastore =>
    obtain rfl : len = 1 := by
      rcases hlen with h | h
      · exact h.symm
      · exact absurd (show (1 : Nat) = 0 from h) (by decide)
    simp only [ktr, Option.some.injEq] at htr
    subst htr
    obtain ⟨x, j, q, st2, rfl, hk, hstep⟩ := ks18_shape0 hstep
    obtain ⟨rfl, rfl, rfl, rfl⟩ := kgo_inj hstep
    refine va_iast hx hb (hK.arr (t := 0) (by omega)) hR.1 (kW_D hAd hR.2.1) hS q 0 (karr_i (by omega) hk) rfl hk.2 hdec (fun H1 locs1 g1 _ g3 => ?_)
    rw [kW_ari (by omega) (klen_sh hk.2)] at g1
    exact kk ls H1 locs1 ⟨g1, hR.2.1, hR.2.2⟩ g3 hL rfl
  case castore =>
    obtain rfl : len = 1 := by
      rcases hlen with h | h
      · exact h.symm
      · exact absurd (show (1 : Nat) = 0 from h) (by decide)
    simp only [ktr, Option.some.injEq] at htr
    subst htr
    obtain ⟨x, j, q, st2, rfl, hk, hstep⟩ := ks18_shape1 hstep
    obtain ⟨rfl, rfl, rfl, rfl⟩ := kgo_inj hstep
    refine va_cast hx hb (hK.arr (t := 1) (by omega)) hR.1 (kW_D hAd hR.2.1) hS q 0 (karr_i (by omega) hk) rfl hk.2 hdec (fun H1 locs1 g1 _ g3 => ?_)
    rw [kW_ari (by omega) (klen_sh hk.2)] at g1
    exact kk ls H1 locs1 ⟨g1, hR.2.1, hR.2.2⟩ g3 hL rfl
  case bastore =>
    obtain rfl : len = 1 := by
      rcases hlen with h | h
      · exact h.symm
      · exact absurd (show (1 : Nat) = 0 from h) (by decide)
    simp only [ktr, Option.some.injEq] at htr
    subst htr
    obtain ⟨x, j, q, st2, rfl, hk, hstep⟩ := ks18_shape2 hstep
    obtain ⟨rfl, rfl, rfl, rfl⟩ := kgo_inj hstep
    refine va_zast hx hb (hK.arr (t := 2) (by omega)) hR.1 (kW_D hAd hR.2.1) hS q 0 (karr_i (by omega) hk) rfl hk.2 hdec (fun H1 locs1 g1 _ g3 => ?_)
    rw [kW_ari (by omega) (klen_sh hk.2)] at g1
    exact kk ls H1 locs1 ⟨g1, hR.2.1, hR.2.2⟩ g3 hL rfl
  case lastore =>
    obtain rfl : len = 1 := by
      rcases hlen with h | h
      · exact h.symm
      · exact absurd (show (1 : Nat) = 0 from h) (by decide)
    simp only [ktr, Option.some.injEq] at htr
    subst htr
    obtain ⟨x, j, q, st2, rfl, hk, hstep⟩ := ks18_shape3 hstep
    obtain ⟨rfl, rfl, rfl, rfl⟩ := kgo_inj hstep
    refine va_last hx hb (hK.arr (t := 3) (by omega)) hR.1 (kW_D hAd hR.2.1) hS q 0 (by rw [karr_at hk, kAr_l]) rfl hk.2 hdec (fun H1 locs1 g1 _ g3 => ?_)
    rw [kW_arl (klen_sh hk.2)] at g1
    exact kk ls H1 locs1 ⟨g1, hR.2.1, hR.2.2⟩ g3 hL rfl
  case aastore =>
    obtain rfl : len = 1 := by
      rcases hlen with h | h
      · exact h.symm
      · exact absurd (show (1 : Nat) = 0 from h) (by decide)
    simp only [ktr, Option.some.injEq] at htr
    subst htr
    obtain ⟨x, j, q, st2, rfl, ⟨hk, hob⟩, hstep⟩ := ks18_shape4 hstep
    obtain ⟨rfl, rfl, rfl, rfl⟩ := kgo_inj hstep
    refine va_astq (r := (RX1, TX1, 10)) hx hb (hK.arr (t := 4) (by omega)) hR.1 (kW_D hAd hR.2.1) hS q 0 x 1 (by rw [karr_at hk, kAr_r]) rfl (kobj_at hob) rfl hk.2 hdec (fun H1 locs1 g1 _ g3 => ?_)
    rw [kW_arr (klen_sh hk.2)] at g1
    exact kk ls H1 locs1 ⟨g1, hR.2.1, kisr_upr hR.2.2⟩ g3 hL rfl
  case arraylength =>
    obtain rfl : len = 1 := by
      rcases hlen with h | h
      · exact h.symm
      · exact absurd (show (1 : Nat) = 0 from h) (by decide)
    simp only [ktr] at htr
    by_cases hyl : y = kLaw
    · rw [if_pos hyl] at htr
      simp only [Option.some.injEq] at htr
      subst htr
      obtain ⟨st2, rfl, hstep⟩ : ∃ (st2 : List Value), st = .ref kScA :: st2 ∧ kgo (pc + 1) L (.int (Int32.ofNat sc.1) :: st2) S = some (.inr (.inl (pc', L', st', S'))) := by
        have h : ks30 sc (pc + 1) L st S = some (.inr (.inl (pc', L', st', S'))) := hstep
        unfold ks30 at h
        split at h
        · obtain ⟨rfl, h2⟩ := kif_inj h
          exact ⟨_, rfl, h2⟩
        · cases h
      obtain ⟨rfl, rfl, rfl, rfl⟩ := kgo_inj hstep
      obtain ⟨hX1, hX2, hX3⟩ := hX.2.2.2 hyl
      exact va_slen hx hb hX1 hX2 (Nat.not_le.mpr hX3) hS hdec (kk ls H locs hR hS hL rfl)
    · rw [if_neg hyl] at htr
      simp only [Option.some.injEq] at htr
      subst htr
      obtain ⟨q, t, w, st2, rfl, hq, hsh, hstep⟩ := ks19_shape hstep
      obtain ⟨rfl, rfl, rfl, rfl⟩ := kgo_inj hstep
      have ht5 : t < 5 := by
        have := kSH_t q
        rw [hsh] at this
        exact this
      have hw : (kAr ad S.2.1 S.2.2.1 S.2.2.2 q t w).1 = w := by unfold kAr; split <;> first | rfl | (split <;> rfl)
      exact va_alen hx hb (hK.arr ht5) hR.1 q 0 (by rw [kW_get hq, kE_arr hsh]) rfl (by rw [hw]) hdec (kk ls H locs hR hS hL rfl)
  case newarray t =>
    obtain rfl : len = 2 := by
      rcases hlen with h | h
      · exact h.symm
      · exact absurd (show (2 : Nat) = 0 from h) (by decide)
    simp only [ktr] at htr
    split at htr
    · rename_i b hat
      simp only [Option.some.injEq] at htr
      subst htr
      obtain ⟨x, st2, rfl, ⟨hex, hx0, hx1, hsh⟩, hstep⟩ := ks20_shape hstep
      obtain ⟨rfl, rfl, rfl, rfl⟩ := kgo_inj hstep
      have hn : S.1.1 < 1000 := by have := kSH_lt S.1.1; rw [hsh] at this; exact this
      have e1 : (kfresh S x.toNatClampNeg).1.2.1 = S.1.2.1 + 1 := rfl
      have e2 : (kfresh S x.toNatClampNeg).1.2.2 = S.1.2.2 + x.toNatClampNeg := rfl
      rw [e1] at hfc kk
      rw [e2] at hfs kk
      rw [show S.1.2.1 + 1 - c0 = S.1.2.1 - c0 + 1 by omega] at hfc kk
      rw [show S.1.2.2 + x.toNatClampNeg - s0 = S.1.2.2 - s0 + x.toNatClampNeg by omega] at hfs kk
      exact k_newa hAd hx hb hts hK hR hS hB hat hx0 hx1 hsh hn (by omega) hfc hfs hdec (fun H1 h1 h2 => kk ls H1 locs h1 h2 hL rfl)
    · cases htr
  case anewarray ix =>
    obtain rfl : len = 3 := by
      rcases hlen with h | h
      · exact h.symm
      · exact absurd (show (3 : Nat) = 0 from h) (by decide)
    simp only [ktr] at htr
    split at htr
    · rename_i hcq
      simp only [Option.some.injEq] at htr
      subst htr
      obtain ⟨x, st2, rfl, ⟨hex, hx0, hx1, hsh⟩, hstep⟩ := ks20_shape (b := 4) hstep
      obtain ⟨rfl, rfl, rfl, rfl⟩ := kgo_inj hstep
      have hn : S.1.1 < 1000 := by have := kSH_lt S.1.1; rw [hsh] at this; exact this
      have e1 : (kfresh S x.toNatClampNeg).1.2.1 = S.1.2.1 + 1 := rfl
      have e2 : (kfresh S x.toNatClampNeg).1.2.2 = S.1.2.2 + x.toNatClampNeg := rfl
      rw [e1] at hfc kk
      rw [e2] at hfs kk
      rw [show S.1.2.1 + 1 - c0 = S.1.2.1 - c0 + 1 by omega] at hfc kk
      rw [show S.1.2.2 + x.toNatClampNeg - s0 = S.1.2.2 - s0 + x.toNatClampNeg by omega] at hfs kk
      exact k_newr hAd hx hb hts hK hown hR hS hB (kCl (Tt := TX1) (N := 10) ho hcq rfl) hx0 hx1 hsh hn (by omega) hfc hfs hdec (fun H1 h1 h2 => kk ls H1 locs h1 h2 hL rfl)
    · cases htr
  case new ix =>
    obtain rfl : len = 3 := by
      rcases hlen with h | h
      · exact h.symm
      · exact absurd (show (3 : Nat) = 0 from h) (by decide)
    simp only [ktr] at htr
    split at htr
    · rename_i ci hcq
      split at htr
      · split at htr
        · simp only [Option.some.injEq] at htr
          subst htr
          have h : (if 2 * st.length ≤ 8 then kend none ((S.1.1, S.1.2.1 + 1, S.1.2.2 + 6), S.2) else none) = some (.inr (.inl (pc', L', st', S'))) := hstep
          obtain ⟨-, h⟩ := kif_inj h
          cases h
        · cases htr
      · simp only [Option.some.injEq] at htr
        subst htr
        obtain ⟨w, hnf, ⟨hex, hsh⟩, hstep⟩ := ks22_shape hstep
        obtain ⟨rfl, rfl, rfl, rfl⟩ := kgo_inj hstep
        have hci : ci < 12 := by
          have := (List.getElem?_eq_some_iff.mp hnf).1
          simpa [kNF] using this
        have hn : S.1.1 < 1000 := by have := kSH_lt S.1.1; rw [hsh] at this; exact this (by omega)
        obtain ⟨⟨C, Tt, N⟩, hv⟩ : ∃ q, vwCl[ci]? = some q := ⟨_, List.getElem?_eq_getElem (by simpa [vwCl] using hci)⟩
        obtain ⟨-, -, -, -, -, hnf2, -, -⟩ := kCall ci C Tt N hv
        obtain rfl : w = N := Option.some.inj (hnf.symm.trans hnf2)
        have e1 : (kfresh S w).1.2.1 = S.1.2.1 + 1 := rfl
        have e2 : (kfresh S w).1.2.2 = S.1.2.2 + w := rfl
        rw [e1] at hfc kk
        rw [e2] at hfs kk
        rw [show S.1.2.1 + 1 - c0 = S.1.2.1 - c0 + 1 by omega] at hfc kk
        rw [show S.1.2.2 + w - s0 = S.1.2.2 - s0 + w by omega] at hfs kk
        exact k_new hAd hx hb hts hK hown hR hS hB hv (kCl ho hcq hv) hsh hn (by omega) hfc hfs hdec (fun H1 h1 h2 => kk ls H1 locs h1 h2 hL rfl)
    · cases htr
  case invokevirtual ix =>
    obtain rfl : len = 3 := by
      rcases hlen with h | h
      · exact h.symm
      · exact absurd (show (3 : Nat) = 0 from h) (by decide)
    simp only [ktr, kinv] at htr
    split at htr
    · rename_i z n nest hq
      by_cases hn : n = 100
      · rw [if_pos hn] at htr
        obtain ⟨hz, htr⟩ := kif_inj htr
        simp only [Option.some.injEq] at htr
        subst htr
        have hlink := (kMw ho hq).1 hn
        have hstep : ks27 z (pc + 3) L st S = some (.inr (.inl (pc', L', st', S'))) := hstep
        obtain rfl | rfl : z = 10 ∨ z = 11 := by omega
        · obtain ⟨a, st2, rfl, h1, h2, h3, hstep⟩ := ks27_10 hstep
          obtain ⟨rfl, rfl, rfl, rfl⟩ := kgo_inj hstep
          exact hX.2.1 H locs _ _ Q pc ls _ a ix ⟨h1, h2⟩ hlink (by rw [hb]; exact hdec) (by rw [hls, hml]) (kcat_sum h3) hS hfc hfs (kk ls H locs hR hS hL rfl)
        · obtain ⟨a, j, st2, rfl, h1, h3, hstep⟩ := ks27_11 hstep
          obtain ⟨rfl, rfl, rfl, rfl⟩ := kgo_inj hstep
          exact hX.2.2.1 H locs _ _ Q pc ls _ a ix j h1 hlink (by rw [hb]; exact hdec) (by rw [hls, hml]) (kcat_sum h3) hS hfc hfs (kk ls H locs hR hS hL rfl)
      · rw [if_neg hn] at htr
        obtain ⟨hz, htr⟩ := kif_inj htr
        simp only [Option.some.injEq] at htr
        subst htr
        have h : ks23 z 0 (n : Int) (pc + 3) (khd y pc) L st S = some (.inr (.inl (pc', L', st', S'))) := hstep
        exact absurd h ks23_no
    · cases htr
  case invokestatic ix =>
    obtain rfl : len = 3 := by
      rcases hlen with h | h
      · exact h.symm
      · exact absurd (show (3 : Nat) = 0 from h) (by decide)
    simp only [ktr, kinv] at htr
    split at htr
    · rename_i z n nest hq
      by_cases hn : n = 100
      · rw [if_pos hn] at htr
        obtain ⟨hz, htr⟩ := kif_inj htr
        simp only [Option.some.injEq] at htr
        subst htr
        have hlink := (kMw ho hq).1 hn
        have hstep : ks27 z (pc + 3) L st S = some (.inr (.inl (pc', L', st', S'))) := hstep
        have hcs : ∀ st2 : List Value, 2 * st2.length ≤ 8 → ((st2.map (kcv ad)).map fun v => v.category).sum ≤ 8 := fun st2 h => kcat_sum h
        obtain rfl | rfl | rfl : z = 12 ∨ z = 14 ∨ z = 15 := by omega
        · obtain ⟨x, dp, d, sp, s2, st2, rfl, hc, hstep⟩ := ks27_12 hstep
          obtain ⟨rfl, rfl, rfl, rfl⟩ := kgo_inj hstep
          have hk1 := hcs st2 hc.2.2.2.2.2.2.2.2.2
          have k0s : kSH s2 = .inr (0, klen s2 0) := klen_sh0 hc.2.2.2.2.2.2.2.2.1.1
          have k0d : kSH d = .inr (0, klen d 0) := klen_sh0 hc.2.2.2.2.2.2.2.2.1.2
          refine va_copyi (ty := .int) hx hb (by rw [hls, hml]) hown (hts _ hlink) (hts _ (kT_of (by decide +kernel) rfl)) (hts _ (kT_of (by decide +kernel) rfl)) (hts _ (kT_of (by decide +kernel) rfl)) (hK.arr (t := 0) (by omega)) hR.1 (kW_D hAd hR.2.1) hS s2 d 0 0 (by rw [kW_get hc.1, kE_arr k0s, kAr_i (by omega)]) (by rw [kW_get hc.2.1, kE_arr k0d, kAr_i (by omega)]) rfl rfl rfl hc.2.2.2.2.2.1 hc.2.2.2.2.1 hc.2.2.2.1 hc.2.2.2.2.2.2.1 hc.2.2.2.2.2.2.2.1 (fun _ _ => rfl) (by omega) (Nat.le_trans (Nat.add_le_add_right hk1 _) (Nat.le_trans (by decide) hRl)) hdec (fun H1 locs1 g1 _ g3 => ?_)
          rw [kW_cop k0d] at g1
          exact kk ls H1 locs1 ⟨g1, hR.2.1, hR.2.2⟩ g3 hL rfl
        · obtain ⟨z, x, st2, rfl, hc, hstep⟩ := ks27_14 hstep
          obtain ⟨rfl, rfl, rfl, rfl⟩ := kgo_inj hstep
          exact va_mmax hx hb (by rw [hls, hml]) hown (hts _ hlink) (hts _ (kT_of (by decide +kernel) rfl)) (hts _ (kT_of (by decide +kernel) rfl)) (hts _ (kT_of (by decide +kernel) rfl)) (by omega) (by have := hcs st2 hc; omega) hfc hfs hdec (kk ls H locs hR hS hL rfl)
        · obtain ⟨z, x, st2, rfl, hc, hstep⟩ := ks27_15 hstep
          obtain ⟨rfl, rfl, rfl, rfl⟩ := kgo_inj hstep
          exact va_mmin hx hb (by rw [hls, hml]) hown (hts _ hlink) (hts _ (kT_of (by decide +kernel) rfl)) (hts _ (kT_of (by decide +kernel) rfl)) (hts _ (kT_of (by decide +kernel) rfl)) (by omega) (by have := hcs st2 hc; omega) hfc hfs hdec (kk ls H locs hR hS hL rfl)
      · rw [if_neg hn] at htr
        obtain ⟨hz, htr⟩ := kif_inj htr
        simp only [Option.some.injEq] at htr
        subst htr
        have h : ks23 z 1 (n : Int) (pc + 3) (khd y pc) L st S = some (.inr (.inl (pc', L', st', S'))) := hstep
        exact absurd h ks23_no
    · cases htr
  case invokespecial ix =>
    obtain rfl : len = 3 := by
      rcases hlen with h | h
      · exact h.symm
      · exact absurd (show (3 : Nat) = 0 from h) (by decide)
    simp only [ktr, kinv] at htr
    split at htr
    · rename_i z n nest hq
      by_cases hn : n = 100
      · rw [if_pos hn] at htr
        obtain ⟨hz, htr⟩ := kif_inj htr
        simp only [Option.some.injEq] at htr
        subst htr
        have hlink := (kMw ho hq).1 hn
        have hstep : ks27 z (pc + 3) L st S = some (.inr (.inl (pc', L', st', S'))) := hstep
        obtain rfl : z = 13 := by omega
        obtain ⟨a, st2, rfl, hc, hstep⟩ := ks27_13 hstep
        obtain ⟨rfl, rfl, rfl, rfl⟩ := kgo_inj hstep
        exact W.objInit hx hb hown (hts _ hlink) (hts _ (kT_of (by decide +kernel) rfl)) (hts _ (kT_of (by decide +kernel) rfl)) rfl (by show ls.size = _; rw [hls, hml]) rfl hdec (by omega) (by have := kcat_sum (ad := ad) hc; show 2 * 0 + _ + 12 ≤ _; omega) (kk ls H locs hR hS hL rfl)
      · rw [if_neg hn] at htr
        obtain ⟨hz, htr⟩ := kif_inj htr
        simp only [Option.some.injEq] at htr
        subst htr
        have h : ks23 z 2 (n : Int) (pc + 3) (khd y pc) L st S = some (.inr (.inl (pc', L', st', S'))) := hstep
        exact absurd h ks23_no
    · cases htr
  case ireturn =>
    simp only [ktr] at htr
    split at htr <;> first | (simp only [Option.some.injEq] at htr; subst htr; exact absurd hstep (ks24_no (b := _))) | cases htr
  case lreturn =>
    simp only [ktr] at htr
    split at htr <;> first | (simp only [Option.some.injEq] at htr; subst htr; exact absurd hstep (ks24_no (b := _))) | cases htr
  case return_ =>
    simp only [ktr] at htr
    split at htr <;> first | (simp only [Option.some.injEq] at htr; subst htr; exact absurd hstep (ks24_no (b := _))) | cases htr
  all_goals (simp only [ktr] at htr; cases htr)
