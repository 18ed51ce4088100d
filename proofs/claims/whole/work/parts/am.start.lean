/-! THE CLAIM OUT OF ONE WALK OF THE LAW'S BODY. Your part is whole_start (and what it stands on); all else here is the same for every law, but numbers. -/
def R_law : String := "HatAtCouncilLaw"
def lw_P (b : Addr) (xs : List Int32) (args : Array Value) (s : State) : Prop := args = #[.ref b] ∧ s.IntsAt b xs ∧ xs.length ≤ 2560 ∧ (Jvm.Cond.and given_1 narrow_1).before args s = true
def lw_Q (_ : Array Value) (s : State) (o : Outcome) (t : State) : Prop := o = .returned (some (.int 1)) ∧ Framed s o t [] 601024 7293034
def lw_Z (below : List Frame) (a : Array Value) (s : State) : State → Prop := fun t => ∃ o, t.status = .running ∧ Ended t below o ∧ lw_Q a s o t
/-- the law's own end, with 1 on the stack, nothing written that was there before, its room as the claim has it -/
theorem lw_ret {p : Program} {l : Launch} {e : Env} {s : State} {m : MethodId} {below : List Frame} {meth : Method} {c : Code} {b : Nat} (hx : p.tables.exec = Jvm.exec) (hb : c.code = code) (hr : meth.sig.returnType = ret) (hlocks : meth.locks = false) {pc : Nat} {H : Heap} {ls : Array Slot} (hdg : decode code pc = .ok (.ireturn, 1)) : W p l e room_1 s m #[Value.ref b] below meth c H [] 601024 7293034 (lw_Z below #[Value.ref b] s) (F0 m pc ls [.int 1]) := by
  intro T hT X
  obtain ⟨fs, hret, hrun, hended, hW, hframe⟩ := X.leave (v := some (.int 1)) (hlocks := hlocks) (fun h => by rw [hr] at h; cases h)
  have hmeth' : T.vm.method? m = some meth := X.method'
  refine ⟨T.setFrames fs, ?_, .returned (some (.int 1)), hrun, hended, rfl, ⟨_, rfl⟩, hW, hframe⟩
  jvm_step X.here [X.here.top, hx, hb, hdg, hmeth', hr, ret, narrow_b1]
  (try refine ⟨rfl, ?_⟩); (try refine ⟨rfl, ?_⟩)
  first | (intro acts; rw [hret _ acts rfl rfl rfl]) | rw [hret _ _ rfl rfl rfl]
  exact Steps.refl _
/-- what holds at the law's entry: the machine, the code, the tables' words (any of lw_tbl by 'hts w (by decide +kernel)'), the script of L ints xs at the cell b, what the Statement gives of the start (any of its parts by flat_of_before) -/
def lw_At (p : Program) (s : State) (m : MethodId) (meth : Method) (c : Code) (b L : Nat) (xs : Nat → Int32) : Prop :=
  p.tables.exec = Jvm.exec ∧ c.code = code ∧ meth.sig.returnType = ret ∧ c.maxLocals = 8 ∧ s.vm.findClass R_law = some m.cls ∧ (∀ w ∈ lw_tbl, w.before #[Value.ref b] s = true) ∧ va_X b L xs s s.heap ∧ b < s.heap.size ∧ meth.locks = false ∧ (Jvm.Cond.and given_1 narrow_1).before #[Value.ref b] s = true
def kAd (B0 b : Nat) (adK : Nat → Nat) (a : Nat) : Nat := if a < 1000 then B0 + a else if a = kScA then b else adK (a - kStA)
theorem kR_isr (a k : Nat) : kisr (kR 85 88 sp0 a k) := by
  unfold kR
  split
  · exact Or.inr ⟨_, rfl⟩
  · split
    · exact Or.inr ⟨_, rfl⟩
    · split
      · exact Or.inr ⟨_, rfl⟩
      · split
        · exact Or.inl rfl
        · exact Or.inr ⟨_, rfl⟩
def kTm (i : Nat) : Term := match kSo[i]? with | some q => .string q.1 q.2.1 | none => .arg 0
def kFl : List Cond := flatC (Jvm.Cond.and given_1 narrow_1)
set_option maxRecDepth 100000 in
theorem kFl_1 : ∀ i, i < 12 → Cond.exactly (kTm i) "java/lang/String" ∈ kFl ∧ Cond.eq (.field (kTm i) "java/lang/String" "coder" "B") (.int 0) ∈ kFl ∧ Cond.arrayOf (.field (kTm i) "java/lang/String" "value" "[B") .byte ∈ kFl ∧ Cond.eq (.length (.field (kTm i) "java/lang/String" "value" "[B")) (.int (Int32.ofNat (kSlen.getD i 0))) ∈ kFl := by decide +kernel
set_option maxRecDepth 100000 in
theorem kFl_2 : ∀ i, i < 12 → ∀ j, j < kSlen.getD i 0 → Cond.eq (.elem (.field (kTm i) "java/lang/String" "value" "[B") (.int (Int32.ofNat j))) (.int ((kSbyt.getD i []).getD j 0)) ∈ kFl := by decide +kernel
set_option maxRecDepth 100000 in
theorem kFl_3 : ∀ i, i < 12 → ∀ j, j < 12 → i ≠ j → Cond.not (Cond.eq (kTm i) (kTm j)) ∈ kFl ∨ Cond.not (Cond.eq (kTm j) (kTm i)) ∈ kFl := by decide +kernel
set_option maxRecDepth 100000 in
theorem kFl_4 : Cond.eq (.static "java/lang/String" "COMPACT_STRINGS" "Z") (.int 1) ∈ kFl ∧ Cond.isRef (.static "jdk/internal/util/Preconditions" "SIOOBE_FORMATTER" "Ljava/util/function/BiFunction;") ∈ kFl ∧ Cond.isRef (.static Bundle.tN "UNASSIGNED_STACK" Bundle.steD) ∈ kFl ∧ Cond.isRef (.static Bundle.tN "SUPPRESSED_SENTINEL" Bundle.listD) ∈ kFl := by decide +kernel
set_option maxRecDepth 100000 in
theorem kFl_5 : ∀ q ∈ kSo, Cond.stringRef q.1 q.2.1 q.2.2 ∈ lw_tbl := by decide +kernel
set_option maxRecDepth 100000 in
theorem kFl_6 : Cond.laysStatic "java/lang/String" "COMPACT_STRINGS" "Z" ∈ lw_tbl ∧ Cond.laysStatic "jdk/internal/util/Preconditions" "SIOOBE_FORMATTER" "Ljava/util/function/BiFunction;" ∈ lw_tbl ∧ Cond.laysStatic Bundle.tN "UNASSIGNED_STACK" Bundle.steD ∈ lw_tbl ∧ Cond.laysStatic Bundle.tN "SUPPRESSED_SENTINEL" Bundle.listD ∈ lw_tbl ∧ Cond.initialized Bundle.tN ∈ lw_tbl := by decide +kernel
set_option maxRecDepth 100000 in
theorem kFl_7 : Cond.arrayClass .int ∈ lw_tbl ∧ Cond.arrayClass .char ∈ lw_tbl ∧ Cond.arrayClass .boolean ∈ lw_tbl ∧ Cond.arrayClass .long ∈ lw_tbl ∧ Cond.arrayOver (.object "HatAtCouncil$Night") ∈ lw_tbl := by decide +kernel
theorem kN_on : ∀ w ∈ kN, w.onTables = true := by
  intro w hw
  have := (List.mem_filter.mp hw).2
  cases w <;> first | rfl | cases this
set_option maxRecDepth 100000 in
theorem kms_260 : kms[260]? = some (yL_law, cL_law, 8, some .boolean, 12) := rfl
theorem k_kinds {s : State} {args : Array Value} (hts : ∀ w ∈ kT, w.before args s = true) : ∃ D : va_G, ∀ (k : Nat) (q : vw_C), vwCl[k]? = some q → u_Kn s q.1 q.2.1 q.2.2 (D.1 k) (D.2 k) := by
  have h0 : ∀ k : Nat, ∃ r : ClassId × (Nat → Nat), ∀ q : vw_C, vwCl[k]? = some q → u_Kn s q.1 q.2.1 q.2.2 r.1 r.2 := by
    intro k
    cases hq : vwCl[k]? with
    | none => exact ⟨(0, fun _ => 0), fun q h => by cases h⟩
    | some q =>
      obtain ⟨C, Tt, N⟩ := q
      obtain ⟨hws, -, -, hins, -⟩ := kCall k C Tt N hq
      obtain ⟨cC, iS, h⟩ := u_known (n := N) hts hws (hts _ hins)
      exact ⟨(cC, iS), fun q h9 => by cases h9; exact h⟩
  obtain ⟨f, hf⟩ := Classical.axiomOfChoice h0
  exact ⟨(fun k => (f k).1, fun k => (f k).2), fun k q h => hf k q h⟩
theorem k_arrs {s : State} {args : Array Value} (hts : ∀ w ∈ lw_tbl, w.before args s = true) : ∃ cT : Nat → ClassId, ∀ t, t < 5 → ArrOfT s (cT t) (kty t) ∧ va_RA s (cT t) (kty t) := by
  have hp : ∀ ty : FieldType, (Cond.arrayClass ty).before args s = true → ∃ cA : ClassId, ArrOfT s cA ty ∧ s.vm.findClass ("[" ++ ty.toString) = some cA := by
    intro ty h
    obtain ⟨cA, kA, comp, h1, h2, h3⟩ := Cond.arrayClass_spec h
    exact ⟨cA, fun n z => ⟨fun k h => (by cases h), kA, h2, comp, h3⟩, h1⟩
  obtain ⟨w0, w1, w2, w3, w4⟩ := kFl_7
  obtain ⟨c0, a0, b0⟩ := hp _ (hts _ w0)
  obtain ⟨c1, a1, b1⟩ := hp _ (hts _ w1)
  obtain ⟨c2, a2, b2⟩ := hp _ (hts _ w2)
  obtain ⟨c3, a3, b3⟩ := hp _ (hts _ w3)
  obtain ⟨comp, c4, k4, f4, -, f2, f3, f1⟩ := Cond.arrayOver_spec (hts _ w4)
  refine ⟨fun t => if t = 0 then c0 else if t = 1 then c1 else if t = 2 then c2 else if t = 3 then c3 else c4, fun t ht => ?_⟩
  obtain rfl | rfl | rfl | rfl | rfl : t = 0 ∨ t = 1 ∨ t = 2 ∨ t = 3 ∨ t = 4 := by omega
  · exact ⟨a0, b0⟩
  · exact ⟨a1, b1⟩
  · exact ⟨a2, b2⟩
  · exact ⟨a3, b3⟩
  · exact ⟨fun N z => ⟨(fun k h => by cases h), k4, f2, comp, f3⟩, k4, comp, f2, f3, f4, f1⟩
/-- from the entry, for every script of at most 2560 ints, the law comes to its end with true -/
theorem whole_start {p : Program} {e : Env} {s : State} {m : MethodId} {below : List Frame} {meth : Method} {c : Code} (l : Launch) (hl : l.stackTraces = false) {b L : Nat} {xs : Nat → Int32} (hL : L ≤ 2560) (C0 : lw_At p s m meth c b L xs) : W p l e room_1 s m #[Value.ref b] below meth c s.heap [] 0 0 (lw_Z below #[Value.ref b] s) (entryFrame m ([Value.ref b] : List Value).toArray 8) := by
  obtain ⟨hx, hb, hr, hml, hown, hts, hX, hbl, hlocks, hgv⟩ := id C0
  have htk : ∀ w ∈ kT, w.before #[Value.ref b] s = true := fun w hw => hts w (List.mem_filter.mp hw).1
  have hfl : ∀ w ∈ kFl, w.before #[Value.ref b] s = true := flat_of_before _ hgv
  have hA : ∀ a : Nat, a < s.heap.size → ¬ (fun q => s.heap.size ≤ q) a := fun a h => Nat.not_le.mpr h
  obtain ⟨D, hKc⟩ := k_kinds htk
  obtain ⟨cT, hcT⟩ := k_arrs hts
  obtain ⟨adK, adV, hSk, htm⟩ := vk_Sof (N := 12) (tm := kTm) (len := kSlen) (byt := kSbyt) (A := fun q => s.heap.size ≤ q) kSlen_lt (fun i hi => hfl _ (kFl_1 i hi).1) (fun i hi => hfl _ (kFl_1 i hi).2.1) (fun i hi => hfl _ (kFl_1 i hi).2.2.1) (fun i hi => hfl _ (kFl_1 i hi).2.2.2) (fun i hi j hj => hfl _ (kFl_2 i hi j hj)) (fun i j hi hj hij => (kFl_3 i hi j hj hij).imp (hfl _) (hfl _)) hA
  obtain ⟨B0, hB0⟩ : ∃ B0, B0 = s.heap.size := ⟨_, rfl⟩
  have hXs : kXs adK adV B0 s := by
    rw [hB0]
    refine ⟨fun k q hq => ?_, hSk, va_Zof (hts _ kFl_6.1) (htk _ jw_ini0) (va_eqt (hfl _ kFl_4.1)) hA, va_Zqof (hts _ kFl_6.2.1) (htk _ jw_ini3) (hfl _ kFl_4.2.1) hA, Nat.le_refl _⟩
    have hk : k < 12 := by
      have := (List.getElem?_eq_some_iff.mp hq).1
      simpa [kSo] using this
    have h1 := htm k hk
    unfold kTm at h1
    rw [hq] at h1
    exact vk_R.of (hts _ (kFl_5 q (List.mem_of_getElem? hq))) h1
  have hXq : kXq B0 s := by
    rw [hB0]
    exact ⟨vx_Zqof (hts _ kFl_6.2.2.1) (hts _ kFl_6.2.2.2.2) (hfl _ kFl_4.2.2.1) hA, vx_Zqof (hts _ kFl_6.2.2.2.1) (hts _ kFl_6.2.2.2.2) (hfl _ kFl_4.2.2.2) hA, fun w hw a' => va_tabs (by have := kEf_f w hw; rw [Bool.and_eq_true] at this; exact this.2) rfl (hts w (kEf_t w hw))⟩
  have hAd : ∀ a, a < 1000 → kAd B0 b adK a = B0 + a := fun a ha => by unfold kAd; rw [if_pos ha]
  have hak : ∀ i, i < 12 → kAd B0 b adK (kStA + i) = adK i := fun i hi => by
    unfold kAd
    rw [if_neg (by unfold kStA; omega), if_neg (by unfold kStA kScA; omega), Nat.add_sub_cancel_left]
  have hab : kAd B0 b adK kScA = b := by
    unfold kAd
    rw [if_neg (by decide), if_pos rfl]
  have hXK : kXK l (L, xs) (kAd B0 b adK) B0 (kXp adK adV B0) := ⟨fun p e R s m args below meth c own y hx hts hown ho hRf hRl hB hX hy => kXs_ext hak hx hts hown ho hRf hRl hX.1 (fun h => absurd h hy), fun s U hW hh h => ⟨kXs.move hW hh h.1, kXq.move hW hh h.2⟩⟩
  have hK : kK cT D s := ⟨⟨hKc, fun k q h => by simp at h⟩, hcT, va_AO.of (hts _ kFl_7.2.2.2.2), fun w hw => va_Nw.of (kN_on w hw) (hts w (List.mem_filter.mp hw).1)⟩
  obtain ⟨n, ⟨r, S'⟩, hrun, hr1, hcu, hsu⟩ := law_run (sc := (L, xs)) (d := 500) (K := fun r S => r = some (some (.int 1)) ∧ S.1.2.1 ≤ 632 ∧ S.1.2.2 ≤ 10459) hL (fun cu2 su2 i l r h1 h2 => ⟨rfl, h1, h2⟩)
  dsimp only at hrun hr1 hcu hsu
  subst hr1
  have hls := kentry (ad := kAd B0 b adK) (vs := [.ref kScA]) (n := 8) rfl (by decide)
  have hv : ([.ref kScA] : List Value).map (kcv (kAd B0 b adK)) = [.ref b] := by show [Value.ref (kAd B0 b adK kScA)] = _; rw [hab]
  rw [hv] at hls
  rw [lg_entry_eq]
  have hown' : s.vm.findClass (kRn 12) = some m.cls := by rw [kown12]; exact hown
  have key := kBt hAd hXK (kSp_ok hAd hXK hl) n hrun (mm := (yL_law, cL_law, 8, some .boolean, 12)) kms_260 (p := p) (e := e) (R := room_1) (s := s) (m := m) (args := #[Value.ref b]) (below := below) (meth := meth) (c := c) (Q := lw_Z below #[Value.ref b] s) hx hb htk hK ⟨hXs, hXq⟩ hown' hml (fun h => absurd h (by decide)) (Nat.le_of_eq hB0)
    (kXs_ext hak hx htk hown' (by decide) (by decide) (by decide) hXs (fun _ => ⟨by rw [hab]; exact hX, by rw [hab]; exact hbl, by rw [hab, hB0]; exact hbl⟩)) ⟨fun q => by rcases q with q | q <;> exact absurd q (by decide), fun q => absurd q (by decide)⟩ (by decide) (by decide) (c0 := 0) (s0 := 0) (Nat.le_of_eq hB0.symm) (Nat.le_refl _) (Nat.le_refl _) (Nat.le_trans (Nat.sub_le _ _) (Nat.le_trans hcu (by decide))) (Nat.le_trans (Nat.sub_le _ _) (Nat.le_trans hsu (by decide))) ?_ (ls := _) (H := s.heap) (locs := []) ⟨fun k q h => by simp [kW] at h, by decide, kR_isr⟩ va_S.rf hls
  · exact key
  · intro pc2 I ls2 H2 locs2 hf h24 he hrep2 hS2
    have hz : ∀ q ∈ locs2, s.heap.size ≤ q.base := fun q hq => by have := hS2.2.2 q hq; rw [hB0] at this; exact this
    have hd : decode cL_law pc2 = .ok (.ireturn, 1) := by
      rcases kret_inv kms_260 hf h24 he with ⟨hv, -, -⟩ | ⟨x, -, hrt, -⟩ | ⟨x, -, -, -, hd⟩ | ⟨x, hv, -, -⟩
      · cases hv
      · cases hrt
      · exact hd
      · cases hv
    exact va_forget hz (W.widen (k := 601024) (n := 7293034) (Nat.le_trans (Nat.sub_le _ _) (Nat.le_trans hcu (by decide))) (Nat.le_trans (Nat.sub_le _ _) (Nat.le_trans hsu (by decide))) (lw_ret hx hb hr hlocks hd))
set_option maxHeartbeats 4000000 in
theorem lw_walk (l : Launch) (hl : l.stackTraces = false) (b : Addr) (xs : List Int32) : MetFree l x (headSpec (Jvm.Cond.code x code maxLocals ret :: tables_1) room_1) (lw_P b xs) (fun _ _ _ _ _ => True) lw_Q := by
  refine MetFree.of_bodyS (code := code) (maxLocals := maxLocals) (ret := ret) (by decide) ?_ ?_
  · intro args s m h hn
    obtain ⟨meth, c, h1, h2, h3, h4, h5, h6, -, -⟩ := Cond.code_spec hn (atoms_spec (ws := Jvm.Cond.code x code maxLocals ret :: tables_1) h _ List.mem_cons_self)
    exact ⟨meth, c, h1, h2, h3, h4, h5, h6⟩
  · intro p e s m args below meth c s₁ B hml0 hP _
    obtain ⟨rfl, hx, hbd, hgv⟩ := hP
    obtain ⟨scr, harrAt, hlist, hof, hsmall⟩ := hx
    obtain ⟨hcb, hkn, -, -⟩ := State.arrayAt?_spec harrAt
    have hown : s.vm.findClass R_law = some m.cls := findClass_of_methodNamed B.named
    have hts0 : ∀ c ∈ (Jvm.Cond.code x code maxLocals ret :: tables_1), c.before #[Value.ref b] s = true := atoms_spec (ws := Jvm.Cond.code x code maxLocals ret :: tables_1) B.pre
    have hts : ∀ w ∈ lw_tbl, w.before #[Value.ref b] s = true := k2_hts_sels lw_privs (fun w hw => hts0 w (List.mem_cons_of_mem _ hw)) lw_privs_ok
    have hml : c.maxLocals = 8 := B.maxLocals_eq (hts0 _ List.mem_cons_self)
    have X₀ : Stand p l e room_1 s m #[Value.ref b] below meth c s₁ [] 0 0 := Stand.of_body B
    have hh0 : s₁.heap = s.heap := by rw [B.state]; rfl
    have hsz : scr.slots.size = xs.length := by rw [← Array.length_toList, hlist, List.length_map]
    have hval : ∀ j : Nat, j < xs.length → scr.slots[j]? = some (.int (xs.getD j 0)) := fun j hj => by
      rw [← Array.getElem?_toList, hlist]
      simp [hj]
    have hbl : b < s.heap.size := (Array.getElem?_eq_some_iff.mp hcb).1
    have hX : va_X b xs.length (fun j => xs.getD j 0) s s.heap := ⟨scr, hcb, hof, hkn, hsz, hval⟩
    have K : W p l e room_1 s m #[Value.ref b] below meth c s₁.heap [] 0 0 (lw_Z below #[Value.ref b] s) (entryFrame m ([Value.ref b] : List Value).toArray 8) := by
      rw [hh0]
      exact whole_start l hl hbd ⟨B.exec, B.bytes, B.returns, hml, hown, hts, hX, hbl, B.notSynchronized, hgv⟩
    obtain ⟨t, a1, o, b1, b2, b3⟩ := K s₁ rfl X₀
    exact ⟨t, o, a1, b1, b2, b3⟩
theorem lw_pre_spec {args : Array Value} {s : State} (h : (Jvm.Cond.and given_1 narrow_1).before args s = true) (hr : rest_1_c.before args s = true) : ∃ (b : Addr) (xs : List Int32), lw_P b xs args s := by
  have hs := flat_of_before _ h
  have hq := flat_of_before _ hr
  have hc : (Cond.count 1).before args s = true := hs _ (by decide +kernel)
  have harr : (Cond.arrayOf (.arg 0) .int).before args s = true := hs _ (by decide +kernel)
  have hle : (Cond.le (.length (.arg 0)) (.int 2560)).before args s = true := hs _ (by decide +kernel)
  have hlen : (Cond.isInt (.length (.arg 0))).before args s = true := hq _ (by decide +kernel)
  have hall : (Cond.all (.arg 0) (.isInt (.elem (.arg 0) (.index 0)))).before args s = true := hq _ (by decide +kernel)
  obtain ⟨b, xs, hb, hx⟩ := State.ints_of_pre rfl harr hlen hall
  have hsm : xs.length < 2 ^ 31 := hx.choose_spec.2.2.2
  have hev : (Term.length (.arg 0)).eval args s none [] s = some (.int xs.length.toInt32) := hx.length_eval hb
  have hv := Cond.le_ints hev (show (Term.int 2560).eval args s none [] s = some (.int 2560) from rfl)
  have hd : xs.length.toInt32 ≤ 2560 := by
    simpa [Cond.before, Cond.holds, hv] using hle
  have hN : xs.length ≤ 2560 := (Int32.ofNat_le_ofNat hsm (by decide)).mp (show Int32.ofNat xs.length ≤ Int32.ofNat 2560 from hd)
  exact ⟨b, xs, Cond.one_arg hc (show args[0]? = some (.ref b) from hb), hx, hN, h⟩
theorem lw_comes (l : Launch) (hl : l.stackTraces = false) : Comes l x (Jvm.Cond.code x code maxLocals ret :: tables_1) room_1 (fun tb e args s => Calls_1 tb e args s ∧ rest_1 tb e args s ∧ Pre_1 tb e args s)
    (fun _ _ args s o t => lw_Q args s o t) := by
  intro p e ha hc hk s m args below hf hfit hheap happ hpre
  obtain ⟨b, xs, hP⟩ := lw_pre_spec hpre.2.2 hpre.2.1
  obtain ⟨k, o, h1, h2, h3, hQ⟩ := lw_walk l hl b xs p e ha hc hk s m args below hf ((Spec.applies_iff_loose hf).mp happ).1 hP trivial
  exact ⟨k, o, h1, h2, h3, hQ⟩
theorem lw_frame {s t : State} {o : Outcome} {args : Array Value} (h : Framed s o t [] 601024 7293034) :
    Framed s o t (fieldLocs frame_1_writes args s ++ arrayLocs frame_1_arrays args s ++ staticLocs frame_1_statics s) 601024 7293034 := h
theorem lw_off {l : Launch} (hf : l.flags = flags0) : l.stackTraces = false := by
  unfold Launch.stackTraces
  rw [hf]
  decide
theorem lw_limb (L : Cond) (hL : ∀ (args : Array Value) (s t : State), L.after args s (.returned (some (.int 1))) t = true) :
    ArmFor flags0 classFile x code maxLocals ret World_1 tables_1 room_1 Calls_1 rest_1 Pre_1
      (fun tb e a s o t => postC L tb e a s o t ∧ Framed s o t (fieldLocs frame_1_writes a s ++ arrayLocs frame_1_arrays a s ++ staticLocs frame_1_statics s) 601024 7293034) := by
  intro l hf0 _ _ p e ha hc hk s m args below hf hfit hheap happ hpre
  obtain ⟨k, o, h1, h2, h3, rfl, hF⟩ := lw_comes l (lw_off hf0) p e ha hc hk s m args below hf hfit hheap happ hpre
  exact ⟨k, _, h1, h2, h3, hL args s _, lw_frame hF⟩
theorem i_vc : Claimed_1_1 ∧ Claimed_1_2 := ⟨lw_limb limb_1_1 (fun args s t => by simp [limb_1_1, Cond.after, Cond.holds, Cond.value]), lw_limb limb_1_2 (fun args s t => Cond.after_iff.mpr (by
  first | (rw [show limb_1_2 = Cond.eq .result (.int 1) from rfl, Cond.eq_ints (x := 1) (y := 1) rfl rfl]; simp; done) | (simp [limb_1_2, Cond.value, Term.eval]; done)))⟩
