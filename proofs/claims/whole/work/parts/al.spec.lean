/-! calls of the methods that catch, and what they catch -/
section KSp
variable {l : Launch} {sc : Nat × (Nat → Int32)} {ad : Nat → Nat} {cT : Nat → ClassId} {D : va_G} {B0 : Nat} {Xp : State → Prop} {adK adV : Nat → Nat}
theorem kOfWW {y : MethodName} {ws ws' : List Cond} {rm : Room} {Pc : Array Value → State → Prop} {Qc : Array Value → State → Outcome → State → Prop} {mc ms : Nat} {free : Addr → Prop} {cc : ByteArray} {maxL : Nat} {ret : Option FieldType} {hh : List (Nat × Nat × Nat × Nat)}
    (hy : plainName y.cls = true) (hw : ws = Cond.codeWith y cc maxL ret hh :: ws')
    (body : ∀ p e s m args below meth c s₁, BodyLoose p l y (headSpec ws rm) cc maxL ret e s m args below meth c s₁ → c.maxLocals = maxL → c.exceptionTable.toList = tableOf hh → Pc args s →
      W p l e (headSpec ws rm).room s m args below meth c s.heap [] 0 0 (MQ below Qc args s mc ms free) (entryFrame m args maxL)) : Met l y ws rm Pc Qc mc ms free := by
  refine MetFree.of_bodyS (code := cc) (maxLocals := maxL) (ret := ret) hy ?_ ?_
  · intro args s m h hn
    obtain ⟨m9, meth, c, hn9, h1, h2, h3, h4, -, h5, h6, -⟩ := Cond.codeWith_spec (atoms_spec (ws := ws) h _ (by rw [hw]; exact List.mem_cons_self))
    cases Option.some.inj (hn9.symm.trans hn)
    exact ⟨meth, c, h1, h2, h3, h4, h5, h6⟩
  · intro p e s m args below meth c s₁ B hml hP _
    have hh0 : s₁.heap = s.heap := by rw [B.state]; rfl
    have ht : c.exceptionTable.toList = tableOf hh := vx_table (x := y) B (atoms_spec (ws := ws) B.pre _ (by rw [hw]; exact List.mem_cons_self))
    obtain ⟨t, a1, o, b1, b2, b3⟩ := body p e s m args below meth c s₁ B hml ht hP s₁ hh0 (Stand.of_body B)
    exact ⟨t, o, a1, b1, b2, ⟨b3.1, b3.2⟩⟩
theorem kMv (hAd : ∀ a, a < 1000 → ad a = B0 + a) (hXK : kXK l sc ad B0 Xp) {n : Nat} (ih : kGt l sc ad cT D B0 Xp n) {d z : Nat} {As : List Value} {S S' : kS} {v : Option Value} (hrun : krun sc n d z 0 (kpad (kmx z) As) [] S = some (some v, S')) {mm : kM} (hz : kms[z]? = some mm) {hh : List (Nat × Nat × Nat × Nat)} (hwd : Cond.codeWith mm.1 mm.2.1 mm.2.2.1 mm.2.2.2.1 hh ∈ kT) (htb : ∀ c : Code, c.exceptionTable.toList = tableOf hh → c.maxLocals = mm.2.2.1 → kTab z c) (hzl : z ≠ kLaw) (ha : kaok z As = true) :
    Met l mm.1 (Cond.codeWith mm.1 mm.2.1 mm.2.2.1 mm.2.2.2.1 hh :: kT) (kRm d (S'.1.2.1 - S.1.2.1) (S'.1.2.2 - S.1.2.2)) (kPc ad cT D B0 Xp As S) (kQr ad cT D B0 v S') (S'.1.2.1 - S.1.2.1) (S'.1.2.2 - S.1.2.2) (fun q => B0 ≤ q) := by
  obtain ⟨-, -, hpl, hm15, hrn, -, -, -⟩ := kZw hz hzl
  have hmx : kmx z = mm.2.2.1 := by unfold kmx; rw [hz]
  rw [kaok, Bool.and_eq_true, decide_eq_true_eq] at ha
  have hcu := krun_cu hrun
  refine kOfWW (hh := hh) (cc := mm.2.1) (maxL := mm.2.2.1) (ret := mm.2.2.2.1) hpl rfl ?_
  intro p e s m args below meth c s₁ B hml ht9 hv
  obtain ⟨rfl, hrep, hsz, hB, hK, hX⟩ := hv
  have hx := B.exec
  have hb := B.bytes
  have hr := B.returns
  have hts0 := atoms_spec (ws := Cond.codeWith mm.1 mm.2.1 mm.2.2.1 mm.2.2.2.1 hh :: kT) B.pre
  have hts : ∀ w ∈ kT, w.before (As.map (kcv ad)).toArray s = true := fun w hw => hts0 w (List.mem_cons_of_mem _ hw)
  have hown : s.vm.findClass mm.1.cls = some m.cls := findClass_of_methodNamed B.named
  have hlocks := B.notSynchronized
  have hin : meth.name = mm.1.name := (name_of_methodNamed B.named B.method).1
  have ho := kown_lt mm (List.mem_of_getElem? hz)
  rw [lg_entry_eq]
  have hls := kentry (ad := ad) (vs := As) (n := kmx z) ha.1 ha.2
  rw [hmx] at hls hrun
  have hS : va_S (fun q => B0 ≤ q) s.heap s.heap [] := va_S.rf
  have key := ih hrun hz (p := p) (e := e) (R := kRm d (S'.1.2.1 - S.1.2.1) (S'.1.2.2 - S.1.2.2)) (s := s) (m := m) (args := (As.map (kcv ad)).toArray) (below := below) (meth := meth) (c := c) (Q := MQ below (kQr ad cT D B0 v S') (As.map (kcv ad)).toArray s (S'.1.2.1 - S.1.2.1) (S'.1.2.2 - S.1.2.2) (fun q => B0 ≤ q)) hx hb hts hK hX (by rw [hrn]; exact hown) (by rw [hml, kpad_len]) (fun h => hin.trans h) hB
    (hXK.1 p e _ s m _ below meth c _ z hx hts (by rw [hrn]; exact hown) ho (by show 10 ≤ d + 10; omega) (by show 200 ≤ 40 * d + 200; omega) hB hX hzl) (htb c ht9 hml) (Nat.le_refl _) (Nat.le_refl _) (c0 := S.1.2.1) (s0 := S.1.2.2) hsz (Nat.le_refl _) (Nat.le_refl _) (Nat.le_refl _) (Nat.le_refl _) ?_ hrep hS hls
  · rw [Nat.sub_self, Nat.sub_self] at key
    exact key
  · intro pc2 I ls2 H2 locs2 hf h24 he hrep2 hS2
    have hF : ∀ t : State, t.heap = H2 → va_F (fun q => B0 ≤ q) s t := fun t ht => ⟨by rw [ht]; exact hS2.1, fun q h1 h2 => by rw [ht]; exact hS2.2.1 q h1 h2⟩
    rcases kret_inv hz hf h24 he with ⟨hv, hrt, hd⟩ | ⟨x, hv, hrt, hd⟩ | ⟨x, hv, hk, hrt, hd⟩ | ⟨x, hv, hrt, hd⟩
    · have e0 : v = none := by cases v with | none => rfl | some w => simp at hv
      subst e0
      exact W.vret hx hb (by rw [hr, hrt]) (fun t ht _ => ⟨rfl, by rw [ht]; exact hrep2, hF t ht⟩) hS2.2.2 hd
    · have e0 : v = some (.int x) := by cases v with | none => simp at hv | some w => simpa using hv
      subst e0
      exact W.iret hx hb (by rw [hr, hrt]) (fun t ht _ => ⟨rfl, by rw [ht]; exact hrep2, hF t ht⟩) hS2.2.2 hd
    · have e0 : v = some (.int x) := by cases v with | none => simp at hv | some w => simpa using hv
      subst e0
      exact W.zret hx hb (by rw [hr, hrt]) (kbool_nar hk) (fun t ht _ => ⟨rfl, by rw [ht]; exact hrep2, hF t ht⟩) hS2.2.2 hd
    · have e0 : v = some (.long x) := by cases v with | none => simp at hv | some w => simpa using hv
      subst e0
      exact W.lret hx hb (by rw [hr, hrt]) (fun t ht _ => ⟨rfl, by rw [ht]; exact hrep2, hF t ht⟩) hS2.2.2 hd
theorem kMx (hAd : ∀ a, a < 1000 → ad a = B0 + a) (hXK : kXK l sc ad B0 (kXp adK adV B0)) (hl : l.stackTraces = false) {n : Nat} (ih : kGt l sc ad cT D B0 (kXp adK adV B0) n) {d z : Nat} {As : List Value} {S S' : kS} (hrun : krun sc n d z 0 (kpad (kmx z) As) [] S = some (none, S')) {mm : kM} (hz : kms[z]? = some mm) (h10 : mm.2.2.2.2 = 10) (hzl : z ≠ kLaw) (ha : kaok z As = true) :
    vx_Met l mm.1 (Cond.code mm.1 mm.2.1 mm.2.2.1 mm.2.2.2.1 :: kT) (kRm d (S'.1.2.1 - S.1.2.1) (S'.1.2.2 - S.1.2.2)) (kPc ad cT D B0 (kXp adK adV B0) As S) (fun _ _ _ _ => False) (kXC ad cT D B0 S') (S'.1.2.1 - S.1.2.1) (S'.1.2.2 - S.1.2.2) (fun q => B0 ≤ q) := by
  obtain ⟨-, -, hpl, hm15, hrn, -, -, -⟩ := kZw hz hzl
  have hmx : kmx z = mm.2.2.1 := by unfold kmx; rw [hz]
  rw [kaok, Bool.and_eq_true, decide_eq_true_eq] at ha
  refine vx_ofW (cc := mm.2.1) (maxL := mm.2.2.1) (ret := mm.2.2.2.1) hpl rfl ?_
  intro p e s m args below meth c s₁ B hml hta hv
  obtain ⟨rfl, hrep, hsz, hB, hK, hX⟩ := hv
  have hx := B.exec
  have hb := B.bytes
  have hts0 := atoms_spec (ws := Cond.code mm.1 mm.2.1 mm.2.2.1 mm.2.2.2.1 :: kT) B.pre
  have hts : ∀ w ∈ kT, w.before (As.map (kcv ad)).toArray s = true := fun w hw => hts0 w (List.mem_cons_of_mem _ hw)
  have hown : s.vm.findClass mm.1.cls = some m.cls := findClass_of_methodNamed B.named
  have hlocks := B.notSynchronized
  have hin : meth.name = mm.1.name := (name_of_methodNamed B.named B.method).1
  have ho := kown_lt mm (List.mem_of_getElem? hz)
  rw [lg_entry_eq]
  have hls := kentry (ad := ad) (vs := As) (n := kmx z) ha.1 ha.2
  rw [hmx] at hls hrun
  have hS : va_S (fun q => B0 ≤ q) s.heap s.heap [] := va_S.rf
  have key := kBx hAd hXK hl ih n (Nat.le_refl _) hrun hz h10 (p := p) (e := e) (R := kRm d (S'.1.2.1 - S.1.2.1) (S'.1.2.2 - S.1.2.2)) (s := s) (m := m) (args := (As.map (kcv ad)).toArray) (below := below) (meth := meth) (c := c) (Qc := fun _ _ _ _ => False) (mc := S'.1.2.1 - S.1.2.1) (ms := S'.1.2.2 - S.1.2.2) hx hb hts hK hX (by rw [hrn]; exact hown) (by rw [hml, kpad_len]) (fun h => hin.trans h) hB
    (hXK.1 p e _ s m _ below meth c _ z hx hts (by rw [hrn]; exact hown) ho (by show 10 ≤ d + 10; omega) (by show 200 ≤ 40 * d + 200; omega) hB hX hzl) hlocks hta (Nat.le_refl _) (Nat.le_refl _) (c0 := S.1.2.1) (s0 := S.1.2.2) hsz (Nat.le_refl _) (Nat.le_refl _) (Nat.le_refl _) (Nat.le_refl _) (Nat.le_refl _) (Nat.le_refl _) hrep hS hls
  rw [Nat.sub_self, Nat.sub_self] at key
  exact key
/-- a call that threw -/
theorem kCallX {p : Program} {e : Env} {R : Room} {s : State} {m : MethodId} {args : Array Value} {below : List Frame} {meth : Method} {c : Code} {H : Heap} {locs : List Loc} {cells slots mc ms : Nat} {Q : State → Prop} {pc : Nat} {ls : Array Slot} {st0 rest : List Value} {S2 : kS}
    (hr : vx_Run p l e R s m args below meth c H locs cells slots mc ms (F0 m pc ls st0) rest (fun _ _ _ => False) (kXC ad cT D B0 S2) (fun q => B0 ≤ q)) (hS : va_S (fun q => B0 ≤ q) s.heap H locs)
    (kk : ∀ (q : Addr) (ce : Cell) (H1 : Heap) (locs1 : List Loc), kRep ad cT D S2 H1 → va_S (fun q => B0 ≤ q) s.heap H1 locs1 → H1[q]? = some ce → ce.vm = .none → s.vm.findClass kEx = some ce.cls → vx_W p l e R s m args below meth c H1 locs1 (cells + mc) (slots + ms) Q (F0 m pc ls rest) q) : W p l e R s m args below meth c H locs cells slots Q (F0 m pc ls st0) := by
  intro T hT X
  rcases hr T hT X with ⟨_, _, _, _, _, _, _, _, _, _, hq, _⟩ | ⟨q, st₀, t, T', L, E, ce, h0, X', hL, e1, e2, ⟨rfl, hrep, hF⟩, hce, hcv, hcl, st⟩
  · exact hq.elim
  · have hS' : va_S (fun q => B0 ≤ q) s.heap T'.heap (locs ++ L) := by
      refine ⟨Nat.le_trans hS.1 (by rw [e1, ← h0]; exact hF.1), fun q h1 h2 => ?_, fun q hq => ?_⟩
      · rw [e1, hF.2 q (by rw [h0]; exact Nat.lt_of_lt_of_le h1 hS.1) h2, h0]
        exact hS.2.1 q h1 h2
      · rcases List.mem_append.mp hq with h | h
        · exact hS.2.2 q h
        · exact hL q h
    obtain ⟨t2, a1, b1⟩ := kk q ce T'.heap (locs ++ L) (by rw [e1]; exact hrep) hS' (by rw [e1]; exact hce) hcv hcl T' rfl X'
    exact ⟨t2, st.trans a1, b1⟩
theorem kL_all : ∀ z, z < kms.length → kow z = 12 → z = 257 ∨ z = 258 ∨ z = 259 ∨ z = 260 := by decide +kernel
theorem kL_z {z : Nat} {mm : kM} (hz : kms[z]? = some mm) (h : mm.2.2.2.2 = 12) : z = 257 ∨ z = 258 ∨ z = 259 ∨ z = 260 :=
  kL_all z (List.getElem?_eq_some_iff.mp hz).1 (by unfold kow; rw [hz]; exact h)
set_option maxRecDepth 100000 in
theorem kms_257 : kms[257]? = some (yL_man, cL_man, 5, some .int, 12) := rfl
set_option maxRecDepth 100000 in
theorem kms_258 : kms[258]? = some (yL_thing, cL_thing, 5, some .int, 12) := rfl
set_option maxRecDepth 100000 in
theorem kms_259 : kms[259]? = some (yL_row, cL_row, 4, some .int, 12) := rfl
theorem kW_word {z : Nat} {mm : kM} (hz : kms[z]? = some mm) (h12 : mm.2.2.2.2 = 12) (hzl : z ≠ kLaw) : ∃ hh, Cond.codeWith mm.1 mm.2.1 mm.2.2.1 mm.2.2.2.1 hh ∈ kT ∧ (∀ c : Code, c.exceptionTable.toList = tableOf hh → c.maxLocals = mm.2.2.1 → kTab z c) ∧ kkd[z]? = some 1 := by
  rcases kL_z hz h12 with rfl | rfl | rfl | rfl
  · rw [kms_257] at hz; cases hz
    exact ⟨[(0, 10, 13, 13)], kT_at kc_L_man rfl, fun c h1 h2 => ⟨fun _ => ⟨h1, h2⟩, fun q => absurd q (by decide)⟩, by decide +kernel⟩
  · rw [kms_258] at hz; cases hz
    exact ⟨[(0, 10, 13, 13)], kT_at kc_L_thing rfl, fun c h1 h2 => ⟨fun _ => ⟨h1, h2⟩, fun q => absurd q (by decide)⟩, by decide +kernel⟩
  · rw [kms_259] at hz; cases hz
    exact ⟨[(0, 8, 11, 13)], kT_at kc_L_row rfl, fun c h1 h2 => ⟨fun q => absurd q (by decide), fun _ => ⟨h1, h2⟩⟩, by decide +kernel⟩
  · exact absurd rfl hzl
theorem kL_f1 : kfetch 257 5 = some (23, 100, 0, 2, 8, [(4, 15)]) := kF 257 5 (23, 100, 0, 2, 8, [(4, 15)]) (by decide +kernel)
theorem kL_f2 : kfetch 258 5 = some (23, 101, 0, 2, 8, [(4, 15)]) := kF 258 5 (23, 101, 0, 2, 8, [(4, 15)]) (by decide +kernel)
theorem kL_f3 : kfetch 259 4 = some (23, 136, 0, 1, 7, [(3, 12)]) := kF 259 4 (23, 136, 0, 1, 7, [(3, 12)]) (by decide +kernel)
theorem kL_call {y pc : Nat} {I : kI} (hf : kfetch y pc = some I) (hne : khd y pc ≠ []) : (y = 257 ∧ pc = 5 ∧ I = (23, 100, 0, 2, 8, [(4, 15)])) ∨ (y = 258 ∧ pc = 5 ∧ I = (23, 101, 0, 2, 8, [(4, 15)])) ∨ (y = 259 ∧ pc = 4 ∧ I = (23, 136, 0, 1, 7, [(3, 12)])) := by
  unfold khd at hne
  cases hq : kHL.find? (fun q => q.1 == y && q.2.1 == pc) with
  | none => rw [hq] at hne; exact absurd rfl hne
  | some q =>
    have h1 := List.mem_of_find?_eq_some hq
    have h2 := List.find?_some hq
    rw [Bool.and_eq_true, beq_iff_eq, beq_iff_eq] at h2
    simp only [kHL, List.mem_cons, List.not_mem_nil, or_false] at h1
    rcases h1 with rfl | rfl | rfl
    · obtain ⟨rfl, rfl⟩ := h2
      exact Or.inl ⟨rfl, rfl, Option.some.inj (hf.symm.trans kL_f1)⟩
    · obtain ⟨rfl, rfl⟩ := h2
      exact Or.inr (Or.inl ⟨rfl, rfl, Option.some.inj (hf.symm.trans kL_f2)⟩)
    · obtain ⟨rfl, rfl⟩ := h2
      exact Or.inr (Or.inr ⟨rfl, rfl, Option.some.inj (hf.symm.trans kL_f3)⟩)
theorem kM_law : ∀ own, own < 14 → ∀ q ∈ (krM[own]?).getD [], q.2.2.1 ≠ 100 → q.2.1 ≠ 260 ∧ (kow q.2.1 = 12 → own = 12) := by decide +kernel
def kNl (w : Cond) : Bool := match w with | .methodLinkNest o _ _ _ => o == "HatAtCouncilLaw" | _ => false
set_option maxRecDepth 100000 in
theorem kN_law : ∀ w ∈ kN, kNl w = false := by decide +kernel
theorem kown12 : kRn 12 = "HatAtCouncilLaw" := by decide +kernel
theorem kL_link {ix : Nat} {y : MethodName} (h : Cond.methodLink (kRn 12) ix y ∈ kT ∨ Cond.methodLinkNest (kRn 12) ix y "HatAtCouncil" ∈ kN) : Cond.methodLink (kRn 12) ix y ∈ kT := by
  rcases h with h | h
  · exact h
  · exact absurd (kN_law _ h) (by rw [kown12]; simp [kNl])
/-- where a wrapper calls: its table, where the handler lies, what it stores -/
theorem kL_at {y pc z kind : Nat} {np : Int} {nx : Nat} {mm : kM} {c : Code} {L : List Value} (hf : kfetch y pc = some (23, z, kind, np, nx, khd y pc)) (hne : khd y pc ≠ []) (hy : kms[y]? = some mm) (hT : kTab y c) (hml : c.maxLocals = L.length) :
    ∃ (x : ExceptionTableEntry) (k h : Nat), c.exceptionTable.toList = [x] ∧ covers x pc = true ∧ x.catchType = 13 ∧ khd y pc = [((k : Int), h)] ∧ (decode mm.2.1 x.handlerPc = .ok (.astore k, 2) ∧ h = x.handlerPc + 2 ∨ ∃ f : Fin 4, decode mm.2.1 x.handlerPc = .ok (.astore_n f, 1) ∧ f.val = k ∧ h = x.handlerPc + 1) ∧ k < L.length ∧ mm.2.2.2.2 = 12 ∧ kow z = 10 ∧ kind = 0 := by
  rcases kL_call hf hne with ⟨rfl, rfl, hI⟩ | ⟨rfl, rfl, hI⟩ | ⟨rfl, rfl, hI⟩
  · simp only [Prod.mk.injEq] at hI
    obtain ⟨-, rfl, rfl, -, -, hh⟩ := hI
    rw [kms_257] at hy; cases hy
    obtain ⟨ht, hm⟩ := hT.1 (Or.inl rfl)
    exact ⟨⟨0, 10, 13, 13⟩, 4, 15, ht, by decide, rfl, hh, Or.inl ⟨by decide +kernel, rfl⟩, by rw [← hml, hm]; decide, rfl, by decide +kernel, rfl⟩
  · simp only [Prod.mk.injEq] at hI
    obtain ⟨-, rfl, rfl, -, -, hh⟩ := hI
    rw [kms_258] at hy; cases hy
    obtain ⟨ht, hm⟩ := hT.1 (Or.inr rfl)
    exact ⟨⟨0, 10, 13, 13⟩, 4, 15, ht, by decide, rfl, hh, Or.inl ⟨by decide +kernel, rfl⟩, by rw [← hml, hm]; decide, rfl, by decide +kernel, rfl⟩
  · simp only [Prod.mk.injEq] at hI
    obtain ⟨-, rfl, rfl, -, -, hh⟩ := hI
    rw [kms_259] at hy; cases hy
    obtain ⟨ht, hm⟩ := hT.2 rfl
    exact ⟨⟨0, 8, 11, 13⟩, 3, 12, ht, by decide, rfl, hh, Or.inr ⟨3, by decide +kernel, rfl, rfl⟩, by rw [← hml, hm]; decide, rfl, by decide +kernel, rfl⟩
set_option maxHeartbeats 4000000 in
theorem kSp_ok (hAd : ∀ a, a < 1000 → ad a = B0 + a) (hXK : kXK l sc ad B0 (kXp adK adV B0)) (hl : l.stackTraces = false) : ∀ n, kGt l sc ad cT D B0 (kXp adK adV B0) n → kSpt l sc ad cT D B0 (kXp adK adV B0) n := by
  intro n ih d y pc L st S S' v h I hf h23 hsp mm hy p e R s m args below meth c Q hx hb hts hK hX hown hml hin hB hEx hTb hRf hRl c0 s0 hc0 hc1 hs1 hfc hfs hexit ls H locs hrep hS hL
  rw [krun, hf] at h
  simp only at h
  cases hs : kstep sc I L st S with
  | none => rw [hs] at h; simp at h
  | some c' =>
    rw [hs] at h
    have ho := kown_lt mm (List.mem_of_getElem? hy)
    obtain ⟨ins, len, hdec, hlen, htr⟩ := kfetch_inv hy hf
    obtain ⟨ix, z, np, nest, kind, hins, hlk, hnp, hkd, rfl⟩ := kinv_inv htr h23
    have h1 : ks23 z kind (np : Int) (pc + len) (khd y pc) L st S = some c' := hs
    obtain ⟨as, rest, rfl, hpop, h8, hok, hrecv⟩ := ks23_call h1
    simp only at h hsp
    cases d with
    | zero => simp at h
    | succ d' =>
      simp only at h
      obtain ⟨mmz, hz, hpar, hlink⟩ := (kMw ho hlk).2 hnp
      obtain ⟨r9, hr9, hm9⟩ := klk_mem hlk
      have hlaw := kM_law mm.2.2.2.2 ho (ix, z, np, nest) (by rw [hr9]; exact hm9) hnp
      have hzl : z ≠ kLaw := hlaw.1
      have hzo : kow z = mmz.2.2.2.2 := by unfold kow; rw [hz]
      cases hc : krun sc n d' z 0 (kpad (kmx z) as) [] S with
      | none => rw [hc] at h; simp at h
      | some q =>
        rw [hc] at h
        obtain ⟨_ | v1, S2⟩ := q
        · simp only at h
          have hne : khd y pc ≠ [] := by
            intro q
            rw [q] at h
            simp at h
          obtain ⟨x, k, hp, htab, hcov, hct, hkh, hdk, hkL, hm12, hz10, rfl⟩ := kL_at hf hne hy hTb hml
          rw [hkh] at h
          simp only [Int.toNat_natCast] at h
          have h10 : mmz.2.2.2.2 = 10 := by rw [← hzo]; exact hz10
          obtain ⟨hini, hcls, -, hm15, hrn, hk0, hk1, hk2⟩ := kZw hz hzl
          have hcd := kcode_in hz (by rw [h10]; decide)
          have M := kMx hAd hXK hl ih hc hz h10 hzl hok
          have cu1 := krun_cu hc
          have cu2 := krun_cu h
          have ecells : S.1.2.1 - c0 + (S2.1.2.1 - S.1.2.1) = S2.1.2.1 - c0 := by have : S.1.2.1 ≤ S2.1.2.1 := cu1.1; omega
          have eslots : S.1.2.2 - s0 + (S2.1.2.2 - S.1.2.2) = S2.1.2.2 - s0 := by have : S.1.2.2 ≤ S2.1.2.2 := cu1.2; omega
          have hroom : S.1.2.1 - c0 + (S2.1.2.1 - S.1.2.1) ≤ R.cells ∧ S.1.2.2 - s0 + (S2.1.2.2 - S.1.2.2) ≤ R.slots := by
            rw [ecells, eslots]
            have := cu2.1
            have := cu2.2
            constructor
            · exact Nat.le_trans (Nat.sub_le_sub_right cu2.1 _) hfc
            · exact Nat.le_trans (Nat.sub_le_sub_right cu2.2 _) hfs
          have hrm : (kRm d' (S2.1.2.1 - S.1.2.1) (S2.1.2.2 - S.1.2.2)).frames + 1 ≤ R.frames ∧ 8 + (mmz.2.2.1 + 11) + (kRm d' (S2.1.2.1 - S.1.2.1) (S2.1.2.2 - S.1.2.2)).locals ≤ R.locals := by
            constructor
            · show d' + 10 + 1 ≤ _; omega
            · show 8 + (mmz.2.2.1 + 11) + (40 * d' + 200) ≤ _; omega
          have hls : ls.size = L.length := hL.1
          have hrev := kpop_rev hpop
          simp only [List.reverse_nil, List.nil_append, List.length_nil, Nat.zero_add] at hrev
          have hst : st.map (kcv ad) = (as.map (kcv ad)).reverse ++ rest.map (kcv ad) := by rw [← hrev.1]; simp
          have hW8 : 2 * (F0 m pc ls (st.map (kcv ad))).monitorRoom + ((rest.map (kcv ad)).map fun v => v.category).sum ≤ 8 := lv_room (kcat_sum h8)
          have hfix : CallFix p m c mm.2.1 L.length s args kT (kRn mm.2.2.2.2) := ⟨hx, hb, hml, hown, hts⟩
          have hp3 : mmz.1.cls ≠ "java/lang/invoke/MethodHandle" ∧ mmz.1.cls ≠ "java/lang/invoke/VarHandle" ∧ (parseMethodDescriptor mmz.1.desc).map (fun d => d.parameters.length) = some np := ⟨hcls.1, hcls.2, hpar⟩
          refine kSized fun hsz => ?_
          have hpre : ∀ U : State, U.heap = H → s.WarmedH U.vm → kPc ad cT D B0 (kXp adK adV B0) as S (as.map (kcv ad)).toArray U := by
            intro U hU hW
            refine ⟨rfl, by rw [hU]; exact hrep, by rw [hU]; omega, by rw [hU]; exact Nat.le_trans hB hS.1, kK.warm hW hK, hXK.2 s U hW (fun q hq => ?_) hX⟩
            rw [hU]
            exact hS.2.1 q (Nat.lt_of_lt_of_le hq hB) (Nat.not_le.mpr hq)
          obtain ⟨rfl, -⟩ | ⟨-, h0⟩ | ⟨-, h0⟩ := hins
          · obtain rfl : len = 3 := by
              rcases hlen with h | h
              · exact h.symm
              · exact absurd (show (3 : Nat) = 0 from h) (by decide)
            obtain ⟨hinst, hsel⟩ := hk0 hkd
            obtain ⟨a, t, rfl, hob⟩ := hrecv (by decide)
            rw [hzo, h10] at hob
            obtain ⟨⟨C, Tt, N⟩, hvw⟩ : ∃ q, vwCl[10]? = some q := ⟨_, List.getElem?_eq_getElem (by simp [vwCl])⟩
            obtain ⟨-, -, -, -, -, -, hrn2, -⟩ := kCall _ C Tt N hvw
            have hC : C = mmz.1.cls := by rw [← hrn2, ← hrn, h10]
            have hrc := va_recv (s := s) (H := H) hK.1 hrep.1 hvw (kobj_at hob)
            have hlenA : (t.map (kcv ad)).length = np := by
              have := hrev.2
              simp at this
              simp; omega
            have hst2 : (F0 m pc ls (st.map (kcv ad))).stack = (t.map (kcv ad)).reverse ++ .ref (ad a) :: rest.map (kcv ad) := by
              show st.map (kcv ad) = _
              rw [hst]; simp [kcv]
            have hPV : PreV s H mmz.1.cls (ad a) (kPc ad cT D B0 (kXp adK adV B0) (.ref a :: t) S) (t.map (kcv ad)) := ⟨kFB hXK _ S, by rw [← hC]; exact hrc, hpre⟩
            have hl0 : Cond.methodLink (kRn mm.2.2.2.2) ix mmz.1 ∈ kT := by
              rw [hm12] at hlink ⊢
              exact kL_link hlink
            refine kCallX (vx_runV (C := mmz.1.cls) (n := np) hfix M ⟨callB_of np hts (kG_code hcd) rfl rfl rfl (hts _ hini) (hts _ hl0) hp3 hrm, hts _ hinst, hts _ hsel⟩ hPV rfl hlenA hls hst2 hW8 hdec hroom) hS (fun q ce H1 locs1 r1 r2 hce hcv hcl => ?_)
            rw [ecells, eslots]
            refine kc_catch (own := "HatAtCouncilLaw") (name := kEx) (E := kEx) (by rw [hm12, kown12] at hown; exact hown) htab hcov (by rw [hct]; decide) (by rw [hct]; exact hts _ kE_cll) (hX.2.2.2 _ List.mem_cons_self args) hce hcv hcl ?_
            have go : ∀ ls2 : Array Slot, kLv ad ls2 (kset (kclr L k) k (.retAddr 0)) → W p l e R s m args below meth c H1 locs1 (S2.1.2.1 - c0) (S2.1.2.2 - s0) Q (F0 m hp ls2 []) := fun ls2 hl2 =>
              ih h hy hx hb hts hK hX hown (by rw [hml]; simp [kset_eq, kclr_len]) hin hB hEx hTb hRf hRl hc0 (Nat.le_trans hc1 cu1.1) (Nat.le_trans hs1 cu1.2) hfc hfs hexit r1 r2 hl2
            rcases hdk with ⟨hdk, rfl⟩ | ⟨f, hdk, rfl, rfl⟩
            · exact lv_astore hx hb hdk hL hkL rfl (fun ls2 hl2 => go ls2 (kLv_st0 hl2))
            · exact lv_astore_n hx hb hdk rfl hL hkL rfl (fun ls2 hl2 => go ls2 (kLv_st0 hl2))
          · exact absurd h0 (by decide)
          · exact absurd h0 (by decide)
        · simp only at h
          obtain ⟨hini, hcls, -, hm15, hrn, hk0, hk1, hk2⟩ := kZw hz hzl
          have cu1 := krun_cu hc
          have cu2 := krun_cu h
          have ecells : S.1.2.1 - c0 + (S2.1.2.1 - S.1.2.1) = S2.1.2.1 - c0 := by have : S.1.2.1 ≤ S2.1.2.1 := cu1.1; omega
          have eslots : S.1.2.2 - s0 + (S2.1.2.2 - S.1.2.2) = S2.1.2.2 - s0 := by have : S.1.2.2 ≤ S2.1.2.2 := cu1.2; omega
          have hroom : S.1.2.1 - c0 + (S2.1.2.1 - S.1.2.1) ≤ R.cells ∧ S.1.2.2 - s0 + (S2.1.2.2 - S.1.2.2) ≤ R.slots := by
            rw [ecells, eslots]
            have := cu2.1
            have := cu2.2
            constructor
            · exact Nat.le_trans (Nat.sub_le_sub_right cu2.1 _) hfc
            · exact Nat.le_trans (Nat.sub_le_sub_right cu2.2 _) hfs
          have hrm : (kRm d' (S2.1.2.1 - S.1.2.1) (S2.1.2.2 - S.1.2.2)).frames + 1 ≤ R.frames ∧ 8 + (mmz.2.2.1 + 11) + (kRm d' (S2.1.2.1 - S.1.2.1) (S2.1.2.2 - S.1.2.2)).locals ≤ R.locals := by
            constructor
            · show d' + 10 + 1 ≤ _; omega
            · show 8 + (mmz.2.2.1 + 11) + (40 * d' + 200) ≤ _; omega
          have hls : ls.size = L.length := hL.1
          have hrev := kpop_rev hpop
          simp only [List.reverse_nil, List.nil_append, List.length_nil, Nat.zero_add] at hrev
          have hst : st.map (kcv ad) = (as.map (kcv ad)).reverse ++ rest.map (kcv ad) := by rw [← hrev.1]; simp
          have hW8 : 2 * (F0 m pc ls (st.map (kcv ad))).monitorRoom + ((rest.map (kcv ad)).map fun v => v.category).sum ≤ 8 := lv_room (kcat_sum h8)
          have hfix : CallFix p m c mm.2.1 L.length s args kT (kRn mm.2.2.2.2) := ⟨hx, hb, hml, hown, hts⟩
          have hp3 : mmz.1.cls ≠ "java/lang/invoke/MethodHandle" ∧ mmz.1.cls ≠ "java/lang/invoke/VarHandle" ∧ (parseMethodDescriptor mmz.1.desc).map (fun d => d.parameters.length) = some np := ⟨hcls.1, hcls.2, hpar⟩
          refine kSized fun hsz => ?_
          have hpre : ∀ U : State, U.heap = H → s.WarmedH U.vm → kPc ad cT D B0 (kXp adK adV B0) as S (as.map (kcv ad)).toArray U := by
            intro U hU hW
            refine ⟨rfl, by rw [hU]; exact hrep, by rw [hU]; omega, by rw [hU]; exact Nat.le_trans hB hS.1, kK.warm hW hK, hXK.2 s U hW (fun q hq => ?_) hX⟩
            rw [hU]
            exact hS.2.1 q (Nat.lt_of_lt_of_le hq hB) (Nat.not_le.mpr hq)
          have hfin : ∀ (H1 : Heap) (locs1 : List Loc), kRep ad cT D S2 H1 → va_S (fun q => B0 ≤ q) s.heap H1 locs1 → W p l e R s m args below meth c H1 locs1 (S.1.2.1 - c0 + (S2.1.2.1 - S.1.2.1)) (S.1.2.2 - s0 + (S2.1.2.2 - S.1.2.2)) Q (F0 m (pc + len) ls ((v1.map (kcv ad)).toList ++ rest.map (kcv ad))) := by
            intro H1 locs1 r1 r2
            rw [ecells, eslots]
            have e1 : (v1.map (kcv ad)).toList ++ rest.map (kcv ad) = (v1.toList ++ rest).map (kcv ad) := by cases v1 <;> simp
            rw [e1]
            exact ih h hy hx hb hts hK hX hown hml hin hB hEx hTb hRf hRl hc0 (Nat.le_trans hc1 cu1.1) (Nat.le_trans hs1 cu1.2) hfc hfs hexit r1 r2 hL
          by_cases h12 : kow z = 12
          · have hm12 : mm.2.2.2.2 = 12 := hlaw.2 h12
            obtain ⟨hh, hwd, htb, hk9⟩ := kW_word hz (by rw [← hzo]; exact h12) hzl
            have M := kMv hAd hXK ih hc hz hwd htb hzl hok
            have hkind : kind = 1 := Option.some.inj (hkd.symm.trans hk9)
            subst hkind
            rcases hins with ⟨-, h0⟩ | ⟨rfl, -⟩ | ⟨-, h0⟩
            · exact absurd h0 (by decide)
            · obtain rfl : len = 3 := by
                rcases hlen with h | h
                · exact h.symm
                · exact absurd (show (3 : Nat) = 0 from h) (by decide)
              have hstat := hk1 hkd
              have hlenA : (as.map (kcv ad)).length = np := by
                have := hrev.2
                simp at this
                simp; omega
              have hPS : PreS s H (kPc ad cT D B0 (kXp adK adV B0) as S) (as.map (kcv ad)) := ⟨kFB hXK _ S, hpre⟩
              have hl0 : Cond.methodLink (kRn mm.2.2.2.2) ix mmz.1 ∈ kT := by
                rw [hm12] at hlink ⊢
                exact kL_link hlink
              have cw : vx_CSW R s args (kRn mm.2.2.2.2) ix mmz.1 mmz.2.1 mmz.2.2.1 mmz.2.2.2.1 hh (Cond.codeWith mmz.1 mmz.2.1 mmz.2.2.1 mmz.2.2.2.1 hh :: kT) (kRm d' (S2.1.2.1 - S.1.2.1) (S2.1.2.2 - S.1.2.2)) (S2.1.2.1 - S.1.2.1) (S2.1.2.2 - S.1.2.2) np :=
                ⟨⟨rfl, rfl, hrm.1, hrm.2, pay_in hts (kGj hwd), List.mem_cons_self⟩, hts _ hwd, hts _ hini, hcls, fun sig hsig => by
                  have h2 := hpar
                  rw [hsig] at h2
                  exact (Option.some.inj h2).symm, hts _ hl0, hts _ hstat⟩
              exact kCallW (vx_runSW (n := np) hfix M cw hPS rfl hlenA hls hst hW8 hdec hroom) hS hfin
            · exact absurd h0 (by decide)
          · have hL12 : mmz.2.2.2.2 ≠ 12 := by rw [← hzo]; exact h12
            have hcd := kcode_in hz hL12
            have M := kMt hAd hXK ih hc hz hL12 hzl hok
            rcases hins with ⟨rfl, rfl⟩ | ⟨rfl, rfl⟩ | ⟨rfl, rfl⟩
            · obtain rfl : len = 3 := by
                rcases hlen with h | h
                · exact h.symm
                · exact absurd (show (3 : Nat) = 0 from h) (by decide)
              obtain ⟨hinst, hsel⟩ := hk0 hkd
              obtain ⟨a, t, rfl, hob⟩ := hrecv (by decide)
              rw [hzo] at hob
              have h12 : mmz.2.2.2.2 < 12 := by
                have := kown_lt mmz (List.mem_of_getElem? hz)
                rcases kobj_lt hob.2 with q | q
                · exact q
                · omega
              obtain ⟨⟨C, Tt, N⟩, hvw⟩ : ∃ q, vwCl[mmz.2.2.2.2]? = some q := ⟨_, List.getElem?_eq_getElem (by simpa [vwCl] using h12)⟩
              obtain ⟨-, -, -, -, -, -, hrn2, -⟩ := kCall _ C Tt N hvw
              have hC : C = mmz.1.cls := by rw [← hrn2, hrn]
              have hrc := va_recv (s := s) (H := H) hK.1 hrep.1 hvw (kobj_at hob)
              have hlenA : (t.map (kcv ad)).length = np := by
                have := hrev.2
                simp at this
                simp; omega
              have hst2 : (F0 m pc ls (st.map (kcv ad))).stack = (t.map (kcv ad)).reverse ++ .ref (ad a) :: rest.map (kcv ad) := by
                show st.map (kcv ad) = _
                rw [hst]; simp [kcv]
              have hPV : PreV s H mmz.1.cls (ad a) (kPc ad cT D B0 (kXp adK adV B0) (.ref a :: t) S) (t.map (kcv ad)) := ⟨kFB hXK _ S, by rw [← hC]; exact hrc, hpre⟩
              rcases hlink with hl | hl
              · exact kCallW (va_runV (C := mmz.1.cls) (n := np) hfix M ⟨callB_of np hts (kG_code hcd) rfl rfl rfl (hts _ hini) (hts _ hl) hp3 hrm, hts _ hinst, hts _ hsel⟩ hPV rfl hlenA hls hst2 hW8 hdec hroom) hS hfin
              · exact kCallW (va_runVN (C := mmz.1.cls) (n := np) hfix M ⟨va_cnB np hts (kG_code hcd) rfl rfl rfl (hK.2.2.2 _ hl) (hts _ hini) hp3 hrm, hts _ hinst, hts _ hsel⟩ hPV rfl hlenA hls hst2 hW8 hdec hroom) hS hfin
            · obtain rfl : len = 3 := by
                rcases hlen with h | h
                · exact h.symm
                · exact absurd (show (3 : Nat) = 0 from h) (by decide)
              have hstat := hk1 hkd
              have hlenA : (as.map (kcv ad)).length = np := by
                have := hrev.2
                simp at this
                simp; omega
              have hPS : PreS s H (kPc ad cT D B0 (kXp adK adV B0) as S) (as.map (kcv ad)) := ⟨kFB hXK _ S, hpre⟩
              rcases hlink with hl | hl
              · exact kCallW (va_runS (n := np) hfix M ⟨callB_of np hts (kG_code hcd) rfl rfl rfl (hts _ hini) (hts _ hl) hp3 hrm, hts _ hstat⟩ hPS rfl hlenA hls hst hW8 hdec hroom) hS hfin
              · exact kCallW (va_runSN (n := np) hfix M ⟨va_cnB np hts (kG_code hcd) rfl rfl rfl (hK.2.2.2 _ hl) (hts _ hini) hp3 hrm, hts _ hstat, trivial⟩ hPS rfl hlenA hls hst hW8 hdec hroom) hS hfin
            · obtain rfl : len = 3 := by
                rcases hlen with h | h
                · exact h.symm
                · exact absurd (show (3 : Nat) = 0 from h) (by decide)
              obtain ⟨hinst, hnm, hret⟩ := hk2 hkd
              obtain ⟨a, t, rfl, hob⟩ := hrecv (by decide)
              have hlenA : (t.map (kcv ad)).length = np := by
                have := hrev.2
                simp at this
                simp; omega
              have hst2 : (F0 m pc ls (st.map (kcv ad))).stack = (t.map (kcv ad)).reverse ++ .ref (ad a) :: rest.map (kcv ad) := by
                show st.map (kcv ad) = _
                rw [hst]; simp [kcv]
              have hPS : PreS s H (kPc ad cT D B0 (kXp adK adV B0) (.ref a :: t) S) (.ref (ad a) :: t.map (kcv ad)) := ⟨kFB hXK _ S, hpre⟩
              have hG := kG_code hcd
              rw [hret] at M hG
              rcases hlink with hl | hl
              · exact kCallW (va_runI (n := np) hfix M ⟨callB_of np hts hG rfl rfl rfl (hts _ hini) (hts _ hl) hp3 hrm, hnm, hts _ hinst⟩ hPS rfl hlenA hls hst2 hW8 hdec hroom) hS hfin
              · exact kCallW (va_runIN (n := np) hfix M ⟨va_cnB np hts hG rfl rfl rfl (hK.2.2.2 _ hl) (hts _ hini) hp3 hrm, hnm, hts _ hinst⟩ hPS rfl hlenA hls hst2 hW8 hdec hroom) hS hfin
end KSp
