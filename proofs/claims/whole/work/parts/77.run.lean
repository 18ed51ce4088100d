/-! methods by their runs -/
section KRun
variable {l : Launch} {sc : Nat × (Nat → Int32)} {ad : Nat → Nat} {cT : Nat → ClassId} {D : va_G} {B0 : Nat} {Xp : State → Prop}
/-- what the texts give to each frame but the law's -/
def kXK (l : Launch) (sc : Nat × (Nat → Int32)) (ad : Nat → Nat) (B0 : Nat) (Xp : State → Prop) : Prop := (∀ (p : Program) (e : Env) (R : Room) (s : State) (m : MethodId) (args : Array Value) (below : List Frame) (meth : Method) (c : Code) (own y : Nat), p.tables.exec = Jvm.exec → (∀ w ∈ kT, w.before args s = true) → s.vm.findClass (kRn own) = some m.cls → own < 14 → 10 ≤ R.frames → 200 ≤ R.locals → B0 ≤ s.heap.size → Xp s → y ≠ kLaw → kExt ad B0 sc own y p l e R s m args below meth c) ∧
  (∀ (s U : State), s.WarmedH U.vm → (∀ q, q < B0 → U.heap[q]? = s.heap[q]?) → Xp s → Xp U)
theorem kFB (hXK : kXK l sc ad B0 Xp) (As : List Value) (S : kS) : FrameBlind (kPc ad cT D B0 Xp As S) := by
  intro a U g mk ⟨h1, h2, h3, h4, h5, h6⟩
  exact ⟨h1, h2, h3, h4, kK.same (u := U) (U := U.calling g mk a) rfl h5, hXK.2 U (U.calling g mk a) (State.WarmedH.refl U) (fun _ _ => rfl) h6⟩
theorem kMet (hAd : ∀ a, a < 1000 → ad a = B0 + a) (hXK : kXK l sc ad B0 Xp) {n : Nat} (ih : kGo l sc ad cT D B0 Xp n) {d z : Nat} {As : List Value} {S S' : kS} {v : Option Value} (hrun : krun sc n d z 0 (kpad (kmx z) As) [] S = some (some v, S')) {mm : kM} (hz : kms[z]? = some mm) (hL : mm.2.2.2.2 ≠ 12) (hzl : z ≠ kLaw) (ha : kaok z As = true) :
    Met l mm.1 (Cond.code mm.1 mm.2.1 mm.2.2.1 mm.2.2.2.1 :: kT) (kRm d (S'.1.2.1 - S.1.2.1) (S'.1.2.2 - S.1.2.2)) (kPc ad cT D B0 Xp As S) (kQr ad cT D B0 v S') (S'.1.2.1 - S.1.2.1) (S'.1.2.2 - S.1.2.2) (fun q => B0 ≤ q) := by
  obtain ⟨-, -, hpl, hm15, hrn, -, -, -⟩ := kZw hz hzl
  have hmx : kmx z = mm.2.2.1 := by unfold kmx; rw [hz]
  rw [kaok, Bool.and_eq_true, decide_eq_true_eq] at ha
  have hcu := krun_cu hrun
  refine Met.ofW (cc := mm.2.1) (maxL := mm.2.2.1) (ret := mm.2.2.2.1) hpl rfl ?_
  intro p e s m args below meth c s₁ B hml hv
  obtain ⟨rfl, hrep, hsz, hB, hK, hX⟩ := hv
  have hx := B.exec
  have hb := B.bytes
  have hr := B.returns
  have hts0 := atoms_spec (ws := Cond.code mm.1 mm.2.1 mm.2.2.1 mm.2.2.2.1 :: kT) B.pre
  have hts : ∀ w ∈ kT, w.before (As.map (kcv ad)).toArray s = true := fun w hw => hts0 w (List.mem_cons_of_mem _ hw)
  have hown : s.vm.findClass mm.1.cls = some m.cls := findClass_of_methodNamed B.named
  have hlocks := B.notSynchronized
  have hin : meth.name = mm.1.name := (name_of_methodNamed B.named B.method).1
  have ho := kown_lt mm (List.mem_of_getElem? hz)
  rw [lg_entry_eq]
  have hls := kentry (ad := ad) (vs := As) (n := kmx z) ha.1 ha.2
  rw [hmx] at hls hrun
  have hS : va_S (fun q => B0 ≤ q) s.heap s.heap [] := va_S.rf
  have key := ih hrun hz (p := p) (e := e) (R := kRm d (S'.1.2.1 - S.1.2.1) (S'.1.2.2 - S.1.2.2)) (s := s) (m := m) (args := (As.map (kcv ad)).toArray) (below := below) (meth := meth) (c := c) (Q := MQ below (kQr ad cT D B0 v S') (As.map (kcv ad)).toArray s (S'.1.2.1 - S.1.2.1) (S'.1.2.2 - S.1.2.2) (fun q => B0 ≤ q)) hx hb hts hK hX (by rw [hrn]; exact hown) (by rw [hml, kpad_len]) (fun h => hin.trans h) hB
    (hXK.1 p e _ s m _ below meth c _ z hx hts (by rw [hrn]; exact hown) ho (by show 10 ≤ d + 10; omega) (by show 200 ≤ 40 * d + 200; omega) hB hX hzl) (Nat.le_refl _) (Nat.le_refl _) (c0 := S.1.2.1) (s0 := S.1.2.2) hsz (Nat.le_refl _) (Nat.le_refl _) (Nat.le_refl _) (Nat.le_refl _) ?_ hrep hS hls
  · rw [Nat.sub_self, Nat.sub_self] at key
    exact key
  · intro pc2 I ls2 H2 locs2 hf h24 he hrep2 hS2
    have hF : ∀ t : State, t.heap = H2 → va_F (fun q => B0 ≤ q) s t := fun t ht => ⟨by rw [ht]; exact hS2.1, fun q h1 h2 => by rw [ht]; exact hS2.2.1 q h1 h2⟩
    rcases kret_inv hz hf h24 he with ⟨hv, hrt, hd⟩ | ⟨x, hv, hrt, hd⟩ | ⟨x, hv, hk, hrt, hd⟩ | ⟨x, hv, hrt, hd⟩
    · have e0 : v = none := by cases v with | none => rfl | some w => simp at hv
      subst e0
      exact W.vret hx hb (by rw [hr, hrt]) (fun t ht _ => ⟨rfl, by rw [ht]; exact hrep2, hF t ht⟩) hS2.2.2 hd
    · have e0 : v = some (.int x) := by cases v with | none => simp at hv | some w => simpa using hv
      subst e0
      exact W.iret hx hb (by rw [hr, hrt]) (fun t ht _ => ⟨rfl, by rw [ht]; exact hrep2, hF t ht⟩) hS2.2.2 hd
    · have e0 : v = some (.int x) := by cases v with | none => simp at hv | some w => simpa using hv
      subst e0
      exact W.zret hx hb (by rw [hr, hrt]) (kbool_nar hk) (fun t ht _ => ⟨rfl, by rw [ht]; exact hrep2, hF t ht⟩) hS2.2.2 hd
    · have e0 : v = some (.long x) := by cases v with | none => simp at hv | some w => simpa using hv
      subst e0
      exact W.lret hx hb (by rw [hr, hrt]) (fun t ht _ => ⟨rfl, by rw [ht]; exact hrep2, hF t ht⟩) hS2.2.2 hd
theorem kpop_rev : ∀ {n : Nat} {acc st as rest : List Value}, kpop n acc st = some (as, rest) → as.reverse ++ rest = acc.reverse ++ st ∧ as.length = acc.length + n
  | 0, acc, st, as, rest, h => by cases h; exact ⟨rfl, rfl⟩
  | n + 1, acc, [], as, rest, h => by cases h
  | n + 1, acc, v :: st, as, rest, h => by
    obtain ⟨h1, h2⟩ := kpop_rev (n := n) h
    exact ⟨by rw [h1]; simp, by rw [h2]; simp; omega⟩
end KRun
