/-! every run, once more: with what the frame's table of handlers is -/
section KAgain
variable {l : Launch} {sc : Nat × (Nat → Int32)} {ad : Nat → Nat} {cT : Nat → ClassId} {D : va_G} {B0 : Nat} {Xp : State → Prop}
def kTab (y : Nat) (c : Code) : Prop := ((y = 257 ∨ y = 258) → c.exceptionTable.toList = tableOf [(0, 10, 13, 13)] ∧ c.maxLocals = 5) ∧ (y = 259 → c.exceptionTable.toList = tableOf [(0, 8, 11, 13)] ∧ c.maxLocals = 4)
theorem kow_L : ∀ y ∈ [257, 258, 259], kow y = 12 := by decide +kernel
theorem kTab_of {y : Nat} {mm : kM} {c : Code} (hy : kms[y]? = some mm) (hL : mm.2.2.2.2 ≠ 12) : kTab y c := by
  have h : ∀ k ∈ [257, 258, 259], y ≠ k := by
    intro k hk e
    subst e
    have := kow_L y hk
    unfold kow at this
    rw [hy] at this
    exact hL this
  exact ⟨fun q => by rcases q with q | q <;> exact absurd q (h _ (by simp)), fun q => absurd q (h _ (by simp))⟩
def kGt (l : Launch) (sc : Nat × (Nat → Int32)) (ad : Nat → Nat) (cT : Nat → ClassId) (D : va_G) (B0 : Nat) (Xp : State → Prop) (n : Nat) : Prop :=
  ∀ {d y pc : Nat} {L st : List Value} {S S' : kS} {v : Option Value}, krun sc n d y pc L st S = some (some v, S') →
  ∀ {mm : kM}, kms[y]? = some mm → ∀ {p : Program} {e : Env} {R : Room} {s : State} {m : MethodId} {args : Array Value} {below : List Frame} {meth : Method} {c : Code} {Q : State → Prop},
  p.tables.exec = Jvm.exec → c.code = mm.2.1 → (∀ w ∈ kT, w.before args s = true) → kK cT D s → Xp s → s.vm.findClass (kRn mm.2.2.2.2) = some m.cls → c.maxLocals = L.length → (mm.1.name = "<init>" → meth.name = "<init>") → B0 ≤ s.heap.size → kExt ad B0 sc mm.2.2.2.2 y p l e R s m args below meth c → kTab y c →
  d + 10 ≤ R.frames → 40 * d + 200 ≤ R.locals → ∀ {c0 s0 : Nat}, s.heap.size ≤ B0 + c0 → c0 ≤ S.1.2.1 → s0 ≤ S.1.2.2 → S'.1.2.1 - c0 ≤ R.cells → S'.1.2.2 - s0 ≤ R.slots →
  (∀ (pc2 : Nat) (I : kI) (ls2 : Array Slot) (H2 : Heap) (locs2 : List Loc), kfetch y pc2 = some I → I.1 = 24 → ks24 I.2.2.1 v.toList S' = some (.inl (some v, S')) → kRep ad cT D S' H2 → va_S (fun q => B0 ≤ q) s.heap H2 locs2 → W p l e R s m args below meth c H2 locs2 (S'.1.2.1 - c0) (S'.1.2.2 - s0) Q (F0 m pc2 ls2 (v.toList.map (kcv ad)))) →
  ∀ {ls : Array Slot} {H : Heap} {locs : List Loc}, kRep ad cT D S H → va_S (fun q => B0 ≤ q) s.heap H locs → kLv ad ls L → W p l e R s m args below meth c H locs (S.1.2.1 - c0) (S.1.2.2 - s0) Q (F0 m pc ls (st.map (kcv ad)))
theorem kMt (hAd : ∀ a, a < 1000 → ad a = B0 + a) (hXK : kXK l sc ad B0 Xp) {n : Nat} (ih : kGt l sc ad cT D B0 Xp n) {d z : Nat} {As : List Value} {S S' : kS} {v : Option Value} (hrun : krun sc n d z 0 (kpad (kmx z) As) [] S = some (some v, S')) {mm : kM} (hz : kms[z]? = some mm) (hL : mm.2.2.2.2 ≠ 12) (hzl : z ≠ kLaw) (ha : kaok z As = true) :
    Met l mm.1 (Cond.code mm.1 mm.2.1 mm.2.2.1 mm.2.2.2.1 :: kT) (kRm d (S'.1.2.1 - S.1.2.1) (S'.1.2.2 - S.1.2.2)) (kPc ad cT D B0 Xp As S) (kQr ad cT D B0 v S') (S'.1.2.1 - S.1.2.1) (S'.1.2.2 - S.1.2.2) (fun q => B0 ≤ q) := by
  obtain ⟨-, -, hpl, hm15, hrn, -, -, -⟩ := kZw hz hzl
  have hmx : kmx z = mm.2.2.1 := by unfold kmx; rw [hz]
  rw [kaok, Bool.and_eq_true, decide_eq_true_eq] at ha
  have hcu := krun_cu hrun
  refine Met.ofW (cc := mm.2.1) (maxL := mm.2.2.1) (ret := mm.2.2.2.1) hpl rfl ?_
  intro p e s m args below meth c s₁ B hml hv
  obtain ⟨rfl, hrep, hsz, hB, hK, hX⟩ := hv
  have hx := B.exec
  have hb := B.bytes
  have hr := B.returns
  have hts0 := atoms_spec (ws := Cond.code mm.1 mm.2.1 mm.2.2.1 mm.2.2.2.1 :: kT) B.pre
  have hts : ∀ w ∈ kT, w.before (As.map (kcv ad)).toArray s = true := fun w hw => hts0 w (List.mem_cons_of_mem _ hw)
  have hown : s.vm.findClass mm.1.cls = some m.cls := findClass_of_methodNamed B.named
  have hlocks := B.notSynchronized
  have hin : meth.name = mm.1.name := (name_of_methodNamed B.named B.method).1
  have ho := kown_lt mm (List.mem_of_getElem? hz)
  rw [lg_entry_eq]
  have hls := kentry (ad := ad) (vs := As) (n := kmx z) ha.1 ha.2
  rw [hmx] at hls hrun
  have hS : va_S (fun q => B0 ≤ q) s.heap s.heap [] := va_S.rf
  have key := ih hrun hz (p := p) (e := e) (R := kRm d (S'.1.2.1 - S.1.2.1) (S'.1.2.2 - S.1.2.2)) (s := s) (m := m) (args := (As.map (kcv ad)).toArray) (below := below) (meth := meth) (c := c) (Q := MQ below (kQr ad cT D B0 v S') (As.map (kcv ad)).toArray s (S'.1.2.1 - S.1.2.1) (S'.1.2.2 - S.1.2.2) (fun q => B0 ≤ q)) hx hb hts hK hX (by rw [hrn]; exact hown) (by rw [hml, kpad_len]) (fun h => hin.trans h) hB
    (hXK.1 p e _ s m _ below meth c _ z hx hts (by rw [hrn]; exact hown) ho (by show 10 ≤ d + 10; omega) (by show 200 ≤ 40 * d + 200; omega) hB hX hzl) (kTab_of hz hL) (Nat.le_refl _) (Nat.le_refl _) (c0 := S.1.2.1) (s0 := S.1.2.2) hsz (Nat.le_refl _) (Nat.le_refl _) (Nat.le_refl _) (Nat.le_refl _) ?_ hrep hS hls
  · rw [Nat.sub_self, Nat.sub_self] at key
    exact key
  · intro pc2 I ls2 H2 locs2 hf h24 he hrep2 hS2
    have hF : ∀ t : State, t.heap = H2 → va_F (fun q => B0 ≤ q) s t := fun t ht => ⟨by rw [ht]; exact hS2.1, fun q h1 h2 => by rw [ht]; exact hS2.2.1 q h1 h2⟩
    rcases kret_inv hz hf h24 he with ⟨hv, hrt, hd⟩ | ⟨x, hv, hrt, hd⟩ | ⟨x, hv, hk, hrt, hd⟩ | ⟨x, hv, hrt, hd⟩
    · have e0 : v = none := by cases v with | none => rfl | some w => simp at hv
      subst e0
      exact W.vret hx hb (by rw [hr, hrt]) (fun t ht _ => ⟨rfl, by rw [ht]; exact hrep2, hF t ht⟩) hS2.2.2 hd
    · have e0 : v = some (.int x) := by cases v with | none => simp at hv | some w => simpa using hv
      subst e0
      exact W.iret hx hb (by rw [hr, hrt]) (fun t ht _ => ⟨rfl, by rw [ht]; exact hrep2, hF t ht⟩) hS2.2.2 hd
    · have e0 : v = some (.int x) := by cases v with | none => simp at hv | some w => simpa using hv
      subst e0
      exact W.zret hx hb (by rw [hr, hrt]) (kbool_nar hk) (fun t ht _ => ⟨rfl, by rw [ht]; exact hrep2, hF t ht⟩) hS2.2.2 hd
    · have e0 : v = some (.long x) := by cases v with | none => simp at hv | some w => simpa using hv
      subst e0
      exact W.lret hx hb (by rw [hr, hrt]) (fun t ht _ => ⟨rfl, by rw [ht]; exact hrep2, hF t ht⟩) hS2.2.2 hd
def kSpt (l : Launch) (sc : Nat × (Nat → Int32)) (ad : Nat → Nat) (cT : Nat → ClassId) (D : va_G) (B0 : Nat) (Xp : State → Prop) (n : Nat) : Prop :=
  ∀ {d y pc : Nat} {L st : List Value} {S S' : kS} {v : Option Value}, krun sc (n + 1) d y pc L st S = some (some v, S') → ∀ {I : kI}, kfetch y pc = some I → I.1 = 23 → (kow I.2.1 = 12 ∨ I.2.2.2.2.2 ≠ []) →
  ∀ {mm : kM}, kms[y]? = some mm → ∀ {p : Program} {e : Env} {R : Room} {s : State} {m : MethodId} {args : Array Value} {below : List Frame} {meth : Method} {c : Code} {Q : State → Prop},
  p.tables.exec = Jvm.exec → c.code = mm.2.1 → (∀ w ∈ kT, w.before args s = true) → kK cT D s → Xp s → s.vm.findClass (kRn mm.2.2.2.2) = some m.cls → c.maxLocals = L.length → (mm.1.name = "<init>" → meth.name = "<init>") → B0 ≤ s.heap.size → kExt ad B0 sc mm.2.2.2.2 y p l e R s m args below meth c → kTab y c →
  d + 10 ≤ R.frames → 40 * d + 200 ≤ R.locals → ∀ {c0 s0 : Nat}, s.heap.size ≤ B0 + c0 → c0 ≤ S.1.2.1 → s0 ≤ S.1.2.2 → S'.1.2.1 - c0 ≤ R.cells → S'.1.2.2 - s0 ≤ R.slots →
  (∀ (pc2 : Nat) (I : kI) (ls2 : Array Slot) (H2 : Heap) (locs2 : List Loc), kfetch y pc2 = some I → I.1 = 24 → ks24 I.2.2.1 v.toList S' = some (.inl (some v, S')) → kRep ad cT D S' H2 → va_S (fun q => B0 ≤ q) s.heap H2 locs2 → W p l e R s m args below meth c H2 locs2 (S'.1.2.1 - c0) (S'.1.2.2 - s0) Q (F0 m pc2 ls2 (v.toList.map (kcv ad)))) →
  ∀ {ls : Array Slot} {H : Heap} {locs : List Loc}, kRep ad cT D S H → va_S (fun q => B0 ≤ q) s.heap H locs → kLv ad ls L → W p l e R s m args below meth c H locs (S.1.2.1 - c0) (S.1.2.2 - s0) Q (F0 m pc ls (st.map (kcv ad)))
set_option maxHeartbeats 4000000 in
theorem kBt (hAd : ∀ a, a < 1000 → ad a = B0 + a) (hXK : kXK l sc ad B0 Xp) (hSp : ∀ n, kGt l sc ad cT D B0 Xp n → kSpt l sc ad cT D B0 Xp n) : ∀ n, kGt l sc ad cT D B0 Xp n := by
  intro n
  induction n with
  | zero => intro d y pc L st S S' v h; simp [krun] at h
  | succ n ih =>
    intro d y pc L st S S' v h mm hy p e R s m args below meth c Q hx hb hts hK hX hown hml hin hB hEx hTb hRf hRl c0 s0 hc0 hc1 hs1 hfc hfs hexit ls H locs hrep hS hL
    have h0 := h
    rw [krun] at h
    cases hf : kfetch y pc with
    | none => rw [hf] at h; simp at h
    | some I =>
      rw [hf] at h
      simp only at h
      cases hs : kstep sc I L st S with
      | none => rw [hs] at h; simp at h
      | some c' =>
        rw [hs] at h
        have ho := kown_lt mm (List.mem_of_getElem? hy)
        obtain ⟨ins, len, hdec, hlen, htr⟩ := kfetch_inv hy hf
        rcases kstep_kind hs with ⟨h24, h1⟩ | ⟨h23, h1⟩ | ⟨h26, h1⟩ | ⟨⟨pc2, L2, st2, S2⟩, rfl, h2, h3⟩
        · obtain ⟨v', rfl, hst⟩ := ks24_end h1
          cases h
          subst hst
          exact hexit pc I ls H locs hf h24 h1 hrep hS
        · by_cases hsp : kow I.2.1 = 12 ∨ I.2.2.2.2.2 ≠ []
          · exact hSp n ih h0 hf h23 hsp hy hx hb hts hK hX hown hml hin hB hEx hTb hRf hRl hc0 hc1 hs1 hfc hfs hexit hrep hS hL
          · have hk12 : kow I.2.1 ≠ 12 := fun q => hsp (Or.inl q)
            have hdn : I.2.2.2.2.2 = [] := by
              cases hq : I.2.2.2.2.2 with
              | nil => rfl
              | cons a t => exact absurd (Or.inr (by rw [hq]; simp)) hsp
            obtain ⟨as, rest, rfl, hpop, h8, hok, hrecv⟩ := ks23_call h1
            simp only at h
            cases d with
            | zero => simp at h
            | succ d' =>
              simp only at h
              cases hc : krun sc n d' I.2.1 0 (kpad (kmx I.2.1) as) [] S with
              | none => rw [hc] at h; simp at h
              | some q =>
                rw [hc] at h
                obtain ⟨_ | v1, S2⟩ := q
                · rw [hdn] at h; simp at h
                · simp only at h
                  obtain ⟨ix, z, np, nest, kind, hins, hlk, hnp, hkd, rfl⟩ := kinv_inv htr h23
                  simp only at hc h hok hk12 hpop hrecv
                  obtain ⟨mmz, hz, hpar, hlink⟩ := (kMw ho hlk).2 hnp
                  have hzl : z ≠ kLaw := by
                    intro q
                    rw [q] at hk12
                    exact hk12 (by decide +kernel)
                  have hzo : kow z = mmz.2.2.2.2 := by unfold kow; rw [hz]
                  have hL12 : mmz.2.2.2.2 ≠ 12 := by rw [← hzo]; exact hk12
                  obtain ⟨hini, hcls, -, hm15, hrn, hk0, hk1, hk2⟩ := kZw hz hzl
                  have hcd := kcode_in hz hL12
                  have M := kMt hAd hXK ih hc hz hL12 hzl hok
                  have cu1 := krun_cu hc
                  have cu2 := krun_cu h
                  have ecells : S.1.2.1 - c0 + (S2.1.2.1 - S.1.2.1) = S2.1.2.1 - c0 := by have : S.1.2.1 ≤ S2.1.2.1 := cu1.1; omega
                  have eslots : S.1.2.2 - s0 + (S2.1.2.2 - S.1.2.2) = S2.1.2.2 - s0 := by have : S.1.2.2 ≤ S2.1.2.2 := cu1.2; omega
                  have hroom : S.1.2.1 - c0 + (S2.1.2.1 - S.1.2.1) ≤ R.cells ∧ S.1.2.2 - s0 + (S2.1.2.2 - S.1.2.2) ≤ R.slots := by
                    rw [ecells, eslots]
                    have := cu2.1
                    have := cu2.2
                    constructor
                    · exact Nat.le_trans (Nat.sub_le_sub_right cu2.1 _) hfc
                    · exact Nat.le_trans (Nat.sub_le_sub_right cu2.2 _) hfs
                  have hrm : (kRm d' (S2.1.2.1 - S.1.2.1) (S2.1.2.2 - S.1.2.2)).frames + 1 ≤ R.frames ∧ 8 + (mmz.2.2.1 + 11) + (kRm d' (S2.1.2.1 - S.1.2.1) (S2.1.2.2 - S.1.2.2)).locals ≤ R.locals := by
                    constructor
                    · show d' + 10 + 1 ≤ _; omega
                    · show 8 + (mmz.2.2.1 + 11) + (40 * d' + 200) ≤ _; omega
                  have hls : ls.size = L.length := hL.1
                  have hrev := kpop_rev hpop
                  simp only [List.reverse_nil, List.nil_append, List.length_nil, Nat.zero_add] at hrev
                  have hst : st.map (kcv ad) = (as.map (kcv ad)).reverse ++ rest.map (kcv ad) := by rw [← hrev.1]; simp
                  have hW8 : 2 * (F0 m pc ls (st.map (kcv ad))).monitorRoom + ((rest.map (kcv ad)).map fun v => v.category).sum ≤ 8 := lv_room (kcat_sum h8)
                  have hfix : CallFix p m c mm.2.1 L.length s args kT (kRn mm.2.2.2.2) := ⟨hx, hb, hml, hown, hts⟩
                  have hp3 : mmz.1.cls ≠ "java/lang/invoke/MethodHandle" ∧ mmz.1.cls ≠ "java/lang/invoke/VarHandle" ∧ (parseMethodDescriptor mmz.1.desc).map (fun d => d.parameters.length) = some np := ⟨hcls.1, hcls.2, hpar⟩
                  refine kSized fun hsz => ?_
                  have hpre : ∀ U : State, U.heap = H → s.WarmedH U.vm → kPc ad cT D B0 Xp as S (as.map (kcv ad)).toArray U := by
                    intro U hU hW
                    refine ⟨rfl, by rw [hU]; exact hrep, by rw [hU]; omega, by rw [hU]; exact Nat.le_trans hB hS.1, kK.warm hW hK, hXK.2 s U hW (fun q hq => ?_) hX⟩
                    rw [hU]
                    exact hS.2.1 q (Nat.lt_of_lt_of_le hq hB) (Nat.not_le.mpr hq)
                  have hfin : ∀ (H1 : Heap) (locs1 : List Loc), kRep ad cT D S2 H1 → va_S (fun q => B0 ≤ q) s.heap H1 locs1 → W p l e R s m args below meth c H1 locs1 (S.1.2.1 - c0 + (S2.1.2.1 - S.1.2.1)) (S.1.2.2 - s0 + (S2.1.2.2 - S.1.2.2)) Q (F0 m (pc + len) ls ((v1.map (kcv ad)).toList ++ rest.map (kcv ad))) := by
                    intro H1 locs1 r1 r2
                    rw [ecells, eslots]
                    have e1 : (v1.map (kcv ad)).toList ++ rest.map (kcv ad) = (v1.toList ++ rest).map (kcv ad) := by cases v1 <;> simp
                    rw [e1]
                    exact ih h hy hx hb hts hK hX hown hml hin hB hEx hTb hRf hRl hc0 (Nat.le_trans hc1 cu1.1) (Nat.le_trans hs1 cu1.2) hfc hfs hexit r1 r2 hL
                  rcases hins with ⟨rfl, rfl⟩ | ⟨rfl, rfl⟩ | ⟨rfl, rfl⟩
                  · obtain rfl : len = 3 := by
                      rcases hlen with h | h
                      · exact h.symm
                      · exact absurd (show (3 : Nat) = 0 from h) (by decide)
                    obtain ⟨hinst, hsel⟩ := hk0 hkd
                    obtain ⟨a, t, rfl, hob⟩ := hrecv (by decide)
                    rw [hzo] at hob
                    have h12 : mmz.2.2.2.2 < 12 := by
                      have := kown_lt mmz (List.mem_of_getElem? hz)
                      rcases kobj_lt hob.2 with q | q
                      · exact q
                      · omega
                    obtain ⟨⟨C, Tt, N⟩, hvw⟩ : ∃ q, vwCl[mmz.2.2.2.2]? = some q := ⟨_, List.getElem?_eq_getElem (by simpa [vwCl] using h12)⟩
                    obtain ⟨-, -, -, -, -, -, hrn2, -⟩ := kCall _ C Tt N hvw
                    have hC : C = mmz.1.cls := by rw [← hrn2, hrn]
                    have hrc := va_recv (s := s) (H := H) hK.1 hrep.1 hvw (kobj_at hob)
                    have hlenA : (t.map (kcv ad)).length = np := by
                      have := hrev.2
                      simp at this
                      simp; omega
                    have hst2 : (F0 m pc ls (st.map (kcv ad))).stack = (t.map (kcv ad)).reverse ++ .ref (ad a) :: rest.map (kcv ad) := by
                      show st.map (kcv ad) = _
                      rw [hst]; simp [kcv]
                    have hPV : PreV s H mmz.1.cls (ad a) (kPc ad cT D B0 Xp (.ref a :: t) S) (t.map (kcv ad)) := ⟨kFB hXK _ S, by rw [← hC]; exact hrc, hpre⟩
                    rcases hlink with hl | hl
                    · exact kCallW (va_runV (C := mmz.1.cls) (n := np) hfix M ⟨callB_of np hts (kG_code hcd) rfl rfl rfl (hts _ hini) (hts _ hl) hp3 hrm, hts _ hinst, hts _ hsel⟩ hPV rfl hlenA hls hst2 hW8 hdec hroom) hS hfin
                    · exact kCallW (va_runVN (C := mmz.1.cls) (n := np) hfix M ⟨va_cnB np hts (kG_code hcd) rfl rfl rfl (hK.2.2.2 _ hl) (hts _ hini) hp3 hrm, hts _ hinst, hts _ hsel⟩ hPV rfl hlenA hls hst2 hW8 hdec hroom) hS hfin
                  · obtain rfl : len = 3 := by
                      rcases hlen with h | h
                      · exact h.symm
                      · exact absurd (show (3 : Nat) = 0 from h) (by decide)
                    have hstat := hk1 hkd
                    have hlenA : (as.map (kcv ad)).length = np := by
                      have := hrev.2
                      simp at this
                      simp; omega
                    have hPS : PreS s H (kPc ad cT D B0 Xp as S) (as.map (kcv ad)) := ⟨kFB hXK _ S, hpre⟩
                    rcases hlink with hl | hl
                    · exact kCallW (va_runS (n := np) hfix M ⟨callB_of np hts (kG_code hcd) rfl rfl rfl (hts _ hini) (hts _ hl) hp3 hrm, hts _ hstat⟩ hPS rfl hlenA hls hst hW8 hdec hroom) hS hfin
                    · exact kCallW (va_runSN (n := np) hfix M ⟨va_cnB np hts (kG_code hcd) rfl rfl rfl (hK.2.2.2 _ hl) (hts _ hini) hp3 hrm, hts _ hstat, trivial⟩ hPS rfl hlenA hls hst hW8 hdec hroom) hS hfin
                  · obtain rfl : len = 3 := by
                      rcases hlen with h | h
                      · exact h.symm
                      · exact absurd (show (3 : Nat) = 0 from h) (by decide)
                    obtain ⟨hinst, hnm, hret⟩ := hk2 hkd
                    obtain ⟨a, t, rfl, hob⟩ := hrecv (by decide)
                    have hlenA : (t.map (kcv ad)).length = np := by
                      have := hrev.2
                      simp at this
                      simp; omega
                    have hst2 : (F0 m pc ls (st.map (kcv ad))).stack = (t.map (kcv ad)).reverse ++ .ref (ad a) :: rest.map (kcv ad) := by
                      show st.map (kcv ad) = _
                      rw [hst]; simp [kcv]
                    have hPS : PreS s H (kPc ad cT D B0 Xp (.ref a :: t) S) (.ref (ad a) :: t.map (kcv ad)) := ⟨kFB hXK _ S, hpre⟩
                    have hG := kG_code hcd
                    rw [hret] at M hG
                    rcases hlink with hl | hl
                    · exact kCallW (va_runI (n := np) hfix M ⟨callB_of np hts hG rfl rfl rfl (hts _ hini) (hts _ hl) hp3 hrm, hnm, hts _ hinst⟩ hPS rfl hlenA hls hst2 hW8 hdec hroom) hS hfin
                    · exact kCallW (va_runIN (n := np) hfix M ⟨va_cnB np hts hG rfl rfl rfl (hK.2.2.2 _ hl) (hts _ hini) hp3 hrm, hnm, hts _ hinst⟩ hPS rfl hlenA hls hst2 hW8 hdec hroom) hS hfin
        · obtain ⟨-, h1⟩ := kif_inj h1
          cases h1
          cases h
        · have cu2 := krun_cu h
          exact kSim hAd hx ho hb hts hK hown hml hin hB hEx (by omega) (by omega) hc0 hc1 hs1 (Nat.le_trans (Nat.sub_le_sub_right cu2.1 _) hfc) (Nat.le_trans (Nat.sub_le_sub_right cu2.2 _) hfs) hrep hS hL ins hdec hlen htr hs
            (fun ls' H' locs' r1 r2 r3 r4 => ih h hy hx hb hts hK hX hown (by rw [hml, r4]) hin hB hEx hTb hRf hRl hc0 (Nat.le_trans hc1 h2) (Nat.le_trans hs1 h3) hfc hfs hexit r1 r2 r3)
end KAgain
