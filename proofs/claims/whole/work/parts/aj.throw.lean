/-! a throw out of a method of the council -/
def kEw : List Cond := (kEa "HatAtCouncil" 130).filter vx_no
def kEf : List Cond := Cond.castable kEx kEx :: kEw.filter (fun w => !goodWord w)
theorem kEf_f : ∀ w ∈ kEf, (w.faceAtom && w.onTables) = true := by decide +kernel
set_option maxRecDepth 100000 in
theorem kEf_t : ∀ w ∈ kEf, w ∈ lw_tbl := by decide +kernel
set_option maxRecDepth 100000 in
theorem kEw_t : ∀ w ∈ kEw, w ∈ lw_tbl := by decide +kernel
theorem kEw_o : ∀ w ∈ Cond.classLink "HatAtCouncil" 126 kEx :: Cond.initialized kEx :: kEw, vx_ot w = true := by decide +kernel
set_option maxRecDepth 100000 in
theorem kE_cl : Cond.classLink "HatAtCouncil" 126 kEx ∈ kT := kT_of (by decide +kernel) rfl
set_option maxRecDepth 100000 in
theorem kE_cll : Cond.classLink "HatAtCouncilLaw" 13 kEx ∈ kT := kT_of (by decide +kernel) rfl
set_option maxRecDepth 100000 in
theorem kE_in : Cond.initialized kEx ∈ kT := kT_of (by decide +kernel) rfl
theorem kface {args a' : Array Value} {s U : State} {w : Cond} (hW : s.WarmedH U.vm) (hf : (w.faceAtom && w.onTables) = true) (h : w.before args s = true) : w.before a' U = true := by
  rw [Bool.and_eq_true] at hf
  exact va_tabs (u := s.setVm U.vm) hf.2 rfl (Cond.faceAtom_setVm hW.alike w hf.1 h)
def kXq (B0 : Nat) (U : State) : Prop := vx_Zq Bundle.tN "UNASSIGNED_STACK" Bundle.steD (fun q => B0 ≤ q) U U.heap ∧ vx_Zq Bundle.tN "SUPPRESSED_SENTINEL" Bundle.listD (fun q => B0 ≤ q) U U.heap ∧ ∀ w ∈ kEf, ∀ a' : Array Value, w.before a' U = true
theorem kXq.move {B0 : Nat} {s U : State} (hW : s.WarmedH U.vm) (hh : ∀ q, q < B0 → U.heap[q]? = s.heap[q]?) (h : kXq B0 s) : kXq B0 U := by
  have hk : ∀ a : Nat, a < s.heap.size → ¬ B0 ≤ a → U.heap[a]? = s.heap[a]? := fun a _ h2 => hh a (Nat.not_le.mp h2)
  exact ⟨vx_Zq.moved hW.alike (h.1.kept hk), vx_Zq.moved hW.alike (h.2.1.kept hk), fun w hw a' => kface hW (kEf_f w hw) (h.2.2 w hw #[])⟩
theorem kEw_at {B0 : Nat} {args : Array Value} {s : State} (hts : ∀ w ∈ kT, w.before args s = true) (h : kXq B0 s) : ∀ w ∈ kEw, w.before args s = true :=
  vx_hat (B := kEf) (fun w hw => hts w (kT_of (kEw_t w (List.mem_filter.mp hw).1) (List.mem_filter.mp hw).2)) (fun w hw => List.mem_cons_of_mem _ hw) (fun w hw => h.2.2 w hw args)
section KThrow
variable {p : Program} {l : Launch} {e : Env} {R : Room} {s : State} {m : MethodId} {args : Array Value} {below : List Frame} {meth : Method} {c : Code} {H : Heap} {locs : List Loc} {cells slots : Nat} {ls : Array Slot} {rest : List Value} {free : Addr → Prop} {Qc : Array Value → State → Outcome → State → Prop} {XC : String → State → State → Prop}
theorem ke_throw {B0 : Nat} {cc : ByteArray} {pc k : Nat} (hexec : p.tables.exec = Jvm.exec) (hb : c.code = cc) (hl : l.stackTraces = false) {text : String} {is sa mc ms : Nat}
    (hown : s.vm.findClass "HatAtCouncil" = some m.cls) (hts : ∀ w ∈ kT, w.before args s = true) (hstr : vk_R "HatAtCouncil" is text sa s) (hq : kXq B0 s) (hS : va_S (fun q => B0 ≤ q) s.heap H locs) (hsize : ls.size = c.maxLocals)
    (d0 : decode cc pc = .ok (.new 126, 3)) (d3 : decode cc (pc + 3) = .ok (.dup, 1)) (d4 : decode cc (pc + 4) = .ok (.ldc is, 2) ∧ k = 6 ∨ decode cc (pc + 4) = .ok (.ldc_w is, 3) ∧ k = 7) (d6 : decode cc (pc + k) = .ok (.invokespecial 130, 3)) (d9 : decode cc (pc + k + 3) = .ok (.athrow, 1))
    (hout : ∀ x ∈ c.exceptionTable.toList, False) (hRf : 5 < R.frames) (hRl : (rest.map fun v => v.category).sum + 82 ≤ R.locals) (hRc : cells + 1 ≤ R.cells) (hRs : slots + 6 ≤ R.slots) (hlocks : meth.locks = false)
    (hx : ∀ t : State, s.vm.Alike t.vm → H.size ≤ t.heap.size → (∀ q : Nat, q < H.size → t.heap[q]? = H[q]?) → XC kEx s t) (hf : ∀ z ∈ locs, free z.base) (hc : cells + 1 ≤ mc) (hs : slots + 6 ≤ ms) :
    W p l e R s m args below meth c H locs cells slots (vx_MQ below Qc XC args s mc ms free) (F0 m pc ls rest) := by
  intro T hT X
  have htr : e.platform.stackTraces = false := (show e.platform.stackTraces = l.stackTraces by rw [X.admits.platform]).trans hl
  have Y := vx_rebase X (R' := { frames := R.frames, locals := R.locals, cells := 1, slots := 6 }) (Nat.le_refl _) (Nat.le_refl _) hRc hRs
  obtain ⟨s', hA⟩ : ∃ z, z = (T.setVm s.vm).setFrames (.invoking m args :: below) := ⟨_, rfl⟩
  rw [← hA] at Y
  have hvm : s'.vm = s.vm := by rw [hA]; rfl
  have hhp : s'.heap = H := by rw [hA]; exact hT
  have hW0 : s.WarmedH s'.vm := by rw [hvm]; exact State.WarmedH.refl s
  have hat' : ∀ w ∈ kEw, w.before args s' = true := fun w hw => vx_ot_at hW0 hvm.symm (kEw_o w (List.mem_cons_of_mem _ (List.mem_cons_of_mem _ hw))) (kEw_at hts hq w hw)
  have hk' : (Cond.classLink "HatAtCouncil" 126 kEx).before args s' = true := vx_ot_at hW0 hvm.symm (kEw_o _ List.mem_cons_self) (hts _ kE_cl)
  have hini' : (Cond.initialized kEx).before args s' = true := vx_ot_at hW0 hvm.symm (kEw_o _ (List.mem_cons_of_mem _ List.mem_cons_self)) (hts _ kE_in)
  have hU' : vx_Zq Bundle.tN "UNASSIGNED_STACK" Bundle.steD (fun q => B0 ≤ q) s' s'.heap := by rw [hhp]; exact vx_Zq.moved hW0.alike (hq.1.kept hS.2.1)
  have hN' : vx_Zq Bundle.tN "SUPPRESSED_SENTINEL" Bundle.listD (fun q => B0 ≤ q) s' s'.heap := by rw [hhp]; exact vx_Zq.moved hW0.alike (hq.2.1.kept hS.2.1)
  have h : ∀ w ∈ kEa "HatAtCouncil" 130, w.before args s' = true := vx_own hat' (vx_isRefq hU'.1) (vx_isRefq hN'.1) hU'.2.word hN'.2.word
  have hown' : s'.vm.findClass "HatAtCouncil" = some m.cls := by rw [hvm]; exact hown
  have hins : (Cond.instantiable kEx 6).before args s' = true := h _ (by simp [kEa])
  obtain ⟨vm₁, cX, kX, hfX, hkX, -, -, X₁, st1⟩ := Y.newCold hexec (own := "HatAtCouncil") (C := kEx) (index := 126) (n := 6) hown' hk' hins hini'
    (g := F0 m pc ls rest) rfl (by rw [hb]; exact d0) (Nat.le_refl _) (Nat.le_refl _)
  generalize hT1 : (T.setVm vm₁).pushCell { cls := cX, slots := kX.instanceTypes.map defaultValue, vm := .none } = T1 at X₁ st1
  have hcat : (Value.ref T.heap.size).category = 1 := rfl
  have hcellA : T1.heap[T.heap.size]? = some (freshCell cX kX) := by rw [← hT1]; exact State.heap_pushCell_size _ _
  have d3' : decode c.code (pc + 3) = .ok (.dup, 1) := by rw [hb]; exact d3
  have hstr' : vk_R "HatAtCouncil" is text sa s' := vk_R.warm hW0 hstr
  obtain ⟨U, hsteps, hrun, hend, hW, hsame, ce, hce, hO, hcl0⟩ := ke_ctor X₁ hexec htr (own := "HatAtCouncil") (ic := 130) hown' h rfl hfX hkX hcellA (by rw [hhp, hT]; exact Nat.le_refl _) (msg := .ref sa) rfl
    (g := { method := m, pc := pc + k, locals := ls, stack := .ref sa :: .ref T.heap.size :: .ref T.heap.size :: rest, locked := none }) rfl hsize rfl rfl (rest := rest) rfl
    (by rw [hb]; exact d6) (by rw [hb]; exact d9) (fun x hx => (hout x hx).elim) hRf (by simp only [List.map_cons, List.sum_cons, hcat]; show 2 * 0 + _ + 81 ≤ _; omega) hlocks
  obtain ⟨f1, f2⟩ := vx_frame hsame
  rw [hhp] at f1 f2
  have hWs : s.WarmedH U.vm := State.WarmedH.trans hW0 hW
  have hcl : s.vm.findClass kEx = some ce.cls := by
    rw [hvm] at hcl0
    exact hcl0
  have hall : s.sameButNew ({ U with vm := s.vm } : State) locs mc ms := by
    subst hA
    obtain ⟨e1, e2⟩ := hsame
    rw [State.setFrames_setFrames] at e1
    have h2 : (T.setVm s.vm).sameButNew ({ U with vm := s.vm } : State) [] (0 + 1) (0 + 6) := ⟨e1, e2⟩
    have h3 := X.same.trans h2
    rw [List.append_nil] at h3
    exact h3.mono hc hs
  refine ⟨U, ?_, .threw T.heap.size, hrun, hend, Or.inr ⟨T.heap.size, rfl, kEx, ce, locs, hx U hWs.alike f1 (fun q hq => f2 q hq (fun z hz => nomatch hz)), hce, hO, hcl, hWs, hall, hf⟩⟩
  refine st1 _ ?_
  show Steps p.tables e below (T1.setTop { method := m, pc := pc + 3, locals := ls, stack := .ref T.heap.size :: rest, locked := none }) _
  jvm_step X₁.here [X₁.here.top, hexec, d3', Value.category]
  rcases d4 with ⟨d4, rfl⟩ | ⟨d4, rfl⟩
  · exact X₁.ldcString hexec (own := "HatAtCouncil") (text := text) (index := is) (a := sa) hown' hstr'.1 hstr'.2
      (g := { method := m, pc := pc + 4, locals := ls, stack := .ref T.heap.size :: .ref T.heap.size :: rest, locked := none }) rfl (by rw [hb]; exact d4) _ hsteps
  · exact X₁.ldcStringW hexec (own := "HatAtCouncil") (text := text) (index := is) (a := sa) hown' hstr'.1 hstr'.2
      (g := { method := m, pc := pc + 4, locals := ls, stack := .ref T.heap.size :: .ref T.heap.size :: rest, locked := none }) rfl (by rw [hb]; exact d4) _ hsteps
end KThrow
theorem kthr_inv {own pc : Nat} {cc : ByteArray} (h : kthr own cc pc = true) : ∃ (is k : Nat) (v : Int), decode cc (pc + 3) = .ok (.dup, 1) ∧ (decode cc (pc + 4) = .ok (.ldc is, 2) ∧ k = 6 ∨ decode cc (pc + 4) = .ok (.ldc_w is, 3) ∧ k = 7) ∧ decode cc (pc + k) = .ok (.invokespecial 130, 3) ∧ decode cc (pc + k + 3) = .ok (.athrow, 1) ∧ klk krK own is = some (2, v) := by
  unfold kthr at h
  split at h
  · rename_i h3
    split at h
    · rename_i is h4
      split at h
      · rename_i ic h6 h9
        rw [Bool.and_eq_true, beq_iff_eq] at h
        obtain ⟨rfl, h⟩ := h
        split at h
        · rename_i v hv
          exact ⟨is, 6, v, h3, Or.inl ⟨h4, rfl⟩, h6, h9, hv⟩
        · cases h
      · cases h
    · rename_i is h4
      split at h
      · rename_i ic h6 h9
        rw [Bool.and_eq_true, beq_iff_eq] at h
        obtain ⟨rfl, h⟩ := h
        split at h
        · rename_i v hv
          exact ⟨is, 7, v, h3, Or.inr ⟨h4, rfl⟩, h6, h9, hv⟩
        · cases h
      · cases h
    · cases h
  · cases h
theorem knew_inv {own y pc len : Nat} {init : Bool} {ret : Option FieldType} {cc : ByteArray} {ins : Instr} {I : kI} (htr : ktr own y init ret cc ins len pc = some I) (h26 : I.1 = 26) : ∃ ix : Nat, ins = .new ix ∧ klk krC own ix = some 99 ∧ kthr own cc pc = true := by
  cases hi : ins with
  | new ix =>
    subst hi
    simp only [ktr] at htr
    split at htr
    · rename_i ci hq
      split at htr
      · rename_i h99
        split at htr
        · rename_i hk
          exact ⟨ix, rfl, by rw [hq, h99], hk⟩
        · cases htr
      · simp only [Option.some.injEq] at htr
        subst htr
        simp at h26
    · cases htr
  | _ =>
    exfalso
    subst hi
    simp only [ktr, kkon, kinv] at htr
    first | (cases htr; done) | ((repeat' split at htr) <;> first | (cases htr; done) | (simp only [Option.some.injEq] at htr; subst htr; simp at h26))
theorem kC10_99 : ∀ q ∈ (krC[10]?).getD [], q.2 = 99 → q.1 = 126 := by decide +kernel
theorem kM10_12 : ∀ q ∈ (krM[10]?).getD [], q.2.2.1 ≠ 100 → kow q.2.1 ≠ 12 := by decide +kernel
theorem khd_nil {y pc : Nat} (h : kow y ≠ 12) : khd y pc = [] := by
  unfold khd
  cases hq : kHL.find? (fun q => q.1 == y && q.2.1 == pc) with
  | none => rfl
  | some q =>
    exfalso
    have h1 := List.mem_of_find?_eq_some hq
    have h2 := List.find?_some hq
    rw [Bool.and_eq_true, beq_iff_eq] at h2
    have h3 : ∀ q ∈ kHL, kow q.1 = 12 := by decide +kernel
    exact h (h2.1 ▸ h3 q h1)
