/-! texts: the JDK's own members over the literals -/
abbrev cS_length : ByteArray := prog_21_method_54_code
def yS_length : MethodName := ⟨"java/lang/String", "length", "()I"⟩
set_option maxRecDepth 100000 in
theorem kcS_length : Cond.code yS_length cS_length 1 (some .int) ∈ kT := kT_at (show lw_tbl[354]? = some _ from rfl) rfl
theorem dS_length_0 : decode cS_length 0 = .ok (.aload_n 0, 1) := by decide +kernel
theorem dS_length_1 : decode cS_length 1 = .ok (.getfield 9, 3) := by decide +kernel
theorem dS_length_4 : decode cS_length 4 = .ok (.arraylength, 1) := by decide +kernel
theorem dS_length_5 : decode cS_length 5 = .ok (.aload_n 0, 1) := by decide +kernel
theorem dS_length_6 : decode cS_length 6 = .ok (.invokevirtual 335, 3) := by decide +kernel
theorem dS_length_9 : decode cS_length 9 = .ok (.ishr, 1) := by decide +kernel
theorem dS_length_10 : decode cS_length 10 = .ok (.ireturn, 1) := by decide +kernel
abbrev cS_charAt : ByteArray := prog_21_method_56_code
def yS_charAt : MethodName := ⟨"java/lang/String", "charAt", "(I)C"⟩
set_option maxRecDepth 100000 in
theorem kcS_charAt : Cond.code yS_charAt cS_charAt 2 (some .char) ∈ kT := kT_at (show lw_tbl[364]? = some _ from rfl) rfl
theorem dS_charAt_0 : decode cS_charAt 0 = .ok (.aload_n 0, 1) := by decide +kernel
theorem dS_charAt_1 : decode cS_charAt 1 = .ok (.invokevirtual 492, 3) := by decide +kernel
theorem dS_charAt_4 : decode cS_charAt 4 = .ok (.ifCond .eq 12, 3) := by decide +kernel
theorem dS_charAt_7 : decode cS_charAt 7 = .ok (.aload_n 0, 1) := by decide +kernel
theorem dS_charAt_8 : decode cS_charAt 8 = .ok (.getfield 9, 3) := by decide +kernel
theorem dS_charAt_11 : decode cS_charAt 11 = .ok (.iload_n 1, 1) := by decide +kernel
theorem dS_charAt_12 : decode cS_charAt 12 = .ok (.invokestatic 495, 3) := by decide +kernel
theorem dS_charAt_15 : decode cS_charAt 15 = .ok (.ireturn, 1) := by decide +kernel
theorem dS_charAt_16 : decode cS_charAt 16 = .ok (.aload_n 0, 1) := by decide +kernel
theorem dS_charAt_17 : decode cS_charAt 17 = .ok (.getfield 9, 3) := by decide +kernel
theorem dS_charAt_20 : decode cS_charAt 20 = .ok (.iload_n 1, 1) := by decide +kernel
theorem dS_charAt_21 : decode cS_charAt 21 = .ok (.invokestatic 498, 3) := by decide +kernel
theorem dS_charAt_24 : decode cS_charAt 24 = .ok (.ireturn, 1) := by decide +kernel
abbrev cS_coder : ByteArray := prog_21_method_152_code
def yS_coder : MethodName := ⟨"java/lang/String", "coder", "()B"⟩
set_option maxRecDepth 100000 in
theorem kcS_coder : Cond.code yS_coder cS_coder 1 (some .byte) ∈ kT := kT_at (show lw_tbl[358]? = some _ from rfl) rfl
theorem dS_coder_0 : decode cS_coder 0 = .ok (.getstatic 38, 3) := by decide +kernel
theorem dS_coder_3 : decode cS_coder 3 = .ok (.ifCond .eq 10, 3) := by decide +kernel
theorem dS_coder_6 : decode cS_coder 6 = .ok (.aload_n 0, 1) := by decide +kernel
theorem dS_coder_7 : decode cS_coder 7 = .ok (.getfield 15, 3) := by decide +kernel
theorem dS_coder_10 : decode cS_coder 10 = .ok (.goto 4, 3) := by decide +kernel
theorem dS_coder_13 : decode cS_coder 13 = .ok (.iconst 1, 1) := by decide +kernel
theorem dS_coder_14 : decode cS_coder 14 = .ok (.ireturn, 1) := by decide +kernel
abbrev cS_latin : ByteArray := prog_21_method_154_code
def yS_latin : MethodName := ⟨"java/lang/String", "isLatin1", "()Z"⟩
set_option maxRecDepth 100000 in
theorem kcS_latin : Cond.code yS_latin cS_latin 1 (some .boolean) ∈ kT := kT_at (show lw_tbl[368]? = some _ from rfl) rfl
theorem dS_latin_0 : decode cS_latin 0 = .ok (.getstatic 38, 3) := by decide +kernel
theorem dS_latin_3 : decode cS_latin 3 = .ok (.ifCond .eq 14, 3) := by decide +kernel
theorem dS_latin_6 : decode cS_latin 6 = .ok (.aload_n 0, 1) := by decide +kernel
theorem dS_latin_7 : decode cS_latin 7 = .ok (.getfield 15, 3) := by decide +kernel
theorem dS_latin_10 : decode cS_latin 10 = .ok (.ifCond .ne 7, 3) := by decide +kernel
theorem dS_latin_13 : decode cS_latin 13 = .ok (.iconst 1, 1) := by decide +kernel
theorem dS_latin_14 : decode cS_latin 14 = .ok (.goto 4, 3) := by decide +kernel
theorem dS_latin_17 : decode cS_latin 17 = .ok (.iconst 0, 1) := by decide +kernel
theorem dS_latin_18 : decode cS_latin 18 = .ok (.ireturn, 1) := by decide +kernel
abbrev cS_check : ByteArray := prog_21_method_155_code
def yS_check : MethodName := ⟨"java/lang/String", "checkIndex", "(II)V"⟩
set_option maxRecDepth 100000 in
theorem kcS_check : Cond.code yS_check cS_check 2 none ∈ kT := kT_at (show lw_tbl[374]? = some _ from rfl) rfl
theorem dS_check_0 : decode cS_check 0 = .ok (.iload_n 0, 1) := by decide +kernel
theorem dS_check_1 : decode cS_check 1 = .ok (.iload_n 1, 1) := by decide +kernel
theorem dS_check_2 : decode cS_check 2 = .ok (.getstatic 1053, 3) := by decide +kernel
theorem dS_check_5 : decode cS_check 5 = .ok (.invokestatic 1059, 3) := by decide +kernel
theorem dS_check_8 : decode cS_check 8 = .ok (.pop, 1) := by decide +kernel
theorem dS_check_9 : decode cS_check 9 = .ok (.return_, 1) := by decide +kernel
abbrev cS_lchar : ByteArray := prog_22_method_2_code
def yS_lchar : MethodName := ⟨"java/lang/StringLatin1", "charAt", "([BI)C"⟩
set_option maxRecDepth 100000 in
theorem kcS_lchar : Cond.code yS_lchar cS_lchar 2 (some .char) ∈ kT := kT_at (show lw_tbl[371]? = some _ from rfl) rfl
theorem dS_lchar_0 : decode cS_lchar 0 = .ok (.iload_n 1, 1) := by decide +kernel
theorem dS_lchar_1 : decode cS_lchar 1 = .ok (.aload_n 0, 1) := by decide +kernel
theorem dS_lchar_2 : decode cS_lchar 2 = .ok (.arraylength, 1) := by decide +kernel
theorem dS_lchar_3 : decode cS_lchar 3 = .ok (.invokestatic 9, 3) := by decide +kernel
theorem dS_lchar_6 : decode cS_lchar 6 = .ok (.aload_n 0, 1) := by decide +kernel
theorem dS_lchar_7 : decode cS_lchar 7 = .ok (.iload_n 1, 1) := by decide +kernel
theorem dS_lchar_8 : decode cS_lchar 8 = .ok (.baload, 1) := by decide +kernel
theorem dS_lchar_9 : decode cS_lchar 9 = .ok (.sipush 255, 3) := by decide +kernel
theorem dS_lchar_12 : decode cS_lchar 12 = .ok (.iand, 1) := by decide +kernel
theorem dS_lchar_13 : decode cS_lchar 13 = .ok (.i2c, 1) := by decide +kernel
theorem dS_lchar_14 : decode cS_lchar 14 = .ok (.ireturn, 1) := by decide +kernel
abbrev cS_pre : ByteArray := prog_29_method_11_code
def yS_pre : MethodName := ⟨"jdk/internal/util/Preconditions", "checkIndex", "(IILjava/util/function/BiFunction;)I"⟩
set_option maxRecDepth 100000 in
theorem kcS_pre : Cond.code yS_pre cS_pre 3 (some .int) ∈ kT := kT_at (show lw_tbl[379]? = some _ from rfl) rfl
theorem dS_pre_0 : decode cS_pre 0 = .ok (.iload_n 0, 1) := by decide +kernel
theorem dS_pre_1 : decode cS_pre 1 = .ok (.ifCond .lt 8, 3) := by decide +kernel
theorem dS_pre_4 : decode cS_pre 4 = .ok (.iload_n 0, 1) := by decide +kernel
theorem dS_pre_5 : decode cS_pre 5 = .ok (.iload_n 1, 1) := by decide +kernel
theorem dS_pre_6 : decode cS_pre 6 = .ok (.if_icmp .lt 10, 3) := by decide +kernel
theorem dS_pre_9 : decode cS_pre 9 = .ok (.aload_n 2, 1) := by decide +kernel
theorem dS_pre_10 : decode cS_pre 10 = .ok (.iload_n 0, 1) := by decide +kernel
theorem dS_pre_11 : decode cS_pre 11 = .ok (.iload_n 1, 1) := by decide +kernel
theorem dS_pre_12 : decode cS_pre 12 = .ok (.invokestatic 95, 3) := by decide +kernel
theorem dS_pre_15 : decode cS_pre 15 = .ok (.athrow, 1) := by decide +kernel
theorem dS_pre_16 : decode cS_pre 16 = .ok (.iload_n 0, 1) := by decide +kernel
theorem dS_pre_17 : decode cS_pre 17 = .ok (.ireturn, 1) := by decide +kernel
def kSo : List (String × Nat × String) := [("HatAtCouncil", 89, "w*3-t+b"), ("HatAtCouncil", 128, "no such councillor"), ("HatAtCouncil", 156, "nothing such of a councillor"), ("HatAtCouncil", 161, "no such thing"), ("HatAtCouncil", 173, "nothing such of a thing"), ("HatAtCouncil", 353, "no such number of the row"), ("HatAtCouncilModel", 177, "abcdefgh"), ("HatAtCouncilModel", 212, "wbtphml"), ("HatAtCouncilModel", 217, "<>="), ("HatAtCouncilModel", 219, "+-"), ("HatAtCouncilModel", 221, "*/"), ("HatAtCouncilModel", 330, "wzqbcn")]
def kSlen : List Nat := [7, 18, 28, 13, 23, 25, 8, 7, 3, 2, 2, 6]
def kSbyt : List (List Int32) := [[119, 42, 51, 45, 116, 43, 98], [110, 111, 32, 115, 117, 99, 104, 32, 99, 111, 117, 110, 99, 105, 108, 108, 111, 114], [110, 111, 116, 104, 105, 110, 103, 32, 115, 117, 99, 104, 32, 111, 102, 32, 97, 32, 99, 111, 117, 110, 99, 105, 108, 108, 111, 114], [110, 111, 32, 115, 117, 99, 104, 32, 116, 104, 105, 110, 103], [110, 111, 116, 104, 105, 110, 103, 32, 115, 117, 99, 104, 32, 111, 102, 32, 97, 32, 116, 104, 105, 110, 103], [110, 111, 32, 115, 117, 99, 104, 32, 110, 117, 109, 98, 101, 114, 32, 111, 102, 32, 116, 104, 101, 32, 114, 111, 119], [97, 98, 99, 100, 101, 102, 103, 104], [119, 98, 116, 112, 104, 109, 108], [60, 62, 61], [43, 45], [42, 47], [119, 122, 113, 98, 99, 110]]
section KStr
variable {l : Launch} {adK adV : Nat → Nat} {B0 : Nat}
def kXs (adK adV : Nat → Nat) (B0 : Nat) (U : State) : Prop := (∀ (k : Nat) (q : String × Nat × String), kSo[k]? = some q → vk_R q.1 q.2.1 q.2.2 (adK k) U) ∧ vk_S 12 kSlen kSbyt adK adV (fun q => B0 ≤ q) U U.heap ∧ va_Z "java/lang/String" "COMPACT_STRINGS" "Z" (.int 1) (fun q => B0 ≤ q) U U.heap ∧ va_Zq "jdk/internal/util/Preconditions" "SIOOBE_FORMATTER" "Ljava/util/function/BiFunction;" (fun q => B0 ≤ q) U U.heap ∧ B0 ≤ U.heap.size
theorem kXs.move {s U : State} (hW : s.WarmedH U.vm) (hh : ∀ q, q < B0 → U.heap[q]? = s.heap[q]?) (h : kXs adK adV B0 s) : kXs adK adV B0 U := by
  have hk : ∀ a : Nat, a < s.heap.size → ¬ B0 ≤ a → U.heap[a]? = s.heap[a]? := fun a _ h2 => hh a (Nat.not_le.mp h2)
  refine ⟨fun k q hq => vk_R.warm hW (h.1 k q hq), vk_S.moved hW.alike (h.2.1.kept hk), va_Z.moved hW.alike (h.2.2.1.kept hk), va_Zq.moved hW.alike (h.2.2.2.1.kept hk), ?_⟩
  cases hB : B0 with
  | zero => exact Nat.zero_le _
  | succ k =>
    have h1 := h.2.2.2.2
    rw [hB] at h1
    have h2 := hh k (by omega)
    rw [Array.getElem?_eq_getElem (Nat.lt_of_succ_le h1)] at h2
    exact (Array.getElem?_eq_some_iff.mp h2).1
def kPj (adK adV : Nat → Nat) (B0 : Nat) (As : List Value) : Array Value → State → Prop := fun v U => v = As.toArray ∧ kXs adK adV B0 U
def kQj (r : Option Value) : Array Value → State → Outcome → State → Prop := fun _ st o t => o = .returned r ∧ t.heap = st.heap
def kRj (k : Nat) : Room := { frames := k, cells := 0, slots := 0, locals := 40 * k }
theorem kFBj (As : List Value) : FrameBlind (kPj adK adV B0 As) := fun a U g mk ⟨h1, h2⟩ => ⟨h1, kXs.move (s := U) (U := U.calling g mk a) (State.WarmedH.refl U) (fun _ _ => rfl) h2⟩
theorem kCallP {p : Program} {e : Env} {R : Room} {s : State} {m : MethodId} {args : Array Value} {below : List Frame} {meth : Method} {c : Code} {H : Heap} {locs : List Loc} {cells slots : Nat} {Q : State → Prop} {pc : Nat} {ls : Array Slot} {st0 rest : List Value} {a : Array Value} {r : Option Value}
    (hr : va_Run p l e R s m args below meth c H locs cells slots 0 0 (F0 m pc ls st0) rest (kQj r a) (fun _ => False)) (kk : W p l e R s m args below meth c H locs cells slots Q (F0 m (pc + 3) ls (r.toList ++ rest))) : W p l e R s m args below meth c H locs cells slots Q (F0 m pc ls st0) := by
  intro T hT X
  obtain ⟨v', st₀, t, T', L, h0, X', hL, e1, e2, ⟨hv, hh⟩, go⟩ := hr T hT X
  have hv : v' = r := by cases hv; rfl
  subst hv
  have hLn : L = [] := by cases L with | nil => rfl | cons a t => exact (hL a List.mem_cons_self).elim
  subst hLn
  rw [List.append_nil] at X'
  obtain ⟨t2, a1, b1⟩ := kk T' (by rw [e1, hh, h0]) X'
  exact ⟨t2, go t2 a1, b1⟩
theorem kGj {w : Cond} (h : w ∈ kT) : GoodIn kT (w :: kT) := by
  intro x hx
  rcases List.mem_cons.mp hx with rfl | hx
  · exact kT_good _ h
  · exact kT_good _ hx
theorem kprej {p : Program} {s : State} {H : Heap} {locs : List Loc} {As : List Value} (hX : kXs adK adV B0 s) (hS : va_S (fun q => B0 ≤ q) s.heap H locs) : ∀ U : State, U.heap = H → s.WarmedH U.vm → kPj adK adV B0 As As.toArray U :=
  fun U hU hW => ⟨rfl, kXs.move hW (fun q hq => by rw [hU]; exact hS.2.1 q (Nat.lt_of_lt_of_le hq hX.2.2.2.2) (Nat.not_le.mpr hq)) hX⟩
theorem jw_38 : Cond.fieldLink "java/lang/String" 38 "java/lang/String" "COMPACT_STRINGS" "Z" ∈ kT := kT_of (by decide +kernel) rfl
theorem jw_15 : Cond.fieldLink "java/lang/String" 15 "java/lang/String" "coder" "B" ∈ kT := kT_of (by decide +kernel) rfl
theorem jw_9 : Cond.fieldLink "java/lang/String" 9 "java/lang/String" "value" "[B" ∈ kT := kT_of (by decide +kernel) rfl
theorem jw_1053 : Cond.fieldLink "java/lang/String" 1053 "jdk/internal/util/Preconditions" "SIOOBE_FORMATTER" "Ljava/util/function/BiFunction;" ∈ kT := kT_of (by decide +kernel) rfl
theorem jw_ini0 : Cond.initialized "java/lang/String" ∈ kT := kT_of (by decide +kernel) rfl
theorem jw_ini1 : Cond.initialized "java/lang/StringLatin1" ∈ kT := kT_of (by decide +kernel) rfl
theorem jw_ini3 : Cond.initialized "jdk/internal/util/Preconditions" ∈ kT := kT_of (by decide +kernel) rfl
theorem jw_335 : Cond.methodLink "java/lang/String" 335 yS_coder ∈ kT := kT_of (by decide +kernel) rfl
theorem jw_492 : Cond.methodLink "java/lang/String" 492 yS_latin ∈ kT := kT_of (by decide +kernel) rfl
theorem jw_495 : Cond.methodLink "java/lang/String" 495 yS_lchar ∈ kT := kT_of (by decide +kernel) rfl
theorem jw_l9 : Cond.methodLink "java/lang/StringLatin1" 9 yS_check ∈ kT := kT_of (by decide +kernel) rfl
theorem jw_1059 : Cond.methodLink "java/lang/String" 1059 yS_pre ∈ kT := kT_of (by decide +kernel) rfl
theorem jw_i1 : Cond.instanceMethod yS_coder ∈ kT := kT_of (by decide +kernel) rfl
theorem jw_i2 : Cond.instanceMethod yS_latin ∈ kT := kT_of (by decide +kernel) rfl
theorem jw_i3 : Cond.instanceMethod yS_length ∈ kT := kT_of (by decide +kernel) rfl
theorem jw_i4 : Cond.instanceMethod yS_charAt ∈ kT := kT_of (by decide +kernel) rfl
theorem jw_s1 : Cond.selects "java/lang/String" yS_coder yS_coder ∈ kT := kT_of (by decide +kernel) (by decide +kernel)
theorem jw_s2 : Cond.selects "java/lang/String" yS_latin yS_latin ∈ kT := kT_of (by decide +kernel) (by decide +kernel)
theorem jw_s3 : Cond.selects "java/lang/String" yS_length yS_length ∈ kT := kT_of (by decide +kernel) (by decide +kernel)
theorem jw_s4 : Cond.selects "java/lang/String" yS_charAt yS_charAt ∈ kT := kT_of (by decide +kernel) (by decide +kernel)
theorem jw_t1 : Cond.static yS_lchar ∈ kT := kT_of (by decide +kernel) rfl
theorem jw_t2 : Cond.static yS_check ∈ kT := kT_of (by decide +kernel) rfl
theorem jw_t3 : Cond.static yS_pre ∈ kT := kT_of (by decide +kernel) rfl
theorem m_coder {i : Nat} (hi : i < 12) : Met l yS_coder (Cond.code yS_coder cS_coder 1 (some .byte) :: kT) (kRj 1) (kPj adK adV B0 [.ref (adK i)]) (kQj (some (.int 0))) 0 0 (fun _ => False) := by
  refine Met.ofW (cc := cS_coder) (maxL := 1) (ret := some .byte) (by decide) rfl ?_
  intro p e s m args below meth c s₁ B hml hv
  obtain ⟨rfl, hX⟩ := hv
  have hx := B.exec
  have hb := B.bytes
  have hr := B.returns
  have hts : ∀ w ∈ kT, w.before ([.ref (adK i)] : List Value).toArray s = true := fun w hw => atoms_spec (ws := Cond.code yS_coder cS_coder 1 (some .byte) :: kT) B.pre w (List.mem_cons_of_mem _ hw)
  have hown : s.vm.findClass "java/lang/String" = some m.cls := findClass_of_methodNamed B.named
  have hlocks := B.notSynchronized
  have hS : va_S (fun q => B0 ≤ q) s.heap s.heap [] := va_S.rf
  have hl := lv_entry ([.ref (adK i)]) (n := 1) (Nat.le_of_ble_eq_true rfl)
  rw [lg_entry_eq]
  generalize (lg_sl ([.ref (adK i)]) ++ List.replicate (1 - (lg_sl ([.ref (adK i)])).length) Slot.unset).toArray = ls at hl ⊢
  refine va_gets hx hb hX.2.2.1 hS hown (hts _ jw_38) (fun _ h => h) dS_coder_0 ?_
  refine lv_if_eq (tgt := 13) hx hb dS_coder_3 (by decide) (fun h => absurd h (by decide)) (fun _ => ?_)
  refine lv_aload_n hx hb dS_coder_6 rfl (lv_at hl 0 rfl) ?_
  refine vk_getf hx hb (hX.2.1.1 i hi).2.1 hS hown (hts _ jw_15) (fun _ h => h) dS_coder_7 ?_
  refine lv_goto (tgt := 14) hx hb dS_coder_10 (by decide) ?_
  exact W.zret hx hb hr rfl (fun t ht _ => ⟨rfl, ht⟩) (fun q h => absurd h List.not_mem_nil) dS_coder_14
theorem m_latin {i : Nat} (hi : i < 12) : Met l yS_latin (Cond.code yS_latin cS_latin 1 (some .boolean) :: kT) (kRj 1) (kPj adK adV B0 [.ref (adK i)]) (kQj (some (.int 1))) 0 0 (fun _ => False) := by
  refine Met.ofW (cc := cS_latin) (maxL := 1) (ret := some .boolean) (by decide) rfl ?_
  intro p e s m args below meth c s₁ B hml hv
  obtain ⟨rfl, hX⟩ := hv
  have hx := B.exec
  have hb := B.bytes
  have hr := B.returns
  have hts : ∀ w ∈ kT, w.before ([.ref (adK i)] : List Value).toArray s = true := fun w hw => atoms_spec (ws := Cond.code yS_latin cS_latin 1 (some .boolean) :: kT) B.pre w (List.mem_cons_of_mem _ hw)
  have hown : s.vm.findClass "java/lang/String" = some m.cls := findClass_of_methodNamed B.named
  have hlocks := B.notSynchronized
  have hS : va_S (fun q => B0 ≤ q) s.heap s.heap [] := va_S.rf
  have hl := lv_entry ([.ref (adK i)]) (n := 1) (Nat.le_of_ble_eq_true rfl)
  rw [lg_entry_eq]
  generalize (lg_sl ([.ref (adK i)]) ++ List.replicate (1 - (lg_sl ([.ref (adK i)])).length) Slot.unset).toArray = ls at hl ⊢
  refine va_gets hx hb hX.2.2.1 hS hown (hts _ jw_38) (fun _ h => h) dS_latin_0 ?_
  refine lv_if_eq (tgt := 17) hx hb dS_latin_3 (by decide) (fun h => absurd h (by decide)) (fun _ => ?_)
  refine lv_aload_n hx hb dS_latin_6 rfl (lv_at hl 0 rfl) ?_
  refine vk_getf hx hb (hX.2.1.1 i hi).2.1 hS hown (hts _ jw_15) (fun _ h => h) dS_latin_7 ?_
  refine lv_if_ne (tgt := 17) hx hb dS_latin_10 (by decide) (fun h => absurd rfl h) (fun _ => ?_)
  refine lv_iconst (v := 1) hx hb dS_latin_13 (by decide) ?_
  refine lv_goto (tgt := 18) hx hb dS_latin_14 (by decide) ?_
  exact W.zret hx hb hr rfl (fun t ht _ => ⟨rfl, ht⟩) (fun q h => absurd h List.not_mem_nil) dS_latin_18
theorem m_pre {j n : Int32} {w : Value} (hw : w.category = 1) (h1 : ¬ j < 0) (h2 : j < n) : Met l yS_pre (Cond.code yS_pre cS_pre 3 (some .int) :: kT) (kRj 1) (kPj adK adV B0 [.int j, .int n, w]) (kQj (some (.int j))) 0 0 (fun _ => False) := by
  refine Met.ofW (cc := cS_pre) (maxL := 3) (ret := some .int) (by decide) rfl ?_
  intro p e s m args below meth c s₁ B hml hv
  obtain ⟨rfl, hX⟩ := hv
  have hx := B.exec
  have hb := B.bytes
  have hr := B.returns
  have hlocks := B.notSynchronized
  have hl := lv_entry ([.int j, .int n, w]) (n := 3) (by cases w <;> first | exact Nat.le_of_ble_eq_true rfl | exact absurd hw (by simp [Value.category]))
  have hl : lv_has _ 3 [(0, .int j), (1, .int n)] := lv_sub hl [0, 1] rfl
  rw [lg_entry_eq]
  generalize (lg_sl ([.int j, .int n, w]) ++ List.replicate (3 - (lg_sl ([.int j, .int n, w])).length) Slot.unset).toArray = ls at hl ⊢
  refine lv_iload_n hx hb dS_pre_0 rfl (lv_at hl 0 rfl) ?_
  refine lv_if_lt (tgt := 9) hx hb dS_pre_1 (by decide) (fun h => absurd h h1) (fun _ => ?_)
  refine lv_iload_n hx hb dS_pre_4 rfl (lv_at hl 0 rfl) ?_
  refine lv_iload_n hx hb dS_pre_5 rfl (lv_at hl 1 rfl) ?_
  refine lv_icmp_lt (tgt := 16) hx hb dS_pre_6 (by decide) (fun _ => ?_) (fun h => absurd h2 h)
  refine lv_iload_n hx hb dS_pre_16 rfl (lv_at hl 0 rfl) ?_
  exact W.iret hx hb hr (fun t ht _ => ⟨rfl, ht⟩) (fun q h => absurd h List.not_mem_nil) dS_pre_17
theorem m_check {j n : Int32} (h1 : ¬ j < 0) (h2 : j < n) : Met l yS_check (Cond.code yS_check cS_check 2 none :: kT) (kRj 2) (kPj adK adV B0 [.int j, .int n]) (kQj none) 0 0 (fun _ => False) := by
  refine Met.ofW (cc := cS_check) (maxL := 2) (ret := none) (by decide) rfl ?_
  intro p e s m args below meth c s₁ B hml hv
  obtain ⟨rfl, hX⟩ := hv
  have hx := B.exec
  have hb := B.bytes
  have hr := B.returns
  have hts : ∀ w ∈ kT, w.before ([.int j, .int n] : List Value).toArray s = true := fun w hw => atoms_spec (ws := Cond.code yS_check cS_check 2 none :: kT) B.pre w (List.mem_cons_of_mem _ hw)
  have hown : s.vm.findClass "java/lang/String" = some m.cls := findClass_of_methodNamed B.named
  have hlocks := B.notSynchronized
  have hS : va_S (fun q => B0 ≤ q) s.heap s.heap [] := va_S.rf
  have hl := lv_entry ([.int j, .int n]) (n := 2) (Nat.le_of_ble_eq_true rfl)
  rw [lg_entry_eq]
  generalize (lg_sl ([.int j, .int n]) ++ List.replicate (2 - (lg_sl ([.int j, .int n])).length) Slot.unset).toArray = ls at hl ⊢
  refine lv_iload_n hx hb dS_check_0 rfl (lv_at hl 0 rfl) ?_
  refine lv_iload_n hx hb dS_check_1 rfl (lv_at hl 1 rfl) ?_
  have key : ∀ w : Value, w.category = 1 → W p l e (headSpec (Cond.code yS_check cS_check 2 none :: kT) (kRj 2)).room s m ([.int j, .int n] : List Value).toArray below meth c s.heap [] 0 0 (MQ below (kQj none) ([.int j, .int n] : List Value).toArray s 0 0 (fun _ => False)) (F0 m 5 ls [w, .int n, .int j]) := by
    intro w hw
    refine kCallP (r := some (.int j)) (va_runS (n := 3) (rest := []) (As := [.int j, .int n, w]) ⟨hx, hb, hml, hown, hts⟩ (m_pre (adK := adK) (adV := adV) (B0 := B0) hw h1 h2) ⟨callB_of 3 hts (kGj kcS_pre) rfl rfl rfl (hts _ jw_ini3) (hts _ jw_1059) ⟨by decide, by decide, by decide +kernel⟩ ⟨by decide, by decide⟩, hts _ jw_t3⟩ ⟨kFBj _, kprej (p := p) hX hS⟩ rfl rfl hl.1 rfl (lv_room (by decide)) dS_check_5 ⟨Nat.le_refl _, Nat.le_refl _⟩) ?_
    refine lv_pop hx hb dS_check_8 rfl ?_
    exact W.vret hx hb hr (fun t ht _ => ⟨rfl, ht⟩) (fun q h => absurd h List.not_mem_nil) dS_check_9
  rcases hX.2.2.2.1 with hz | ⟨t, hz⟩
  · exact va_gets hx hb hz hS hown (hts _ jw_1053) (fun _ h => h) dS_check_2 (key _ rfl)
  · exact va_gets hx hb hz hS hown (hts _ jw_1053) (fun _ h => h) dS_check_2 (key _ rfl)
theorem kin_lt {j : Int32} {N : Nat} (hN : N < 2 ^ 31) (h : vp_in j N) : ¬ j < 0 ∧ j < Int32.ofNat N := by
  refine ⟨fun q => h (Or.inl q), ?_⟩
  obtain ⟨k, hk, rfl⟩ := vp_in_of h hN
  exact nI_lt hk hN
theorem kSlen_lt : ∀ i, i < 12 → kSlen.getD i 0 < 2 ^ 31 := by decide +kernel
theorem m_lchar {i : Nat} (hi : i < 12) {j : Int32} (hj : vp_in j (kSlen.getD i 0)) : Met l yS_lchar (Cond.code yS_lchar cS_lchar 2 (some .char) :: kT) (kRj 3) (kPj adK adV B0 [.ref (adV i), .int j]) (kQj (some (.int ((kSbyt.getD i []).getD j.toNatClampNeg 0 &&& 255)))) 0 0 (fun _ => False) := by
  refine Met.ofW (cc := cS_lchar) (maxL := 2) (ret := some .char) (by decide) rfl ?_
  intro p e s m args below meth c s₁ B hml hv
  obtain ⟨rfl, hX⟩ := hv
  have hx := B.exec
  have hb := B.bytes
  have hr := B.returns
  have hts : ∀ w ∈ kT, w.before ([.ref (adV i), .int j] : List Value).toArray s = true := fun w hw => atoms_spec (ws := Cond.code yS_lchar cS_lchar 2 (some .char) :: kT) B.pre w (List.mem_cons_of_mem _ hw)
  have hown : s.vm.findClass "java/lang/StringLatin1" = some m.cls := findClass_of_methodNamed B.named
  have hlocks := B.notSynchronized
  have hS : va_S (fun q => B0 ≤ q) s.heap s.heap [] := va_S.rf
  have hl := lv_entry ([.ref (adV i), .int j]) (n := 2) (Nat.le_of_ble_eq_true rfl)
  rw [lg_entry_eq]
  generalize (lg_sl ([.ref (adV i), .int j]) ++ List.replicate (2 - (lg_sl ([.ref (adV i), .int j])).length) Slot.unset).toArray = ls at hl ⊢
  have hT := (hX.2.1.1 i hi).2.2.2
  obtain ⟨cell, c1, c2, c3, c4, c5, c6, c7⟩ := id hT
  obtain ⟨h1, h2⟩ := kin_lt (kSlen_lt i hi) hj
  refine lv_iload_n hx hb dS_lchar_0 rfl (lv_at hl 1 rfl) ?_
  refine lv_aload_n hx hb dS_lchar_1 rfl (lv_at hl 0 rfl) ?_
  refine W.alen hx hb c1 c2 c5 rfl rfl dS_lchar_2 ?_
  refine kCallP (r := none) (pc := 3) (va_runS (n := 2) (rest := []) (As := [.int j, .int (Int32.ofNat (kSlen.getD i 0))]) ⟨hx, hb, hml, hown, hts⟩ (m_check (adK := adK) (adV := adV) (B0 := B0) h1 h2) ⟨callB_of 2 hts (kGj kcS_check) rfl rfl rfl (hts _ jw_ini0) (hts _ jw_l9) ⟨by decide, by decide, by decide +kernel⟩ ⟨by decide, by decide⟩, hts _ jw_t2⟩ ⟨kFBj _, kprej (p := p) hX hS⟩ rfl rfl hl.1 rfl (lv_room (by decide)) dS_lchar_3 ⟨Nat.le_refl _, Nat.le_refl _⟩) ?_
  refine lv_aload_n hx hb dS_lchar_6 rfl (lv_at hl 0 rfl) ?_
  refine lv_iload_n hx hb dS_lchar_7 rfl (lv_at hl 1 rfl) ?_
  refine va_tb hx hb hT hS hj rfl dS_lchar_8 ?_
  refine lv_sipush (v := 255) hx hb dS_lchar_9 (by decide) ?_
  refine lv_iand hx hb dS_lchar_12 ?_
  refine lv_i2c hx hb dS_lchar_13 (sc_c2 _) ?_
  exact W.zret hx hb hr (sc_nar _) (fun t ht _ => ⟨rfl, ht⟩) (fun q h => absurd h List.not_mem_nil) dS_lchar_14
theorem m_charAt {i : Nat} (hi : i < 12) {j : Int32} (hj : vp_in j (kSlen.getD i 0)) : Met l yS_charAt (Cond.code yS_charAt cS_charAt 2 (some .char) :: kT) (kRj 4) (kPj adK adV B0 [.ref (adK i), .int j]) (kQj (some (.int ((kSbyt.getD i []).getD j.toNatClampNeg 0 &&& 255)))) 0 0 (fun _ => False) := by
  refine Met.ofW (cc := cS_charAt) (maxL := 2) (ret := some .char) (by decide) rfl ?_
  intro p e s m args below meth c s₁ B hml hv
  obtain ⟨rfl, hX⟩ := hv
  have hx := B.exec
  have hb := B.bytes
  have hr := B.returns
  have hts : ∀ w ∈ kT, w.before ([.ref (adK i), .int j] : List Value).toArray s = true := fun w hw => atoms_spec (ws := Cond.code yS_charAt cS_charAt 2 (some .char) :: kT) B.pre w (List.mem_cons_of_mem _ hw)
  have hown : s.vm.findClass "java/lang/String" = some m.cls := findClass_of_methodNamed B.named
  have hlocks := B.notSynchronized
  have hS : va_S (fun q => B0 ≤ q) s.heap s.heap [] := va_S.rf
  have hl := lv_entry ([.ref (adK i), .int j]) (n := 2) (Nat.le_of_ble_eq_true rfl)
  rw [lg_entry_eq]
  generalize (lg_sl ([.ref (adK i), .int j]) ++ List.replicate (2 - (lg_sl ([.ref (adK i), .int j])).length) Slot.unset).toArray = ls at hl ⊢
  refine lv_aload_n hx hb dS_charAt_0 rfl (lv_at hl 0 rfl) ?_
  refine kCallP (r := some (.int 1)) (pc := 1) (va_runV (C := "java/lang/String") (n := 0) (rest := []) (As := []) (b := adK i) ⟨hx, hb, hml, hown, hts⟩ (m_latin (adK := adK) (adV := adV) (B0 := B0) hi) ⟨callB_of 0 hts (kGj kcS_latin) rfl rfl rfl (hts _ jw_ini0) (hts _ jw_492) ⟨by decide, by decide, by decide +kernel⟩ ⟨by decide, by decide⟩, hts _ jw_i2, hts _ jw_s2⟩ ⟨kFBj _, vk_recv hX.2.1 hi hS, kprej (p := p) hX hS⟩ rfl rfl hl.1 rfl (lv_room (by decide)) dS_charAt_1 ⟨Nat.le_refl _, Nat.le_refl _⟩) ?_
  refine lv_if_eq (tgt := 16) hx hb dS_charAt_4 (by decide) (fun h => absurd h (by decide)) (fun _ => ?_)
  refine lv_aload_n hx hb dS_charAt_7 rfl (lv_at hl 0 rfl) ?_
  refine vk_getf hx hb (hX.2.1.1 i hi).2.2.1 hS hown (hts _ jw_9) (fun _ h => h) dS_charAt_8 ?_
  refine lv_iload_n hx hb dS_charAt_11 rfl (lv_at hl 1 rfl) ?_
  refine kCallP (pc := 12) (va_runS (n := 2) (rest := []) (As := [.ref (adV i), .int j]) ⟨hx, hb, hml, hown, hts⟩ (m_lchar (adK := adK) (adV := adV) (B0 := B0) hi hj) ⟨callB_of 2 hts (kGj kcS_lchar) rfl rfl rfl (hts _ jw_ini1) (hts _ jw_495) ⟨by decide, by decide, by decide +kernel⟩ ⟨by decide, by decide⟩, hts _ jw_t1⟩ ⟨kFBj _, kprej (p := p) hX hS⟩ rfl rfl hl.1 rfl (lv_room (by decide)) dS_charAt_12 ⟨Nat.le_refl _, Nat.le_refl _⟩) ?_
  exact W.zret hx hb hr (sc_nar _) (fun t ht _ => ⟨rfl, ht⟩) (fun q h => absurd h List.not_mem_nil) dS_charAt_15
theorem m_length {i : Nat} (hi : i < 12) : Met l yS_length (Cond.code yS_length cS_length 1 (some .int) :: kT) (kRj 2) (kPj adK adV B0 [.ref (adK i)]) (kQj (some (.int (Int32.ofNat (kSlen.getD i 0))))) 0 0 (fun _ => False) := by
  refine Met.ofW (cc := cS_length) (maxL := 1) (ret := some .int) (by decide) rfl ?_
  intro p e s m args below meth c s₁ B hml hv
  obtain ⟨rfl, hX⟩ := hv
  have hx := B.exec
  have hb := B.bytes
  have hr := B.returns
  have hts : ∀ w ∈ kT, w.before ([.ref (adK i)] : List Value).toArray s = true := fun w hw => atoms_spec (ws := Cond.code yS_length cS_length 1 (some .int) :: kT) B.pre w (List.mem_cons_of_mem _ hw)
  have hown : s.vm.findClass "java/lang/String" = some m.cls := findClass_of_methodNamed B.named
  have hlocks := B.notSynchronized
  have hS : va_S (fun q => B0 ≤ q) s.heap s.heap [] := va_S.rf
  have hl := lv_entry ([.ref (adK i)]) (n := 1) (Nat.le_of_ble_eq_true rfl)
  rw [lg_entry_eq]
  generalize (lg_sl ([.ref (adK i)]) ++ List.replicate (1 - (lg_sl ([.ref (adK i)])).length) Slot.unset).toArray = ls at hl ⊢
  obtain ⟨cell, c1, c2, c3, c4, c5, c6, c7⟩ := (hX.2.1.1 i hi).2.2.2
  refine lv_aload_n hx hb dS_length_0 rfl (lv_at hl 0 rfl) ?_
  refine vk_getf hx hb (hX.2.1.1 i hi).2.2.1 hS hown (hts _ jw_9) (fun _ h => h) dS_length_1 ?_
  refine W.alen hx hb c1 c2 c5 rfl rfl dS_length_4 ?_
  refine lv_aload_n hx hb dS_length_5 rfl (lv_at hl 0 rfl) ?_
  refine kCallP (r := some (.int 0)) (pc := 6) (va_runV (C := "java/lang/String") (n := 0) (rest := [.int (Int32.ofNat (kSlen.getD i 0))]) (As := []) (b := adK i) ⟨hx, hb, hml, hown, hts⟩ (m_coder (adK := adK) (adV := adV) (B0 := B0) hi) ⟨callB_of 0 hts (kGj kcS_coder) rfl rfl rfl (hts _ jw_ini0) (hts _ jw_335) ⟨by decide, by decide, by decide +kernel⟩ ⟨by decide, by decide⟩, hts _ jw_i1, hts _ jw_s1⟩ ⟨kFBj _, vk_recv hX.2.1 hi hS, kprej (p := p) hX hS⟩ rfl rfl hl.1 rfl (lv_room (by simp [Value.category])) dS_length_6 ⟨Nat.le_refl _, Nat.le_refl _⟩) ?_
  refine lv_ishr hx hb dS_length_9 ?_
  have e0 : Int32.ofNat (kSlen.getD i 0) >>> ((0 : Int32) &&& 31) = Int32.ofNat (kSlen.getD i 0) := sc_shr0 (kSlen_lt i hi)
  rw [e0]
  exact W.iret hx hb hr (fun t ht _ => ⟨rfl, ht⟩) (fun q h => absurd h List.not_mem_nil) dS_length_10
theorem kstr_tab : ∀ i, i < 12 → kstl (kStA + i) = kSlen.getD i 0 ∧ ∀ j, j < kSlen.getD i 0 → (kSbyt.getD i []).getD j 0 &&& 255 = kchr (kStA + i) j := by decide +kernel
def kKs (own : Nat) (e : Nat × Nat × Int) : Bool := match e with
  | (ix, 2, v) => (match kSo[v.toNat]? with | some q => decide (q.1 = kRn own) && decide (q.2.1 = ix) | none => false)
  | _ => true
theorem kKs_all : ∀ own, own < 14 → ∀ e ∈ (krK[own]?).getD [], kKs own e = true := by decide +kernel
/-- what the texts give to each frame -/
theorem kXs_ext {sc : Nat × (Nat → Int32)} {ad : Nat → Nat} (hak : ∀ i, i < 12 → ad (kStA + i) = adK i) {p : Program} {e : Env} {R : Room} {s : State} {m : MethodId} {args : Array Value} {below : List Frame} {meth : Method} {c : Code} {own y : Nat} (hx : p.tables.exec = Jvm.exec) (hts : ∀ w ∈ kT, w.before args s = true) (hown : s.vm.findClass (kRn own) = some m.cls) (ho : own < 14) (hRf : 10 ≤ R.frames) (hRl : 200 ≤ R.locals) (hX : kXs adK adV B0 s)
    (hy : y = kLaw → va_X (ad kScA) sc.1 sc.2 s s.heap ∧ ad kScA < s.heap.size ∧ ad kScA < B0) : kExt ad B0 sc own y p l e R s m args below meth c := by
  refine ⟨?_, ?_, ?_, hy⟩
  · intro H locs cells slots Q pc ls rest ix len k hk hd hS kk
    obtain ⟨r, hr, hm⟩ := klk_mem hk
    have h1 := kKs_all own ho (ix, 2, k) (by rw [hr]; exact hm)
    unfold kKs at h1
    simp only at h1
    cases hq : kSo[k.toNat]? with
    | none => rw [hq] at h1; cases h1
    | some q =>
      rw [hq] at h1
      simp only [Bool.and_eq_true, decide_eq_true_eq] at h1
      have hlt : k.toNat < 12 := by
        have := (List.getElem?_eq_some_iff.mp hq).1
        simpa [kSo] using this
      have hZ := hX.1 _ q hq
      rw [h1.1, h1.2] at hZ
      rw [hak _ hlt] at kk
      rcases hd with ⟨hd, rfl⟩ | ⟨hd, rfl⟩
      · exact va_ldcS hx rfl hown hZ hd kk
      · intro T hT X
        obtain ⟨t, a1, b1⟩ := kk T hT X
        exact ⟨t, X.ldcStringW hx hown (text := q.2.2) (a := adK k.toNat) hZ.1 hZ.2 (g := F0 m pc ls rest) rfl hd t a1, b1⟩
  · intro H locs cells slots Q pc ls rest a ix ha hl hd hls h8 hS hc hsl kk
    obtain ⟨i, hi, rfl⟩ : ∃ i, i < 12 ∧ a = kStA + i := ⟨a - kStA, by have := ha.2; simp [kStr] at this; omega, by omega⟩
    rw [hak i hi]
    rw [(kstr_tab i hi).1] at kk
    exact kCallP (pc := pc) (va_runV (C := "java/lang/String") (n := 0) (As := []) (b := adK i) ⟨hx, rfl, rfl, hown, hts⟩ (m_length (adK := adK) (adV := adV) (B0 := B0) hi) ⟨callB_of 0 hts (kGj kcS_length) rfl rfl rfl (hts _ jw_ini0) (hts _ hl) ⟨by decide, by decide, by decide +kernel⟩ ⟨by show 2 + 1 ≤ _; omega, by show 8 + (1 + 11) + 40 * 2 ≤ _; omega⟩, hts _ jw_i3, hts _ jw_s3⟩ ⟨kFBj _, vk_recv hX.2.1 hi hS, kprej (p := p) hX hS⟩ rfl rfl hls rfl (lv_room h8) hd ⟨by omega, by omega⟩) kk
  · intro H locs cells slots Q pc ls rest a ix j hj hl hd hls h8 hS hc hsl kk
    have ha : kStA ≤ a ∧ a < kStA + kStr.length := by
      unfold kstl at hj
      by_cases q : kStA ≤ a ∧ a < kStA + kStr.length
      · exact q
      · rw [if_neg q] at hj; exact absurd (Or.inr (Nat.zero_le _)) hj
    obtain ⟨i, hi, rfl⟩ : ∃ i, i < 12 ∧ a = kStA + i := ⟨a - kStA, by have := ha.2; simp [kStr] at this; omega, by omega⟩
    rw [hak i hi]
    rw [(kstr_tab i hi).1] at hj
    have hjl : j.toNatClampNeg < kSlen.getD i 0 := Nat.not_le.mp fun q => hj (Or.inr q)
    rw [← (kstr_tab i hi).2 _ hjl] at kk
    exact kCallP (pc := pc) (va_runV (C := "java/lang/String") (n := 1) (As := [.int j]) (b := adK i) ⟨hx, rfl, rfl, hown, hts⟩ (m_charAt (adK := adK) (adV := adV) (B0 := B0) hi hj) ⟨callB_of 1 hts (kGj kcS_charAt) rfl rfl rfl (hts _ jw_ini0) (hts _ hl) ⟨by decide, by decide, by decide +kernel⟩ ⟨by show 4 + 1 ≤ _; omega, by show 8 + (2 + 11) + 40 * 4 ≤ _; omega⟩, hts _ jw_i4, hts _ jw_s4⟩ ⟨kFBj _, vk_recv hX.2.1 hi hS, kprej (p := p) hX hS⟩ rfl rfl hls rfl (lv_room h8) hd ⟨by omega, by omega⟩) kk
end KStr
