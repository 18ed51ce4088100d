/-! one instruction on the machine, over the abstract cells -/
section KSim
variable {p : Program} {l : Launch} {e : Env} {R : Room} {s : State} {m : MethodId} {args : Array Value} {below : List Frame} {meth : Method} {c : Code} {H : Heap} {locs : List Loc} {cells slots : Nat} {Q : State → Prop}
variable {cc : ByteArray} {pc : Nat} {ls : Array Slot} {rest : List Value} {ad : Nat → Nat} {cT : Nat → ClassId} {D : va_G} {B0 : Nat} {S : kS}
def kRep (ad : Nat → Nat) (cT : Nat → ClassId) (D : va_G) (S : kS) (H : Heap) : Prop := va_P D vwCl (kW ad cT S) H ∧ S.1.1 ≤ 1000 ∧ ∀ a k, kisr (S.2.2.2 a k)
def kK (cT : Nat → ClassId) (D : va_G) (U : State) : Prop := va_K D vwCl [] U ∧ (∀ t, t < 5 → ArrOfT U (cT t) (kty t) ∧ va_RA U (cT t) (kty t)) ∧ va_AO "HatAtCouncil$Night" U ∧ ∀ w ∈ kN, va_Nw w U
theorem kK.arr (h : kK cT D s) {t : Nat} (ht : t < 5) : va_K D vwCl [(cT t, kty t)] s := ⟨h.1.1, fun k q hk => by
  cases k with
  | zero => cases hk; exact h.2.1 t ht
  | succ k => simp at hk⟩
theorem kN_warm {U : State} (hW : s.WarmedH U.vm) {w : Cond} (hn : kisN w = true) (h : va_Nw w s) : va_Nw w U := by
  cases w <;> first | exact va_Nw.warmF hW h | exact va_Nw.warmM hW h | cases hn
theorem kN_same {u U : State} (hv : u.vm = U.vm) {w : Cond} (hn : kisN w = true) (h : va_Nw w u) : va_Nw w U := by
  cases w <;> first | exact va_Nw.same rfl hv h | cases hn
theorem kK.warm {U : State} (hW : s.WarmedH U.vm) (h : kK cT D s) : kK cT D U := ⟨va_K.moved hW.alike h.1, fun t ht => ⟨arrOfT_moved hW.alike (h.2.1 t ht).1, (h.2.1 t ht).2.moved hW.alike⟩, va_AO.moved hW.alike h.2.2.1, fun w hw => kN_warm hW (List.mem_filter.mp hw).2 (h.2.2.2 w hw)⟩
theorem kK.same {u U : State} (hv : u.vm = U.vm) (h : kK cT D u) : kK cT D U := by
  have ha : u.vm.Alike U.vm := hv ▸ Vm.Alike.refl u.vm
  exact ⟨va_K.moved ha h.1, fun t ht => ⟨arrOfT_moved ha (h.2.1 t ht).1, (h.2.1 t ht).2.moved ha⟩, va_AO.moved ha h.2.2.1, fun w hw => kN_same hv (List.mem_filter.mp hw).2 (h.2.2.2 w hw)⟩
/-- the heap is no larger than what was made -/
theorem kSized (h : H.size ≤ s.heap.size + cells → W p l e R s m args below meth c H locs cells slots Q (F0 m pc ls rest)) : W p l e R s m args below meth c H locs cells slots Q (F0 m pc ls rest) := fun T hT X => h (by rw [← hT]; exact X.heapSize) T hT X
theorem kobj_at {a ci : Nat} (h : kob S.1 a ci) : (kW ad cT S)[a]? = some (ad a, .inr (ci, (List.range ((kNF[ci]?).getD 0)).map (fun k => kfv ad S.2.1 S.2.2.2 a ci k))) := by
  rw [kW_get h.1, kE_obj h.2]
theorem klen_sh {a b : Nat} {j : Int32} (h : kin j (klen a b)) : kSH a = .inr (b, klen a b) := by
  unfold klen at h ⊢
  cases hs : kSH a with
  | inl ci => rw [hs] at h; exact absurd (Or.inr (Nat.zero_le _)) h
  | inr q =>
    obtain ⟨t, n⟩ := q
    rw [hs] at h
    by_cases e : t = b
    · subst e; simp
    · simp only [e, if_false] at h
      exact absurd (Or.inr (Nat.zero_le _)) h
theorem karr_at {a b : Nat} {j : Int32} (h : kar S.1 a b j) : (kW ad cT S)[a]? = some (ad a, .inl (cT b, kAr ad S.2.1 S.2.2.1 S.2.2.2 a b (klen a b))) := by
  rw [kW_get h.1, kE_arr (klen_sh h.2)]
theorem k_get (hx : p.tables.exec = Jvm.exec) (hb : c.code = cc) (hts : ∀ w ∈ kT, w.before args s = true) (hK : kK cT D s) {own : Nat} (hown : s.vm.findClass (kRn own) = some m.cls) (ho : own < 14) (hR : kRep ad cT D S H) {ix ci k ty nest a : Nat} (hl : klk krF own ix = some (ci, k, ty, nest)) (hob : kob S.1 a ci) (hdg : decode cc pc = .ok (.getfield ix, 3))
    (kk : W p l e R s m args below meth c H locs cells slots Q (F0 m (pc + 3) ls (kfv ad S.2.1 S.2.2.2 a ci k :: rest))) : W p l e R s m args below meth c H locs cells slots Q (F0 m pc ls (.ref (ad a) :: rest)) := by
  obtain ⟨C, Tt, N, hv, hk, hty, hlink⟩ := kFw ho hl
  obtain ⟨hws, -, -, -, -, hnf, -⟩ := kCall ci C Tt N hv
  have hfs : ((List.range ((kNF[ci]?).getD 0)).map (fun k => kfv ad S.2.1 S.2.2.2 a ci k))[k]? = some (kfv ad S.2.1 S.2.2.2 a ci k) := by
    rw [hnf]; simp [hk]
  rcases hlink with ⟨-, h1⟩ | ⟨-, h1⟩
  · exact va_get hx hb hts hws hown hK.1 hR.1 a (kobj_at hob) hv k hk (hts _ h1) (fun _ h => h) hfs hdg kk
  · exact va_getN hx hb hts hws hown hK.1 hR.1 a (kobj_at hob) hv k hk (va_Nw.use rfl (hK.2.2.2 _ h1)) (fun _ h => h) hfs hdg kk
theorem kW_puti {a ci k : Nat} {x : Int32} (hs : kSH a = .inl ci) (hk : kft ci k ≠ 2) : (kW ad cT S).set a (ad a, .inr (ci, ((List.range ((kNF[ci]?).getD 0)).map (fun k => kfv ad S.2.1 S.2.2.2 a ci k)).set k (.int x))) = kW ad cT (S.1, kupi S.2.1 a k x, S.2.2) := by
  refine kW_set rfl ?_ (fun b hb => kE_cong (kupi_ne hb) rfl rfl)
  rw [kE_obj hs]
  congr 2
  refine (kmap_set (fun j hj => ?_) ?_).symm
  · show kfv ad (kupi S.2.1 a k x) S.2.2.2 a ci j = kfv ad S.2.1 S.2.2.2 a ci j
    simp [kfv, kupi, hj]
  · show kfv ad (kupi S.2.1 a k x) S.2.2.2 a ci k = .int x
    simp [kfv, kupi, hk]
theorem kW_putr {a ci k x : Nat} (hs : kSH a = .inl ci) (hk : kft ci k = 2) : (kW ad cT S).set a (ad a, .inr (ci, ((List.range ((kNF[ci]?).getD 0)).map (fun k => kfv ad S.2.1 S.2.2.2 a ci k)).set k (.ref (ad x)))) = kW ad cT (S.1, S.2.1, S.2.2.1, kupr S.2.2.2 a k (.ref x)) := by
  refine kW_set rfl ?_ (fun b hb => kE_cong rfl rfl (kupr_ne hb))
  rw [kE_obj hs]
  congr 2
  refine (kmap_set (fun j hj => ?_) ?_).symm
  · show kfv ad S.2.1 (kupr S.2.2.2 a k (.ref x)) a ci j = kfv ad S.2.1 S.2.2.2 a ci j
    simp [kfv, kupr, hj]
  · show kfv ad S.2.1 (kupr S.2.2.2 a k (.ref x)) a ci k = .ref (ad x)
    simp [kfv, kupr, hk, kcv]
theorem kisr_upr {r : Nat → Nat → Value} {a k x : Nat} (h : ∀ a k, kisr (r a k)) : ∀ b j, kisr (kupr r a k (.ref x) b j) := by
  intro b j
  unfold kupr
  by_cases q : b = a ∧ j = k
  · rw [if_pos q]; exact Or.inr ⟨x, rfl⟩
  · rw [if_neg q]; exact h b j
/-- a store into a field: the value fits it -/
theorem k_put (hAd : ∀ a, a < 1000 → ad a = B0 + a) (hx : p.tables.exec = Jvm.exec) (hb : c.code = cc) (hts : ∀ w ∈ kT, w.before args s = true) (hK : kK cT D s) {own : Nat} (hown : s.vm.findClass (kRn own) = some m.cls) (ho : own < 14) (hR : kRep ad cT D S H) (hS : va_S (fun q => B0 ≤ q) s.heap H locs) {ix ci k ty nest a : Nat} (hl : klk krF own ix = some (ci, k, ty, nest)) (hob : kob S.1 a ci) {v : Value}
    (hfin : ∀ C Tt N, vwCl[ci]? = some (C, Tt, N) → (Tt k).2.2.2 = true → meth.name = "<init>" ∧ ci = own)
    (hv : ∀ ty0 : FieldType, kftok ty0 ty = true → narrow ty0 v = v ∧ fits ty0 v = true) (hdg : decode cc pc = .ok (.putfield ix, 3))
    (kk : ∀ (H1 : Heap) (locs1 : List Loc), va_P D vwCl ((kW ad cT S).set a (ad a, .inr (ci, ((List.range ((kNF[ci]?).getD 0)).map (fun k => kfv ad S.2.1 S.2.2.2 a ci k)).set k v))) H1 → va_S (fun q => B0 ≤ q) s.heap H1 locs1 → W p l e R s m args below meth c H1 locs1 cells slots Q (F0 m (pc + 3) ls rest)) : W p l e R s m args below meth c H locs cells slots Q (F0 m pc ls (v :: .ref (ad a) :: rest)) := by
  obtain ⟨C, Tt, N, hvw, hk, hty, hlink⟩ := kFw ho hl
  obtain ⟨hws, ⟨ty0, hty0, hok⟩, hnm, -, -, hnf, hrn, hdecl⟩ := kCall ci C Tt N hvw
  have hD := kW_D (cT := cT) (S := S) hAd hR.2.1
  have hn := hv (ty0 k) (by rw [← hty]; exact hok k hk)
  have hlen : k < ((List.range ((kNF[ci]?).getD 0)).map (fun k => kfv ad S.2.1 S.2.2.2 a ci k)).length := by
    rw [hnf]; simpa using hk
  by_cases hf : (Tt k).2.2.2 = true
  · obtain ⟨hin, hco⟩ := hfin C Tt N hvw hf
    rcases hlink with ⟨-, h1⟩ | ⟨hne, h1⟩
    · exact va_putF hx hb hts hws ty0 hty0 hnm hown hK.1 hR.1 hD hS a (kobj_at hob) hvw k hk (hts _ h1) (fun _ h => h) hf hin (by rw [hdecl k hk, ← hrn, hco]) (hty0 k hk) hn.1 hn.2 hlen hdg (fun H1 locs1 g1 _ g3 => kk H1 locs1 g1 g3)
    · exact absurd hco hne
  · have hf : (Tt k).2.2.2 = false := by simpa using hf
    rcases hlink with ⟨-, h1⟩ | ⟨-, h1⟩
    · exact va_put hx hb hts hws ty0 hty0 hnm hown hK.1 hR.1 hD hS a (kobj_at hob) hvw k hk (hts _ h1) (fun _ h => h) hf (hty0 k hk) hn.1 hn.2 hlen hdg (fun H1 locs1 g1 _ g3 => kk H1 locs1 g1 g3)
    · exact va_putN hx hb hts hws ty0 hty0 hnm hown hK.1 hR.1 hD hS a (kobj_at hob) hvw k hk (va_Nw.use rfl (hK.2.2.2 _ h1)) (fun _ h => h) hf (hty0 k hk) hn.1 hn.2 hlen hdg (fun H1 locs1 g1 _ g3 => kk H1 locs1 g1 g3)
theorem kAr_i {i : Nat → Nat → Int32} {l : Nat → Nat → Int64} {r : Nat → Nat → Value} {a t n : Nat} (h : t < 3) : kAr ad i l r a t n = (n, .inl (i a)) := by
  unfold kAr; rw [if_neg (by omega), if_neg (by omega)]
theorem kAr_l {i : Nat → Nat → Int32} {l : Nat → Nat → Int64} {r : Nat → Nat → Value} {a n : Nat} : kAr ad i l r a 3 n = (n, .inr (.inl (l a))) := rfl
theorem kAr_r {i : Nat → Nat → Int32} {l : Nat → Nat → Int64} {r : Nat → Nat → Value} {a n : Nat} : kAr ad i l r a 4 n = (n, .inr (.inr (.inr (.inr (fun j => kro ad (r a j)))))) := rfl
theorem karr_i {a b : Nat} {j : Int32} (hb : b < 3) (h : kar S.1 a b j) : (kW ad cT S)[a]? = some (ad a, .inl (cT b, klen a b, .inl (S.2.1 a))) := by
  rw [karr_at h, kAr_i hb]
theorem kW_ari {a b j : Nat} {x : Int32} (hb : b < 3) (hs : kSH a = .inr (b, klen a b)) : (kW ad cT S).set a (ad a, .inl (cT b, klen a b, .inl (upd (S.2.1 a) j x))) = kW ad cT (S.1, kupi S.2.1 a j x, S.2.2) := by
  refine kW_set rfl ?_ (fun b hb => kE_cong (kupi_ne hb) rfl rfl)
  rw [kE_arr hs, kAr_i hb]
  show (Sum.inl (cT b, klen a b, Sum.inl (kupi S.2.1 a j x a)) : va_E) = _
  rw [kupi_eq]
theorem kW_arl {a j : Nat} {x : Int64} (hs : kSH a = .inr (3, klen a 3)) : (kW ad cT S).set a (ad a, .inl (cT 3, klen a 3, .inr (.inl (vp_updL (S.2.2.1 a) j x)))) = kW ad cT (S.1, S.2.1, kupl S.2.2.1 a j x, S.2.2.2) := by
  refine kW_set rfl ?_ (fun b hb => kE_cong rfl (kupl_ne hb) rfl)
  rw [kE_arr hs, kAr_l]
  show (Sum.inl (cT 3, klen a 3, Sum.inr (Sum.inl (kupl S.2.2.1 a j x a))) : va_E) = _
  rw [kupl_eq]
theorem kW_arr {a j x : Nat} (hs : kSH a = .inr (4, klen a 4)) : (kW ad cT S).set a (ad a, .inl (cT 4, klen a 4, .inr (.inr (.inr (.inr (va_up (fun j => kro ad (S.2.2.2 a j)) j (some (ad x)))))))) = kW ad cT (S.1, S.2.1, S.2.2.1, kupr S.2.2.2 a j (.ref x)) := by
  refine kW_set rfl ?_ (fun b hb => kE_cong rfl rfl (kupr_ne hb))
  have hf : (fun k => kro ad (kupr S.2.2.2 a j (.ref x) a k)) = va_up (fun j => kro ad (S.2.2.2 a j)) j (some (ad x)) := by
    funext k
    simp only [kupr, va_up]
    by_cases e : k = j
    · simp [e, kro]
    · simp [e]
  rw [kE_arr hs, kAr_r]
  show (Sum.inl (cT 4, klen a 4, Sum.inr (Sum.inr (Sum.inr (Sum.inr (fun k => kro ad (kupr S.2.2.2 a j (.ref x) a k)))))) : va_E) = _
  rw [hf]
theorem kro_cv {v : Value} (h : kisr v) : va_rf (kro ad v) = kcv ad v := by
  rcases h with rfl | ⟨x, rfl⟩ <;> rfl
theorem kRep.size (hAd : ∀ a, a < 1000 → ad a = B0 + a) (hR : kRep ad cT D S H) (hB : B0 ≤ H.size) : B0 + S.1.1 ≤ H.size := by
  cases hn : S.1.1 with
  | zero => simpa using hB
  | succ k =>
    have hk : k < S.1.1 := by omega
    have h1 := (hR.1 k _ (kW_get hk)).lt
    have h2 : ad k < H.size := h1
    rw [hAd k (by have := hR.2.1; omega)] at h2
    omega
theorem kW_fresh {w : Nat} {e0 : va_E} (he : kE ad cT (kfresh S w).2.1 (kfresh S w).2.2.1 (kfresh S w).2.2.2 S.1.1 = e0) : kW ad cT S ++ [(ad S.1.1, e0)] = kW ad cT (kfresh S w) := by
  unfold kW
  show _ = (List.range (S.1.1 + 1)).map _
  rw [List.range_succ, List.map_append]
  congr 1
  · refine List.map_congr_left fun a ha => ?_
    have hne : a ≠ S.1.1 := by have := List.mem_range.mp ha; omega
    have h1 : (kfresh S w).2.1 a = S.2.1 a := by funext k; simp [kfresh, hne]
    have h2 : (kfresh S w).2.2.1 a = S.2.2.1 a := by funext k; simp [kfresh, hne]
    have h3 : (kfresh S w).2.2.2 a = S.2.2.2 a := by funext k; simp [kfresh, hne]
    rw [kE_cong h1 h2 h3]
  · simp [he]
theorem kfreshq (hAd : ∀ a, a < 1000 → ad a = B0 + a) {q : Nat} {e0 : va_E} {H1 : Heap} (hn : S.1.1 < 1000) (hD : va_D (fun q => B0 ≤ q) (kW ad cT S ++ [(q, e0)])) (hP : va_P D vwCl (kW ad cT S ++ [(q, e0)]) H1) (hz : H1.size ≤ B0 + S.1.1 + 1) : q = ad S.1.1 := by
  have h1 : (kW ad cT S ++ [(q, e0)])[S.1.1]? = some (q, e0) := by
    rw [List.getElem?_append_right (by rw [kW_len]; exact Nat.le_refl _), kW_len, Nat.sub_self]; rfl
  have h2 : q < H1.size := (hP _ _ h1).lt
  have h3 : B0 ≤ q := hD.2 _ _ h1
  rw [hAd _ hn]
  rcases Nat.lt_or_ge q (B0 + S.1.1) with h4 | h4
  · have hk : q - B0 < S.1.1 := by omega
    have h5 : (kW ad cT S ++ [(q, e0)])[q - B0]? = some (ad (q - B0), kE ad cT S.2.1 S.2.2.1 S.2.2.2 (q - B0)) := by
      rw [List.getElem?_append_left (by rw [kW_len]; exact hk)]
      exact kW_get hk
    have h6 := hD.1 _ _ _ _ h5 h1 (by show ad (q - B0) = q; rw [hAd _ (by omega)]; omega)
    omega
  · omega
theorem kisr_fresh {w : Nat} (h : ∀ a k, kisr (S.2.2.2 a k)) : ∀ a k, kisr ((kfresh S w).2.2.2 a k) := by
  intro a k
  show kisr (if a = S.1.1 then .null else S.2.2.2 a k)
  split
  · exact Or.inl rfl
  · exact h a k
theorem kRA_inj {cA cB : ClassId} {ty : FieldType} (h1 : va_RA s cA ty) (h2 : va_RA s cB ty) : cA = cB := by
  cases ty with
  | object C =>
    obtain ⟨_, _, _, _, _, h1⟩ := h1
    obtain ⟨_, _, _, _, _, h2⟩ := h2
    exact Option.some.inj (h1.symm.trans h2)
  | _ =>
    have h1 : s.vm.findClass _ = some cA := h1
    have h2 : s.vm.findClass _ = some cB := h2
    exact Option.some.inj (h1.symm.trans h2)
/-- new: an object -/
theorem k_new (hAd : ∀ a, a < 1000 → ad a = B0 + a) (hx : p.tables.exec = Jvm.exec) (hb : c.code = cc) (hts : ∀ w ∈ kT, w.before args s = true) (hK : kK cT D s) {own : String} (hown : s.vm.findClass own = some m.cls) (hR : kRep ad cT D S H) (hS : va_S (fun q => B0 ≤ q) s.heap H locs) (hB : B0 ≤ s.heap.size) {ix ci N : Nat} {C : String} {Tt : u_T} (hv : vwCl[ci]? = some (C, Tt, N)) (hcl : Cond.classLink own ix C ∈ kT)
    (hsh : kSH S.1.1 = .inl ci) (hn : S.1.1 < 1000) (hz : s.heap.size + cells ≤ B0 + S.1.1) (hcells : cells + 1 ≤ R.cells) (hslots : slots + N ≤ R.slots) (hdg : decode cc pc = .ok (.new ix, 3))
    (kk : ∀ (H1 : Heap), kRep ad cT D (kfresh S N) H1 → va_S (fun q => B0 ≤ q) s.heap H1 locs → W p l e R s m args below meth c H1 locs (cells + 1) (slots + N) Q (F0 m (pc + 3) ls (.ref (ad S.1.1) :: rest))) : W p l e R s m args below meth c H locs cells slots Q (F0 m pc ls rest) := by
  obtain ⟨hws, ⟨ty0, hty0, hok⟩, hnm, hins, hini, hnf, hrn, hdecl⟩ := kCall ci C Tt N hv
  have hD := kW_D (cT := cT) (S := S) hAd hR.2.1
  have he : kE ad cT (kfresh S N).2.1 (kfresh S N).2.2.1 (kfresh S N).2.2.2 S.1.1 = .inr (ci, (List.range N).map (fun k => kfv ad (kfresh S N).2.1 (kfresh S N).2.2.2 S.1.1 ci k)) := by
    rw [kE_obj hsh, hnf]; rfl
  refine va_new (fs := (List.range N).map (fun k => kfv ad (kfresh S N).2.1 (kfresh S N).2.2.2 S.1.1 ci k)) hx hb hts hws ty0 hty0 hown (hts _ hcl) (hts _ hins) (hts _ hini) hK.1 hR.1 hD hS (fun q hq => Nat.le_trans hB hq) hv (fun j hj => ?_) hcells hslots hdg (fun q H1 g1 g2 g3 => ?_)
  · have h1 := hok j hj
    show defaultValue (ty0 j) = ((List.range N).map (fun k => kfv ad (kfresh S N).2.1 (kfresh S N).2.2.2 S.1.1 ci k)).getD j .null
    simp only [List.getD_eq_getElem?_getD, List.getElem?_map, List.getElem?_range hj, Option.map_some, Option.getD_some]
    simp only [kfv, kfresh, if_true]
    cases hk : kft ci j with
    | zero => rw [hk] at h1; cases hq : ty0 j <;> rw [hq] at h1 <;> first | rfl | cases h1
    | succ n => match n with
      | 0 => rw [hk] at h1; cases hq : ty0 j <;> rw [hq] at h1 <;> cases h1
      | 1 => rw [hk] at h1; cases hq : ty0 j <;> rw [hq] at h1 <;> first | rfl | cases h1
      | 2 => rw [hk] at h1; cases hq : ty0 j <;> rw [hq] at h1 <;> first | rfl | cases h1
      | n + 3 => rw [hk] at h1; cases hq : ty0 j <;> rw [hq] at h1 <;> cases h1
  · refine kSized fun hsz => ?_
    have hq : q = ad S.1.1 := kfreshq hAd hn g2 g1 (by omega)
    subst hq
    exact kk H1 ⟨by rw [← kW_fresh he]; exact g1, by show S.1.1 + 1 ≤ 1000; omega, kisr_fresh hR.2.2⟩ g3
/-- new: an array of numbers -/
theorem k_newa (hAd : ∀ a, a < 1000 → ad a = B0 + a) (hx : p.tables.exec = Jvm.exec) (hb : c.code = cc) (hts : ∀ w ∈ kT, w.before args s = true) (hK : kK cT D s) (hR : kRep ad cT D S H) (hS : va_S (fun q => B0 ≤ q) s.heap H locs) (hB : B0 ≤ s.heap.size) {atype : ArrayType} {t : Nat} (ht : kat atype = some t)
    {x : Int32} (hx0 : ¬ x < 0) (hx1 : x.toNatClampNeg ≤ 65536) (hsh : kSH S.1.1 = .inr (t, x.toNatClampNeg)) (hn : S.1.1 < 1000) (hz : s.heap.size + cells ≤ B0 + S.1.1) (hcells : cells + 1 ≤ R.cells) (hslots : slots + x.toNatClampNeg ≤ R.slots) (hdg : decode cc pc = .ok (.newarray atype, 2))
    (kk : ∀ (H1 : Heap), kRep ad cT D (kfresh S x.toNatClampNeg) H1 → va_S (fun q => B0 ≤ q) s.heap H1 locs → W p l e R s m args below meth c H1 locs (cells + 1) (slots + x.toNatClampNeg) Q (F0 m (pc + 2) ls (.ref (ad S.1.1) :: rest))) : W p l e R s m args below meth c H locs cells slots Q (F0 m pc ls (.int x :: rest)) := by
  have hD := kW_D (cT := cT) (S := S) hAd hR.2.1
  have ht4 : t < 4 := by cases atype <;> simp [kat] at ht <;> omega
  have hty : newarray.typeOf atype = kty t := by cases atype <;> simp [kat] at ht <;> subst ht <;> rfl
  have harr : Cond.arrayClass (newarray.typeOf atype) ∈ kT := by cases atype <;> simp [kat] at ht <;> exact kT_of (by decide +kernel) rfl
  have he : kE ad cT (kfresh S x.toNatClampNeg).2.1 (kfresh S x.toNatClampNeg).2.2.1 (kfresh S x.toNatClampNeg).2.2.2 S.1.1 = .inl (cT t, kAr ad (kfresh S x.toNatClampNeg).2.1 (kfresh S x.toNatClampNeg).2.2.1 (kfresh S x.toNatClampNeg).2.2.2 S.1.1 t x.toNatClampNeg) := by
    rw [kE_arr hsh]
  refine va_newa (a0 := kAr ad (kfresh S x.toNatClampNeg).2.1 (kfresh S x.toNatClampNeg).2.2.1 (kfresh S x.toNatClampNeg).2.2.2 S.1.1 t x.toNatClampNeg) hx hb (hts _ harr) hty hK.1 hR.1 hD hS (fun q hq => Nat.le_trans hB hq) (fun cA => ?_) hx0 rfl ?_ hcells hslots hdg (fun q cA H1 g0 g1 g2 g3 => ?_)
  · match t, ht4 with
    | 0, _ => rw [kAr_i (by omega), vp_cell_i]; congr 1; funext j; simp [kfresh, kty, defaultValue]
    | 1, _ => rw [kAr_i (by omega), vp_cell_i]; congr 1; funext j; simp [kfresh, kty, defaultValue]
    | 2, _ => rw [kAr_i (by omega), vp_cell_i]; congr 1; funext j; simp [kfresh, kty, defaultValue]
    | 3, _ => rw [kAr_l, vp_cell_l]; congr 1; funext j; simp [kfresh, kty, defaultValue]
  · match t, ht4 with
    | 0, _ => show x.toNatClampNeg * componentBytes .int ≤ _; simp [componentBytes]; omega
    | 1, _ => show x.toNatClampNeg * componentBytes .char ≤ _; simp [componentBytes]; omega
    | 2, _ => show x.toNatClampNeg * componentBytes .boolean ≤ _; simp [componentBytes]; omega
    | 3, _ => show x.toNatClampNeg * componentBytes .long ≤ _; simp [componentBytes]; omega
  · refine kSized fun hsz => ?_
    have hq : q = ad S.1.1 := kfreshq hAd hn g2 g1 (by omega)
    have hc : cA = cT t := by
      exact kRA_inj (g0.2 0 (cA, kty t) rfl).2 (hK.2.1 t (by omega)).2
    subst hq; subst hc
    exact kk H1 ⟨by rw [← kW_fresh he]; exact g1, by show S.1.1 + 1 ≤ 1000; omega, kisr_fresh hR.2.2⟩ g3
/-- new: an array of nights -/
theorem k_newr (hAd : ∀ a, a < 1000 → ad a = B0 + a) (hx : p.tables.exec = Jvm.exec) (hb : c.code = cc) (hts : ∀ w ∈ kT, w.before args s = true) (hK : kK cT D s) {own : String} (hown : s.vm.findClass own = some m.cls) (hR : kRep ad cT D S H) (hS : va_S (fun q => B0 ≤ q) s.heap H locs) (hB : B0 ≤ s.heap.size) {ix : Nat} (hcl : Cond.classLink own ix "HatAtCouncil$Night" ∈ kT)
    {x : Int32} (hx0 : ¬ x < 0) (hx1 : x.toNatClampNeg ≤ 65536) (hsh : kSH S.1.1 = .inr (4, x.toNatClampNeg)) (hn : S.1.1 < 1000) (hz : s.heap.size + cells ≤ B0 + S.1.1) (hcells : cells + 1 ≤ R.cells) (hslots : slots + x.toNatClampNeg ≤ R.slots) (hdg : decode cc pc = .ok (.anewarray ix, 3))
    (kk : ∀ (H1 : Heap), kRep ad cT D (kfresh S x.toNatClampNeg) H1 → va_S (fun q => B0 ≤ q) s.heap H1 locs → W p l e R s m args below meth c H1 locs (cells + 1) (slots + x.toNatClampNeg) Q (F0 m (pc + 3) ls (.ref (ad S.1.1) :: rest))) : W p l e R s m args below meth c H locs cells slots Q (F0 m pc ls (.int x :: rest)) := by
  have hD := kW_D (cT := cT) (S := S) hAd hR.2.1
  have he : kE ad cT (kfresh S x.toNatClampNeg).2.1 (kfresh S x.toNatClampNeg).2.2.1 (kfresh S x.toNatClampNeg).2.2.2 S.1.1 = .inl (cT 4, x.toNatClampNeg, .inr (.inr (.inr (.inr (fun _ => none))))) := by
    have hf : (fun j => kro ad ((kfresh S x.toNatClampNeg).2.2.2 S.1.1 j)) = fun _ => none := by
      funext j
      simp [kfresh, kro]
    rw [kE_arr hsh, kAr_r, hf]
  refine va_newq hx hb hown (hts _ hcl) hK.2.2.1 hK.1 hR.1 hD hS (fun q hq => Nat.le_trans hB hq) hx0 rfl (by omega) hcells hslots hdg (fun q cA H1 g0 g1 g2 g3 => ?_)
  refine kSized fun hsz => ?_
  have hq : q = ad S.1.1 := kfreshq hAd hn g2 g1 (by omega)
  have hc : cA = cT 4 := by
    exact kRA_inj (g0.2 0 (cA, .object "HatAtCouncil$Night") rfl).2 (hK.2.1 4 (by omega)).2
  subst hq; subst hc
  exact kk H1 ⟨by rw [← kW_fresh he]; exact g1, by show S.1.1 + 1 ≤ 1000; omega, kisr_fresh hR.2.2⟩ g3
end KSim
