/-! how the abstract cells stand for the machine's -/
section KR
def kcv (ad : Nat → Nat) (v : Value) : Value := match v with | .ref a => .ref (ad a) | v => v
def kro (ad : Nat → Nat) (v : Value) : Option Nat := match v with | .ref a => some (ad a) | _ => none
def kfv (ad : Nat → Nat) (i : Nat → Nat → Int32) (r : Nat → Nat → Value) (a ci k : Nat) : Value := if kft ci k = 2 then kcv ad (r a k) else .int (i a k)
def kAr (ad : Nat → Nat) (i : Nat → Nat → Int32) (l : Nat → Nat → Int64) (r : Nat → Nat → Value) (a t n : Nat) : vp_A := if t = 3 then (n, .inr (.inl (l a))) else if t = 4 then (n, .inr (.inr (.inr (.inr (fun j => kro ad (r a j)))))) else (n, .inl (i a))
def kE (ad : Nat → Nat) (cT : Nat → ClassId) (i : Nat → Nat → Int32) (l : Nat → Nat → Int64) (r : Nat → Nat → Value) (a : Nat) : va_E := match kSH a with
  | .inl ci => .inr (ci, (List.range ((kNF[ci]?).getD 0)).map (fun k => kfv ad i r a ci k))
  | .inr (t, n) => .inl (cT t, kAr ad i l r a t n)
def kW (ad : Nat → Nat) (cT : Nat → ClassId) (S : kS) : va_W := (List.range S.1.1).map (fun a => (ad a, kE ad cT S.2.1 S.2.2.1 S.2.2.2 a))
def kisr (v : Value) : Prop := v = .null ∨ ∃ x, v = .ref x
def kty (t : Nat) : FieldType := if t = 0 then .int else if t = 1 then .char else if t = 2 then .boolean else if t = 3 then .long else .object "HatAtCouncil$Night"
variable {ad : Nat → Nat} {cT : Nat → ClassId} {S : kS} {B0 : Nat}
theorem kW_get {a : Nat} (h : a < S.1.1) : (kW ad cT S)[a]? = some (ad a, kE ad cT S.2.1 S.2.2.1 S.2.2.2 a) := by
  simp [kW, h]
theorem kW_len : (kW ad cT S).length = S.1.1 := by simp [kW]
theorem kW_D (hAd : ∀ a, a < 1000 → ad a = B0 + a) (hn : S.1.1 ≤ 1000) : va_D (fun q => B0 ≤ q) (kW ad cT S) := by
  have key : ∀ (k : Nat) (q : Nat × va_E), (kW ad cT S)[k]? = some q → k < S.1.1 ∧ q.1 = B0 + k := by
    intro k q hk
    have hl : k < S.1.1 := by have := (List.getElem?_eq_some_iff.mp hk).1; rwa [kW_len] at this
    rw [kW_get hl] at hk
    cases hk
    exact ⟨hl, hAd k (by omega)⟩
  refine ⟨fun i j p q h1 h2 h3 => ?_, fun k q hk => ?_⟩
  · have a1 := key i p h1
    have a2 := key j q h2
    omega
  · have a1 := key k q hk
    show B0 ≤ q.1
    omega
theorem kmap_set {α : Type} {N k : Nat} {f f2 : Nat → α} {v : α} (h1 : ∀ j, j ≠ k → f2 j = f j) (h2 : f2 k = v) : ((List.range N).map f).set k v = (List.range N).map f2 := by
  apply List.ext_getElem?
  intro j
  by_cases hj : j < N
  · by_cases e : j = k
    · subst e
      rw [List.getElem?_set_self (by simpa using hj)]
      simp [hj, h2]
    · rw [List.getElem?_set_ne (fun z => e z.symm)]
      simp [hj, h1 j e]
  · rw [List.getElem?_eq_none (by simpa using hj), List.getElem?_eq_none (by simpa using hj)]
theorem kW_set {S2 : kS} {a : Nat} {e : va_E} (hu : S2.1.1 = S.1.1) (he : kE ad cT S2.2.1 S2.2.2.1 S2.2.2.2 a = e) (ho : ∀ b, b ≠ a → kE ad cT S2.2.1 S2.2.2.1 S2.2.2.2 b = kE ad cT S.2.1 S.2.2.1 S.2.2.2 b) : (kW ad cT S).set a (ad a, e) = kW ad cT S2 := by
  unfold kW
  rw [hu]
  exact kmap_set (fun j hj => by rw [ho j hj]) (by rw [he])
theorem kE_obj {i : Nat → Nat → Int32} {l : Nat → Nat → Int64} {r : Nat → Nat → Value} {a ci : Nat} (h : kSH a = .inl ci) : kE ad cT i l r a = .inr (ci, (List.range ((kNF[ci]?).getD 0)).map (fun k => kfv ad i r a ci k)) := by
  simp [kE, h]
theorem kE_arr {i : Nat → Nat → Int32} {l : Nat → Nat → Int64} {r : Nat → Nat → Value} {a t n : Nat} (h : kSH a = .inr (t, n)) : kE ad cT i l r a = .inl (cT t, kAr ad i l r a t n) := by
  simp [kE, h]
/-- what stands aside of a cell -/
theorem kE_cong {i i2 : Nat → Nat → Int32} {l l2 : Nat → Nat → Int64} {r r2 : Nat → Nat → Value} {a : Nat} (h1 : i2 a = i a) (h2 : l2 a = l a) (h3 : r2 a = r a) : kE ad cT i2 l2 r2 a = kE ad cT i l r a := by
  unfold kE kfv kAr
  rw [h1, h2, h3]
theorem kupi_ne {i : Nat → Nat → Int32} {a b k : Nat} {v : Int32} (h : b ≠ a) : kupi i a k v b = i b := by
  funext j; simp [kupi, h]
theorem kupi_eq {i : Nat → Nat → Int32} {a k : Nat} {v : Int32} : kupi i a k v a = upd (i a) k v := by
  funext j; simp [kupi, upd]
theorem kupl_ne {i : Nat → Nat → Int64} {a b k : Nat} {v : Int64} (h : b ≠ a) : kupl i a k v b = i b := by
  funext j; simp [kupl, h]
theorem kupl_eq {i : Nat → Nat → Int64} {a k : Nat} {v : Int64} : kupl i a k v a = vp_updL (i a) k v := by
  funext j; simp [kupl, vp_updL]
theorem kupr_ne {i : Nat → Nat → Value} {a b k : Nat} {v : Value} (h : b ≠ a) : kupr i a k v b = i b := by
  funext j; simp [kupr, h]
theorem kupr_eq {i : Nat → Nat → Value} {a k : Nat} {v : Value} : kupr i a k v a = fun j => if j = k then v else i a j := by
  funext j; simp [kupr]
/-- locals -/
def kLl (ad : Nat → Nat) : Nat → List Value → List (Nat × Value)
  | _, [] => []
  | n, .retAddr _ :: t => kLl ad (n + 1) t
  | n, v :: t => (n, kcv ad v) :: kLl ad (n + 1) t
def kknown (v : Value) : Prop := ∀ x, v ≠ .retAddr x
theorem kLl_mem {n : Nat} {L : List Value} {j : Nat} {w : Value} : (j, w) ∈ kLl ad n L ↔ ∃ (k : Nat) (v : Value), j = n + k ∧ L[k]? = some v ∧ kknown v ∧ w = kcv ad v := by
  induction L generalizing n with
  | nil => simp [kLl]
  | cons v t ih =>
    have step : ((j, w) ∈ kLl ad (n + 1) t) ↔ ∃ (k : Nat) (v' : Value), j = n + (k + 1) ∧ (v :: t)[k + 1]? = some v' ∧ kknown v' ∧ w = kcv ad v' := by
      rw [ih]
      constructor
      · rintro ⟨k, v', e1, e2, e3, e4⟩; exact ⟨k, v', by omega, by simpa using e2, e3, e4⟩
      · rintro ⟨k, v', e1, e2, e3, e4⟩; exact ⟨k, v', by omega, by simpa using e2, e3, e4⟩
    have hv : (∃ x, v = .retAddr x) ∨ kknown v := by
      cases v with
      | retAddr x => exact Or.inl ⟨x, rfl⟩
      | _ => exact Or.inr (fun x h => by cases h)
    rcases hv with ⟨x, rfl⟩ | hv
    · rw [show kLl ad n (.retAddr x :: t) = kLl ad (n + 1) t from rfl, step]
      constructor
      · rintro ⟨k, v', h⟩; exact ⟨k + 1, v', h⟩
      · rintro ⟨k, v', e1, e2, e3, e4⟩
        cases k with
        | zero => simp at e2; exact absurd e2.symm (e3 x)
        | succ k => exact ⟨k, v', e1, e2, e3, e4⟩
    · have e0 : kLl ad n (v :: t) = (n, kcv ad v) :: kLl ad (n + 1) t := by
        cases v with
        | retAddr x => exact absurd rfl (hv x)
        | _ => rfl
      rw [e0, List.mem_cons, step]
      constructor
      · rintro (h | ⟨k, v', h⟩)
        · cases h; exact ⟨0, v, rfl, rfl, hv, rfl⟩
        · exact ⟨k + 1, v', h⟩
      · rintro ⟨k, v', e1, e2, e3, e4⟩
        cases k with
        | zero => simp at e2; subst e2; exact Or.inl (by rw [e1, e4]; rfl)
        | succ k => exact Or.inr ⟨k, v', e1, e2, e3, e4⟩
def kLv (ad : Nat → Nat) (ls : Array Slot) (L : List Value) : Prop := lv_has ls L.length (kLl ad 0 L)
theorem kget_eq {L : List Value} {a : Nat} : kget L a = (L[a]?).getD (.retAddr 0) := by
  induction L generalizing a with
  | nil => simp [kget]
  | cons v t ih => cases a with
    | zero => simp [kget]
    | succ a => simp [kget, ih]
theorem kset_eq {L : List Value} {a : Nat} {v : Value} : kset L a v = L.set a v := by
  induction L generalizing a with
  | nil => simp [kset]
  | cons w t ih => cases a with
    | zero => simp [kset]
    | succ a => simp [kset, ih]
theorem kLv_get {ls : Array Slot} {L : List Value} {a : Nat} {v : Value} (h : kLv ad ls L) (hg : kget L a = v) (hv : kknown v) : ls[a]? = some (.val (kcv ad v)) := by
  rw [kget_eq] at hg
  cases hL : L[a]? with
  | none => rw [hL] at hg; exact absurd hg.symm (hv 0)
  | some w =>
    rw [hL] at hg
    have : w = v := hg
    subst this
    exact h.2.2 (a, kcv ad w) (kLl_mem.mpr ⟨a, w, by omega, hL, hv, rfl⟩)
theorem kcv_cat (v : Value) : (kcv ad v).category = v.category := by cases v <;> rfl
/-- fewer are known -/
theorem kLv_of {ls : Array Slot} {L : List Value} {lv : List (Nat × Value)} {n : Nat} (h : lv_has ls n lv) (hn : L.length = n) (hs : ∀ (k : Nat) (v : Value), L[k]? = some v → kknown v → (k, kcv ad v) ∈ lv) : kLv ad ls L := by
  refine ⟨by rw [h.1, hn], h.2.1, fun q hq => ?_⟩
  obtain ⟨j, w⟩ := q
  obtain ⟨k, v, e1, e2, e3, e4⟩ := kLl_mem.mp hq
  rw [e4, e1, Nat.zero_add]
  exact h.2.2 (k, kcv ad v) (hs k v e2 e3)
theorem kclr_len {L : List Value} {a : Nat} : (kclr L a).length = L.length := by
  cases a with
  | zero => rfl
  | succ b => simp [kclr, kset_eq]
theorem kcl_known {v : Value} (h : kknown (kcl v)) : kcl v = v ∧ v.category = 1 := by
  cases v with
  | long x => exact absurd rfl (h 0)
  | double x => exact absurd rfl (h 0)
  | _ => exact ⟨rfl, rfl⟩
/-- a place behind the clearing: known only if it was, and no half of a long is stored over -/
theorem kclr_get {L : List Value} {a k : Nat} {w : Value} (h : (kclr L a)[k]? = some w) (hw : kknown w) : L[k]? = some w ∧ (k + 1 = a → w.category = 1) := by
  cases a with
  | zero => exact ⟨h, fun e => by omega⟩
  | succ b =>
    rw [show kclr L (b + 1) = kset L b (kcl (kget L b)) from rfl, kset_eq] at h
    by_cases e : k = b
    · subst e
      have hl : k < L.length := by
        have := (List.getElem?_eq_some_iff.mp h).1
        simpa using this
      rw [List.getElem?_set_self hl] at h
      have h1 : kcl (kget L k) = w := by simpa using h
      have h2 := kcl_known (v := kget L k) (by rw [h1]; exact hw)
      rw [h2.1] at h1
      rw [← h1]
      refine ⟨?_, fun _ => h2.2⟩
      rw [kget_eq, List.getElem?_eq_getElem hl]; rfl
    · rw [List.getElem?_set_ne (fun z => e z.symm)] at h
      exact ⟨h, fun z => by omega⟩
theorem kLv_st1 {ls' : Array Slot} {L : List Value} {a : Nat} {v : Value} (ha : a < L.length) (h : lv_has ls' L.length ((a, kcv ad v) :: (kLl ad 0 L).filter (fun q => !(q.1 == a) && !(q.1 + 1 == a && q.2.category == 2)))) : kLv ad ls' (kset (kclr L a) a v) := by
  refine kLv_of h (by simp [kset_eq, kclr_len]) fun k w hk hw => ?_
  rw [kset_eq] at hk
  by_cases e : k = a
  · subst e
    rw [List.getElem?_set_self (by rw [kclr_len]; exact ha)] at hk
    cases hk
    exact List.mem_cons_self
  · rw [List.getElem?_set_ne (fun z => e z.symm)] at hk
    obtain ⟨h1, h2⟩ := kclr_get hk hw
    refine List.mem_cons_of_mem _ (List.mem_filter.mpr ⟨kLl_mem.mpr ⟨k, w, by omega, h1, hw, rfl⟩, ?_⟩)
    by_cases e2 : k + 1 = a
    · simp [e, kcv_cat, h2 e2]
    · simp [e, e2]
theorem kLv_st0 {ls' : Array Slot} {L : List Value} {a : Nat} {v : Value} (h : lv_has ls' L.length ((a, v) :: (kLl ad 0 L).filter (fun q => !(q.1 == a) && !(q.1 + 1 == a && q.2.category == 2)))) : kLv ad ls' (kset (kclr L a) a (.retAddr 0)) := by
  refine kLv_of h (by simp [kset_eq, kclr_len]) fun k w hk hw => ?_
  rw [kset_eq] at hk
  by_cases e : k = a
  · subst e
    by_cases ha : k < L.length
    · rw [List.getElem?_set_self (by rw [kclr_len]; exact ha)] at hk
      cases hk
      exact absurd rfl (hw 0)
    · rw [List.getElem?_eq_none (by simp [kclr_len]; omega)] at hk
      cases hk
  · rw [List.getElem?_set_ne (fun z => e z.symm)] at hk
    obtain ⟨h1, h2⟩ := kclr_get hk hw
    refine List.mem_cons_of_mem _ (List.mem_filter.mpr ⟨kLl_mem.mpr ⟨k, w, by omega, h1, hw, rfl⟩, ?_⟩)
    by_cases e2 : k + 1 = a
    · simp [e, kcv_cat, h2 e2]
    · simp [e, e2]
theorem kLv_st2 {ls' : Array Slot} {L : List Value} {a : Nat} {v : Value} (ha : a + 1 < L.length) (h : lv_has ls' L.length ((a, kcv ad v) :: (kLl ad 0 L).filter (fun q => !(q.1 == a) && (!(q.1 == a + 1) && !(q.1 + 1 == a && q.2.category == 2))))) : kLv ad ls' (kset (kset (kclr L a) a v) (a + 1) (.retAddr 0)) := by
  refine kLv_of h (by simp [kset_eq, kclr_len]) fun k w hk hw => ?_
  rw [kset_eq, kset_eq] at hk
  by_cases e1 : k = a + 1
  · subst e1
    rw [List.getElem?_set_self (by simp [kclr_len]; omega)] at hk
    cases hk
    exact absurd rfl (hw 0)
  · rw [List.getElem?_set_ne (fun z => e1 z.symm)] at hk
    by_cases e : k = a
    · subst e
      rw [List.getElem?_set_self (by rw [kclr_len]; omega)] at hk
      cases hk
      exact List.mem_cons_self
    · rw [List.getElem?_set_ne (fun z => e z.symm)] at hk
      obtain ⟨h1, h2⟩ := kclr_get hk hw
      refine List.mem_cons_of_mem _ (List.mem_filter.mpr ⟨kLl_mem.mpr ⟨k, w, by omega, h1, hw, rfl⟩, ?_⟩)
      by_cases e2 : k + 1 = a
      · simp [e, e1, kcv_cat, h2 e2]
      · simp [e, e1, e2]
/-- iinc: the slot held an int, so no half is stored over -/
theorem kLv_inc {ls ls' : Array Slot} {L : List Value} {a : Nat} {x y : Int32} (ha : a < L.length) (h0 : kLv ad ls L) (hg : kget L a = .int x) (h : lv_has ls' L.length ((a, .int y) :: (kLl ad 0 L).filter (fun q => !(q.1 == a) && !(q.1 + 1 == a && q.2.category == 2)))) : kLv ad ls' (kset L a (.int y)) := by
  refine kLv_of h (by simp [kset_eq]) fun k w hk hw => ?_
  rw [kset_eq] at hk
  by_cases e : k = a
  · subst e
    rw [List.getElem?_set_self ha] at hk
    cases hk
    exact List.mem_cons_self
  · rw [List.getElem?_set_ne (fun z => e z.symm)] at hk
    refine List.mem_cons_of_mem _ (List.mem_filter.mpr ⟨kLl_mem.mpr ⟨k, w, by omega, hk, hw, rfl⟩, ?_⟩)
    by_cases e2 : k + 1 = a
    · have hc : ¬ (kcv ad w).category = 2 := fun hc => by
        have h1 := h0.2.2 (k, kcv ad w) (kLl_mem.mpr ⟨k, w, by omega, hk, hw, rfl⟩)
        have h2 := h0.2.1.1 k (kcv ad w) h1 hc
        have h3 := kLv_get h0 hg (fun x h => by cases h)
        rw [e2, h3] at h2
        cases h2
      simp [e, hc]
    · simp [e, e2]
/-- the entry -/
theorem kpad_len (n : Nat) (vs : List Value) : (kpad n vs).length = n := by
  induction n using Nat.strongRecOn generalizing vs with
  | _ n ih =>
    match n, vs with
    | 0, _ => rfl
    | n + 1, [] => show (kpad n []).length + 1 = n + 1; rw [ih n (by omega)]
    | 1, .long v :: t => rfl
    | n + 2, .long v :: t => show (kpad n t).length + 1 + 1 = n + 2; rw [ih n (by omega)]
    | n + 1, .int v :: t => show (kpad n t).length + 1 = n + 1; rw [ih n (by omega)]
    | n + 1, .float v :: t => show (kpad n t).length + 1 = n + 1; rw [ih n (by omega)]
    | n + 1, .double v :: t => show (kpad n t).length + 1 = n + 1; rw [ih n (by omega)]
    | n + 1, .null :: t => show (kpad n t).length + 1 = n + 1; rw [ih n (by omega)]
    | n + 1, .ref v :: t => show (kpad n t).length + 1 = n + 1; rw [ih n (by omega)]
    | n + 1, .retAddr v :: t => show (kpad n t).length + 1 = n + 1; rw [ih n (by omega)]
end KR
