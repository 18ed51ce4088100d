/-! facts out of the tables -/
def kftok (ty : FieldType) (n : Nat) : Bool := match n, ty with
  | 0, .int => true
  | 3, .boolean => true
  | 2, .object _ => true
  | 2, .array _ => true
  | _, _ => false
def kCok (ci : Nat) (C : String) (Tt : u_T) (N : Nat) : Prop := (∀ w ∈ u_ws C Tt N, w ∈ kT) ∧ (∃ ty0 : Nat → FieldType, (∀ k, k < N → parseFieldDescriptor (Tt k).2.2.1 = some (ty0 k)) ∧ ∀ k, k < N → kftok (ty0 k) (kft ci k) = true) ∧ (∀ a, a < N → ∀ b, b < N → a ≠ b → (Tt a).2.1 ≠ (Tt b).2.1) ∧ Cond.instantiable C N ∈ kT ∧ Cond.initialized C ∈ kT ∧ kNF[ci]? = some N ∧ kRn ci = C ∧ (∀ k, k < N → (Tt k).1 = C)
theorem kws {ws : List Cond} (h1 : ∀ w ∈ ws, w ∈ lw_tbl) (h2 : ∀ w ∈ ws, goodWord w = true) : ∀ w ∈ ws, w ∈ kT := fun w h => kT_of (h1 w h) (h2 w h)
set_option maxRecDepth 20000 in
theorem kC0 : kCok 0 RX0 TX0 1 := ⟨kws (by decide +kernel) (by decide +kernel), ⟨tyX0, tyX0_ok, by decide +kernel⟩, nmX0, kT_of (by decide +kernel) (by decide +kernel), kT_of (by decide +kernel) (by decide +kernel), by decide +kernel, by decide +kernel, by decide +kernel⟩
set_option maxRecDepth 20000 in
theorem kC1 : kCok 1 RX1 TX1 10 := ⟨kws (by decide +kernel) (by decide +kernel), ⟨tyX1, tyX1_ok, by decide +kernel⟩, nmX1, kT_of (by decide +kernel) (by decide +kernel), kT_of (by decide +kernel) (by decide +kernel), by decide +kernel, by decide +kernel, by decide +kernel⟩
set_option maxRecDepth 20000 in
theorem kC2 : kCok 2 RX2 TX2 4 := ⟨kws (by decide +kernel) (by decide +kernel), ⟨tyX2, tyX2_ok, by decide +kernel⟩, nmX2, kT_of (by decide +kernel) (by decide +kernel), kT_of (by decide +kernel) (by decide +kernel), by decide +kernel, by decide +kernel, by decide +kernel⟩
set_option maxRecDepth 20000 in
theorem kC3 : kCok 3 RX3 TX3 5 := ⟨kws (by decide +kernel) (by decide +kernel), ⟨tyX3, tyX3_ok, by decide +kernel⟩, nmX3, kT_of (by decide +kernel) (by decide +kernel), kT_of (by decide +kernel) (by decide +kernel), by decide +kernel, by decide +kernel, by decide +kernel⟩
set_option maxRecDepth 20000 in
theorem kC4 : kCok 4 RX4 TX4 2 := ⟨kws (by decide +kernel) (by decide +kernel), ⟨tyX4, tyX4_ok, by decide +kernel⟩, nmX4, kT_of (by decide +kernel) (by decide +kernel), kT_of (by decide +kernel) (by decide +kernel), by decide +kernel, by decide +kernel, by decide +kernel⟩
set_option maxRecDepth 20000 in
theorem kC5 : kCok 5 RX5 TX5 8 := ⟨kws (by decide +kernel) (by decide +kernel), ⟨tyX5, tyX5_ok, by decide +kernel⟩, nmX5, kT_of (by decide +kernel) (by decide +kernel), kT_of (by decide +kernel) (by decide +kernel), by decide +kernel, by decide +kernel, by decide +kernel⟩
set_option maxRecDepth 20000 in
theorem kC6 : kCok 6 RX6 TX6 3 := ⟨kws (by decide +kernel) (by decide +kernel), ⟨tyX6, tyX6_ok, by decide +kernel⟩, nmX6, kT_of (by decide +kernel) (by decide +kernel), kT_of (by decide +kernel) (by decide +kernel), by decide +kernel, by decide +kernel, by decide +kernel⟩
set_option maxRecDepth 20000 in
theorem kC7 : kCok 7 RX7 TX7 4 := ⟨kws (by decide +kernel) (by decide +kernel), ⟨tyX7, tyX7_ok, by decide +kernel⟩, nmX7, kT_of (by decide +kernel) (by decide +kernel), kT_of (by decide +kernel) (by decide +kernel), by decide +kernel, by decide +kernel, by decide +kernel⟩
set_option maxRecDepth 20000 in
theorem kC8 : kCok 8 RX8 TX8 2 := ⟨kws (by decide +kernel) (by decide +kernel), ⟨tyX8, tyX8_ok, by decide +kernel⟩, nmX8, kT_of (by decide +kernel) (by decide +kernel), kT_of (by decide +kernel) (by decide +kernel), by decide +kernel, by decide +kernel, by decide +kernel⟩
set_option maxRecDepth 20000 in
theorem kC9 : kCok 9 RX9 TX9 2 := ⟨kws (by decide +kernel) (by decide +kernel), ⟨tyX9, tyX9_ok, by decide +kernel⟩, nmX9, kT_of (by decide +kernel) (by decide +kernel), kT_of (by decide +kernel) (by decide +kernel), by decide +kernel, by decide +kernel, by decide +kernel⟩
set_option maxRecDepth 20000 in
theorem kC10 : kCok 10 RX10 TX10 12 := ⟨kws (by decide +kernel) (by decide +kernel), ⟨tyX10, tyX10_ok, by decide +kernel⟩, nmX10, kT_of (by decide +kernel) (by decide +kernel), kT_of (by decide +kernel) (by decide +kernel), by decide +kernel, by decide +kernel, by decide +kernel⟩
set_option maxRecDepth 20000 in
theorem kC11 : kCok 11 RX11 TX11 47 := ⟨kws (by decide +kernel) (by decide +kernel), ⟨tyX11, tyX11_ok, by decide +kernel⟩, nmX11, kT_of (by decide +kernel) (by decide +kernel), kT_of (by decide +kernel) (by decide +kernel), by decide +kernel, by decide +kernel, by decide +kernel⟩
theorem kCall : ∀ (ci : Nat) (C : String) (Tt : u_T) (N : Nat), vwCl[ci]? = some (C, Tt, N) → kCok ci C Tt N
  | 0, _, _, _, h => by cases h; exact kC0
  | 1, _, _, _, h => by cases h; exact kC1
  | 2, _, _, _, h => by cases h; exact kC2
  | 3, _, _, _, h => by cases h; exact kC3
  | 4, _, _, _, h => by cases h; exact kC4
  | 5, _, _, _, h => by cases h; exact kC5
  | 6, _, _, _, h => by cases h; exact kC6
  | 7, _, _, _, h => by cases h; exact kC7
  | 8, _, _, _, h => by cases h; exact kC8
  | 9, _, _, _, h => by cases h; exact kC9
  | 10, _, _, _, h => by cases h; exact kC10
  | 11, _, _, _, h => by cases h; exact kC11
  | n + 12, _, _, _, h => by simp [vwCl] at h
theorem kFn : ∀ own, own < 14 → ∀ e ∈ (krF[own]?).getD [], e.2.2.2.2 = 0 ∨ e.2.1 ≠ own := by decide +kernel
theorem kFw {own ix ci k ty nest : Nat} (ho : own < 14) (h : klk krF own ix = some (ci, k, ty, nest)) : ∃ (C : String) (Tt : u_T) (N : Nat), vwCl[ci]? = some (C, Tt, N) ∧ k < N ∧ kft ci k = ty ∧
    ((nest = 0 ∧ Cond.fieldLink (kRn own) ix (Tt k).1 (Tt k).2.1 (Tt k).2.2.1 ∈ kT) ∨ (ci ≠ own ∧ Cond.fieldLinkNest (kRn own) ix (Tt k).1 (Tt k).2.1 (Tt k).2.2.1 "HatAtCouncil" ∈ kN)) := by
  obtain ⟨r, hr, hm⟩ := klk_mem h
  have hc := kcF_all own ho
  rw [hr] at hc
  obtain ⟨w, hw, h1, h2⟩ := kchk_ok hc _ hm
  unfold kFc at hw
  simp only at hw
  cases hv : vwCl[ci]? with
  | none => rw [hv] at hw; simp at hw
  | some q =>
    obtain ⟨C, Tt, N⟩ := q
    rw [hv] at hw
    simp only at hw
    split at hw
    · rename_i hh
      refine ⟨C, Tt, N, rfl, hh.1, hh.2.1, ?_⟩
      split at hw
      · rename_i hn0
        cases hw
        exact Or.inl ⟨hn0, kT_of h1 (by
          simp only [kgw, Bool.or_eq_true] at h2
          rcases h2 with h2 | h2
          · exact h2
          · cases h2)⟩
      · rename_i hn0
        cases hw
        have hz := kFn own ho _ (by rw [hr]; exact hm)
        exact Or.inr ⟨hz.resolve_left hn0, kN_of h1 rfl⟩
    · cases hw
theorem kown_lt : ∀ q ∈ kms, q.2.2.2.2 < 14 := by decide +kernel
theorem kMw {own ix z n nest : Nat} (ho : own < 14) (h : klk krM own ix = some (z, n, nest)) : (n = 100 → Cond.methodLink (kRn own) ix (kJn z) ∈ kT) ∧ (n ≠ 100 → ∃ mm : kM, kms[z]? = some mm ∧ (parseMethodDescriptor mm.1.desc).map (fun d => d.parameters.length) = some n ∧
    (Cond.methodLink (kRn own) ix mm.1 ∈ kT ∨ Cond.methodLinkNest (kRn own) ix mm.1 "HatAtCouncil" ∈ kN)) := by
  obtain ⟨r, hr, hm⟩ := klk_mem h
  have hc := kcM_all own ho
  rw [hr] at hc
  obtain ⟨w, hw, h1, h2⟩ := kchk_ok hc _ hm
  unfold kMc at hw
  simp only at hw
  by_cases hn : n = 100
  · rw [if_pos hn] at hw
    refine ⟨fun _ => ?_, fun h => absurd hn h⟩
    split at hw
    · cases hw
      exact kT_of h1 (by
        simp only [kgw, Bool.or_eq_true] at h2
        rcases h2 with h2 | h2
        · exact h2
        · cases h2)
    · cases hw
  · rw [if_neg hn] at hw
    refine ⟨fun h => absurd h hn, fun _ => ?_⟩
    cases hv : kms[z]? with
    | none => rw [hv] at hw; simp at hw
    | some mm =>
      rw [hv] at hw
      simp only at hw
      split at hw
      · rename_i hh
        refine ⟨mm, rfl, hh, ?_⟩
        split at hw
        · cases hw
          exact Or.inl (kT_of h1 (by
            simp only [kgw, Bool.or_eq_true] at h2
            rcases h2 with h2 | h2
            · exact h2
            · cases h2))
        · cases hw
          exact Or.inr (kN_of h1 rfl)
      · cases hw
theorem kZw {z : Nat} {mm : kM} (h : kms[z]? = some mm) (hz : z ≠ kLaw) : Cond.initialized mm.1.cls ∈ kT ∧ (mm.1.cls ≠ "java/lang/invoke/MethodHandle" ∧ mm.1.cls ≠ "java/lang/invoke/VarHandle") ∧ Jvm.plainName mm.1.cls = true ∧ mm.2.2.1 ≤ 15 ∧ kRn mm.2.2.2.2 = mm.1.cls ∧
    (kkd[z]? = some 0 → Cond.instanceMethod mm.1 ∈ kT ∧ Cond.selects mm.1.cls mm.1 mm.1 ∈ kT) ∧ (kkd[z]? = some 1 → Cond.static mm.1 ∈ kT) ∧ (kkd[z]? = some 2 → Cond.instanceMethod mm.1 ∈ kT ∧ mm.1.name = "<init>" ∧ mm.2.2.2.1 = none) := by
  obtain ⟨q, hq⟩ := kQa_ok kQa_all z mm h (by rw [Nat.zero_add]; exact hz)
  rw [Nat.zero_add] at hq
  simp only [kQc, Bool.and_eq_true, decide_eq_true_eq] at hq
  obtain ⟨h1, h2, h3, h4, h5, h6⟩ := hq
  refine ⟨kT_at h1 rfl, h2, h3, h4, h5, fun hk => ?_, fun hk => ?_, fun hk => ?_⟩
  · rw [hk] at h6
    simp only [Bool.and_eq_true, decide_eq_true_eq] at h6
    exact ⟨kT_at h6.1 rfl, kT_at h6.2.2 h6.2.1⟩
  · rw [hk] at h6
    simp only [decide_eq_true_eq] at h6
    exact kT_at h6 rfl
  · rw [hk] at h6
    simp only [Bool.and_eq_true, decide_eq_true_eq] at h6
    exact ⟨kT_at h6.1 rfl, h6.2.1, h6.2.2⟩
theorem kcode_in {z : Nat} {mm : kM} (h : kms[z]? = some mm) (hL : mm.2.2.2.2 ≠ 12) : Cond.code mm.1 mm.2.1 mm.2.2.1 mm.2.2.2.1 ∈ kT := by
  rcases kcs mm (List.mem_of_getElem? h) with h1 | h1
  · exact absurd h1 hL
  · exact h1
