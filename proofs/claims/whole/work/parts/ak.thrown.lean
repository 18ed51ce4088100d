/-! a run that ends by a throw -/
section KBx
variable {l : Launch} {sc : Nat × (Nat → Int32)} {ad : Nat → Nat} {cT : Nat → ClassId} {D : va_G} {B0 : Nat} {adK adV : Nat → Nat}
def kXp (adK adV : Nat → Nat) (B0 : Nat) (U : State) : Prop := kXs adK adV B0 U ∧ kXq B0 U
def kXC (ad : Nat → Nat) (cT : Nat → ClassId) (D : va_G) (B0 : Nat) (S : kS) : String → State → State → Prop := fun E st t => E = kEx ∧ kRep ad cT D S t.heap ∧ va_F (fun q => B0 ≤ q) st t
theorem kown10 : kRn 10 = "HatAtCouncil" := by decide +kernel
set_option maxHeartbeats 4000000 in
theorem kBx (hAd : ∀ a, a < 1000 → ad a = B0 + a) (hXK : kXK l sc ad B0 (kXp adK adV B0)) (hl : l.stackTraces = false) {N : Nat} (hG : kGt l sc ad cT D B0 (kXp adK adV B0) N) : ∀ (n : Nat), n ≤ N → ∀ {d y pc : Nat} {L st : List Value} {S S' : kS}, krun sc n d y pc L st S = some (none, S') →
    ∀ {mm : kM}, kms[y]? = some mm → mm.2.2.2.2 = 10 → ∀ {p : Program} {e : Env} {R : Room} {s : State} {m : MethodId} {args : Array Value} {below : List Frame} {meth : Method} {c : Code} {Qc : Array Value → State → Outcome → State → Prop} {mc ms : Nat},
    p.tables.exec = Jvm.exec → c.code = mm.2.1 → (∀ w ∈ kT, w.before args s = true) → kK cT D s → kXp adK adV B0 s → s.vm.findClass (kRn mm.2.2.2.2) = some m.cls → c.maxLocals = L.length → (mm.1.name = "<init>" → meth.name = "<init>") → B0 ≤ s.heap.size → kExt ad B0 sc mm.2.2.2.2 y p l e R s m args below meth c → meth.locks = false → (∀ x ∈ c.exceptionTable.toList, False) →
    d + 10 ≤ R.frames → 40 * d + 200 ≤ R.locals → ∀ {c0 s0 : Nat}, s.heap.size ≤ B0 + c0 → c0 ≤ S.1.2.1 → s0 ≤ S.1.2.2 → S'.1.2.1 - c0 ≤ R.cells → S'.1.2.2 - s0 ≤ R.slots → S'.1.2.1 - c0 ≤ mc → S'.1.2.2 - s0 ≤ ms →
    ∀ {ls : Array Slot} {H : Heap} {locs : List Loc}, kRep ad cT D S H → va_S (fun q => B0 ≤ q) s.heap H locs → kLv ad ls L → W p l e R s m args below meth c H locs (S.1.2.1 - c0) (S.1.2.2 - s0) (vx_MQ below Qc (kXC ad cT D B0 S') args s mc ms (fun q => B0 ≤ q)) (F0 m pc ls (st.map (kcv ad))) := by
  intro n
  induction n with
  | zero => intro _ d y pc L st S S' h; simp [krun] at h
  | succ n ih =>
    intro hnN d y pc L st S S' h mm hy ho10 p e R s m args below meth c Qc mc ms hx hb hts hK hX hown hml hin hB hEx hlk hta hRf hRl c0 s0 hc0 hc1 hs1 hfc hfs hmc hms ls H locs hrep hS hL
    rw [krun] at h
    cases hf : kfetch y pc with
    | none => rw [hf] at h; simp at h
    | some I =>
      rw [hf] at h
      simp only at h
      cases hs : kstep sc I L st S with
      | none => rw [hs] at h; simp at h
      | some c' =>
        rw [hs] at h
        have ho := kown_lt mm (List.mem_of_getElem? hy)
        have hyo : kow y ≠ 12 := by
          have h9 : kow y = 10 := by unfold kow; rw [hy]; exact ho10
          rw [h9]; decide
        obtain ⟨ins, len, hdec, hlen, htr⟩ := kfetch_inv hy hf
        rcases kstep_kind hs with ⟨h24, h1⟩ | ⟨h23, h1⟩ | ⟨h26, h1⟩ | ⟨⟨pc2, L2, st2, S2⟩, rfl, h2, h3⟩
        · obtain ⟨v', rfl, hst⟩ := ks24_end h1
          cases h
        · have hdn : I.2.2.2.2.2 = [] := by
            obtain ⟨ix, z, np, nest, kind, -, -, -, -, rfl⟩ := kinv_inv htr h23
            exact khd_nil hyo
          obtain ⟨as, rest, rfl, hpop, h8, hok, hrecv⟩ := ks23_call h1
          simp only at h
          cases d with
          | zero => simp at h
          | succ d' =>
            simp only at h
            cases hc : krun sc n d' I.2.1 0 (kpad (kmx I.2.1) as) [] S with
            | none => rw [hc] at h; simp at h
            | some q =>
              rw [hc] at h
              obtain ⟨_ | v1, S2⟩ := q
              · rw [hdn] at h; simp at h
              · simp only at h
                obtain ⟨ix, z, np, nest, kind, hins, hlk9, hnp, hkd, rfl⟩ := kinv_inv htr h23
                simp only at hc h hok hpop hrecv
                have hk12 : kow z ≠ 12 := by
                  obtain ⟨r, hr, hm9⟩ := klk_mem hlk9
                  rw [ho10] at hr
                  exact kM10_12 (ix, z, np, nest) (by rw [hr]; exact hm9) hnp
                obtain ⟨mmz, hz, hpar, hlink⟩ := (kMw ho hlk9).2 hnp
                have hzl : z ≠ kLaw := by
                  intro q
                  rw [q] at hk12
                  exact hk12 (by decide +kernel)
                have hzo : kow z = mmz.2.2.2.2 := by unfold kow; rw [hz]
                have hL12 : mmz.2.2.2.2 ≠ 12 := by rw [← hzo]; exact hk12
                obtain ⟨hini, hcls, -, hm15, hrn, hk0, hk1, hk2⟩ := kZw hz hzl
                have hcd := kcode_in hz hL12
                have M := kMt hAd hXK hG (krun_le (Nat.le_of_succ_le hnN) hc) hz hL12 hzl hok
                have cu1 := krun_cu hc
                have cu2 := krun_cu h
                have ecells : S.1.2.1 - c0 + (S2.1.2.1 - S.1.2.1) = S2.1.2.1 - c0 := by have : S.1.2.1 ≤ S2.1.2.1 := cu1.1; omega
                have eslots : S.1.2.2 - s0 + (S2.1.2.2 - S.1.2.2) = S2.1.2.2 - s0 := by have : S.1.2.2 ≤ S2.1.2.2 := cu1.2; omega
                have hroom : S.1.2.1 - c0 + (S2.1.2.1 - S.1.2.1) ≤ R.cells ∧ S.1.2.2 - s0 + (S2.1.2.2 - S.1.2.2) ≤ R.slots := by
                  rw [ecells, eslots]
                  have := cu2.1
                  have := cu2.2
                  constructor
                  · exact Nat.le_trans (Nat.sub_le_sub_right cu2.1 _) hfc
                  · exact Nat.le_trans (Nat.sub_le_sub_right cu2.2 _) hfs
                have hrm : (kRm d' (S2.1.2.1 - S.1.2.1) (S2.1.2.2 - S.1.2.2)).frames + 1 ≤ R.frames ∧ 8 + (mmz.2.2.1 + 11) + (kRm d' (S2.1.2.1 - S.1.2.1) (S2.1.2.2 - S.1.2.2)).locals ≤ R.locals := by
                  constructor
                  · show d' + 10 + 1 ≤ _; omega
                  · show 8 + (mmz.2.2.1 + 11) + (40 * d' + 200) ≤ _; omega
                have hls : ls.size = L.length := hL.1
                have hrev := kpop_rev hpop
                simp only [List.reverse_nil, List.nil_append, List.length_nil, Nat.zero_add] at hrev
                have hst : st.map (kcv ad) = (as.map (kcv ad)).reverse ++ rest.map (kcv ad) := by rw [← hrev.1]; simp
                have hW8 : 2 * (F0 m pc ls (st.map (kcv ad))).monitorRoom + ((rest.map (kcv ad)).map fun v => v.category).sum ≤ 8 := lv_room (kcat_sum h8)
                have hfix : CallFix p m c mm.2.1 L.length s args kT (kRn mm.2.2.2.2) := ⟨hx, hb, hml, hown, hts⟩
                have hp3 : mmz.1.cls ≠ "java/lang/invoke/MethodHandle" ∧ mmz.1.cls ≠ "java/lang/invoke/VarHandle" ∧ (parseMethodDescriptor mmz.1.desc).map (fun d => d.parameters.length) = some np := ⟨hcls.1, hcls.2, hpar⟩
                refine kSized fun hsz => ?_
                have hpre : ∀ U : State, U.heap = H → s.WarmedH U.vm → kPc ad cT D B0 (kXp adK adV B0) as S (as.map (kcv ad)).toArray U := by
                  intro U hU hW
                  refine ⟨rfl, by rw [hU]; exact hrep, by rw [hU]; omega, by rw [hU]; exact Nat.le_trans hB hS.1, kK.warm hW hK, hXK.2 s U hW (fun q hq => ?_) hX⟩
                  rw [hU]
                  exact hS.2.1 q (Nat.lt_of_lt_of_le hq hB) (Nat.not_le.mpr hq)
                have hfin : ∀ (H1 : Heap) (locs1 : List Loc), kRep ad cT D S2 H1 → va_S (fun q => B0 ≤ q) s.heap H1 locs1 → W p l e R s m args below meth c H1 locs1 (S.1.2.1 - c0 + (S2.1.2.1 - S.1.2.1)) (S.1.2.2 - s0 + (S2.1.2.2 - S.1.2.2)) (vx_MQ below Qc (kXC ad cT D B0 S') args s mc ms (fun q => B0 ≤ q)) (F0 m (pc + len) ls ((v1.map (kcv ad)).toList ++ rest.map (kcv ad))) := by
                  intro H1 locs1 r1 r2
                  rw [ecells, eslots]
                  have e1 : (v1.map (kcv ad)).toList ++ rest.map (kcv ad) = (v1.toList ++ rest).map (kcv ad) := by cases v1 <;> simp
                  rw [e1]
                  exact ih (Nat.le_of_succ_le hnN) h hy ho10 hx hb hts hK hX hown hml hin hB hEx hlk hta hRf hRl hc0 (Nat.le_trans hc1 cu1.1) (Nat.le_trans hs1 cu1.2) hfc hfs hmc hms r1 r2 hL
                rcases hins with ⟨rfl, rfl⟩ | ⟨rfl, rfl⟩ | ⟨rfl, rfl⟩
                · obtain rfl : len = 3 := by
                    rcases hlen with h | h
                    · exact h.symm
                    · exact absurd (show (3 : Nat) = 0 from h) (by decide)
                  obtain ⟨hinst, hsel⟩ := hk0 hkd
                  obtain ⟨a, t, rfl, hob⟩ := hrecv (by decide)
                  rw [hzo] at hob
                  have h12 : mmz.2.2.2.2 < 12 := by
                    have := kown_lt mmz (List.mem_of_getElem? hz)
                    rcases kobj_lt hob.2 with q | q
                    · exact q
                    · omega
                  obtain ⟨⟨C, Tt, N⟩, hvw⟩ : ∃ q, vwCl[mmz.2.2.2.2]? = some q := ⟨_, List.getElem?_eq_getElem (by simpa [vwCl] using h12)⟩
                  obtain ⟨-, -, -, -, -, -, hrn2, -⟩ := kCall _ C Tt N hvw
                  have hC : C = mmz.1.cls := by rw [← hrn2, hrn]
                  have hrc := va_recv (s := s) (H := H) hK.1 hrep.1 hvw (kobj_at hob)
                  have hlenA : (t.map (kcv ad)).length = np := by
                    have := hrev.2
                    simp at this
                    simp; omega
                  have hst2 : (F0 m pc ls (st.map (kcv ad))).stack = (t.map (kcv ad)).reverse ++ .ref (ad a) :: rest.map (kcv ad) := by
                    show st.map (kcv ad) = _
                    rw [hst]; simp [kcv]
                  have hPV : PreV s H mmz.1.cls (ad a) (kPc ad cT D B0 (kXp adK adV B0) (.ref a :: t) S) (t.map (kcv ad)) := ⟨kFB hXK _ S, by rw [← hC]; exact hrc, hpre⟩
                  rcases hlink with hl | hl
                  · exact kCallW (va_runV (C := mmz.1.cls) (n := np) hfix M ⟨callB_of np hts (kG_code hcd) rfl rfl rfl (hts _ hini) (hts _ hl) hp3 hrm, hts _ hinst, hts _ hsel⟩ hPV rfl hlenA hls hst2 hW8 hdec hroom) hS hfin
                  · exact kCallW (va_runVN (C := mmz.1.cls) (n := np) hfix M ⟨va_cnB np hts (kG_code hcd) rfl rfl rfl (hK.2.2.2 _ hl) (hts _ hini) hp3 hrm, hts _ hinst, hts _ hsel⟩ hPV rfl hlenA hls hst2 hW8 hdec hroom) hS hfin
                · obtain rfl : len = 3 := by
                    rcases hlen with h | h
                    · exact h.symm
                    · exact absurd (show (3 : Nat) = 0 from h) (by decide)
                  have hstat := hk1 hkd
                  have hlenA : (as.map (kcv ad)).length = np := by
                    have := hrev.2
                    simp at this
                    simp; omega
                  have hPS : PreS s H (kPc ad cT D B0 (kXp adK adV B0) as S) (as.map (kcv ad)) := ⟨kFB hXK _ S, hpre⟩
                  rcases hlink with hl | hl
                  · exact kCallW (va_runS (n := np) hfix M ⟨callB_of np hts (kG_code hcd) rfl rfl rfl (hts _ hini) (hts _ hl) hp3 hrm, hts _ hstat⟩ hPS rfl hlenA hls hst hW8 hdec hroom) hS hfin
                  · exact kCallW (va_runSN (n := np) hfix M ⟨va_cnB np hts (kG_code hcd) rfl rfl rfl (hK.2.2.2 _ hl) (hts _ hini) hp3 hrm, hts _ hstat, trivial⟩ hPS rfl hlenA hls hst hW8 hdec hroom) hS hfin
                · obtain rfl : len = 3 := by
                    rcases hlen with h | h
                    · exact h.symm
                    · exact absurd (show (3 : Nat) = 0 from h) (by decide)
                  obtain ⟨hinst, hnm, hret⟩ := hk2 hkd
                  obtain ⟨a, t, rfl, hob⟩ := hrecv (by decide)
                  have hlenA : (t.map (kcv ad)).length = np := by
                    have := hrev.2
                    simp at this
                    simp; omega
                  have hst2 : (F0 m pc ls (st.map (kcv ad))).stack = (t.map (kcv ad)).reverse ++ .ref (ad a) :: rest.map (kcv ad) := by
                    show st.map (kcv ad) = _
                    rw [hst]; simp [kcv]
                  have hPS : PreS s H (kPc ad cT D B0 (kXp adK adV B0) (.ref a :: t) S) (.ref (ad a) :: t.map (kcv ad)) := ⟨kFB hXK _ S, hpre⟩
                  have hG := kG_code hcd
                  rw [hret] at M hG
                  rcases hlink with hl | hl
                  · exact kCallW (va_runI (n := np) hfix M ⟨callB_of np hts hG rfl rfl rfl (hts _ hini) (hts _ hl) hp3 hrm, hnm, hts _ hinst⟩ hPS rfl hlenA hls hst2 hW8 hdec hroom) hS hfin
                  · exact kCallW (va_runIN (n := np) hfix M ⟨va_cnB np hts hG rfl rfl rfl (hK.2.2.2 _ hl) (hts _ hini) hp3 hrm, hnm, hts _ hinst⟩ hPS rfl hlenA hls hst2 hW8 hdec hroom) hS hfin
        · obtain ⟨h8, h1⟩ := kif_inj h1
          cases h1
          cases h
          obtain ⟨ix, rfl, hcq, hth⟩ := knew_inv htr h26
          obtain rfl : len = 3 := by
            rcases hlen with h | h
            · exact h.symm
            · exact absurd (show (3 : Nat) = 0 from h) (by decide)
          obtain ⟨is, k, v, d3, d4, d6, d9, hkq⟩ := kthr_inv hth
          obtain ⟨r, hr, hm9⟩ := klk_mem hcq
          obtain rfl : ix = 126 := kC10_99 (ix, 99) (by rw [← ho10, hr]; exact hm9) rfl
          obtain ⟨r2, hr2, hm2⟩ := klk_mem hkq
          have hks := kKs_all mm.2.2.2.2 ho (is, 2, v) (by rw [hr2]; exact hm2)
          unfold kKs at hks
          simp only at hks
          cases hq : kSo[v.toNat]? with
          | none => rw [hq] at hks; cases hks
          | some q =>
            rw [hq] at hks
            simp only [Bool.and_eq_true, decide_eq_true_eq] at hks
            have hZ := hX.1.1 _ q hq
            rw [hks.1, hks.2, ho10, kown10] at hZ
            have hown' : s.vm.findClass "HatAtCouncil" = some m.cls := by rw [ho10, kown10] at hown; exact hown
            have hmc' : S.1.2.1 + 1 - c0 ≤ mc := hmc
            have hms' : S.1.2.2 + 6 - s0 ≤ ms := hms
            have hfc' : S.1.2.1 + 1 - c0 ≤ R.cells := hfc
            have hfs' : S.1.2.2 + 6 - s0 ≤ R.slots := hfs
            refine ke_throw (B0 := B0) hx hb hl hown' hts hZ hX.2 hS (by rw [hml]; exact hL.1) hdec d3 d4 d6 d9 hta (by omega) ?_ (by omega) (by omega) hlk ?_ hS.2.2 (by omega) (by omega)
            · have := kcat_sum (ad := ad) h8
              omega
            · intro t hal hz hkeep
              refine ⟨rfl, ⟨hrep.1.kept (fun k q hk => hkeep _ (hrep.1 k q hk).lt), hrep.2.1, hrep.2.2⟩, Nat.le_trans hS.1 hz, fun q h1 h2 => ?_⟩
              rw [hkeep q (Nat.lt_of_lt_of_le h1 hS.1)]
              exact hS.2.1 q h1 h2
        · have cu2 := krun_cu h
          exact kSim hAd hx ho hb hts hK hown hml hin hB hEx (by omega) (by omega) hc0 hc1 hs1 (Nat.le_trans (Nat.sub_le_sub_right cu2.1 _) hfc) (Nat.le_trans (Nat.sub_le_sub_right cu2.2 _) hfs) hrep hS hL ins hdec hlen htr hs
            (fun ls' H' locs' r1 r2 r3 r4 => ih (Nat.le_of_succ_le hnN) h hy ho10 hx hb hts hK hX hown (by rw [hml, r4]) hin hB hEx hlk hta hRf hRl hc0 (Nat.le_trans hc1 h2) (Nat.le_trans hs1 h3) hfc hfs hmc hms r1 r2 r3)
end KBx
