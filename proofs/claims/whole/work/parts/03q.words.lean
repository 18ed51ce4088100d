/-! what a look-up in the abstract tables rests on -/
def kT : List Cond := lw_tbl.filter goodWord
theorem kT_at {w : Cond} {k : Nat} (h : lw_tbl[k]? = some w) (g : goodWord w = true) : w ∈ kT := List.mem_filter.mpr ⟨List.mem_of_getElem? h, g⟩
theorem kT_good : GoodIn kT kT := fun w h => ⟨h, good_of_word (List.mem_filter.mp h).2⟩
def kisN (w : Cond) : Bool := match w with | .fieldLinkNest _ _ _ _ _ _ => true | .methodLinkNest _ _ _ _ => true | _ => false
def kgw (w : Cond) : Bool := goodWord w || kisN w
/-- the words of nest mates -/
def kN : List Cond := lw_tbl.filter kisN
theorem kT_of {w : Cond} (h : w ∈ lw_tbl) (g : goodWord w = true) : w ∈ kT := List.mem_filter.mpr ⟨h, g⟩
theorem kN_of {w : Cond} (h : w ∈ lw_tbl) (g : kisN w = true) : w ∈ kN := List.mem_filter.mpr ⟨h, g⟩
def kRn (o : Nat) : String := ([RX0, RX1, RX2, RX3, RX4, RX5, RX6, RX7, RX8, RX9, RX10, RX11, RL, RJ6][o]?).getD ""
def kJn (z : Nat) : MethodName := match z with
  | 10 => ⟨"java/lang/String", "length", "()I"⟩
  | 11 => ⟨"java/lang/String", "charAt", "(I)C"⟩
  | 12 => arraycopyName
  | 14 => Lib.Math.max.name
  | 15 => Lib.Math.min.name
  | _ => objectInit
def kFc (own : Nat) (e : Nat × Nat × Nat × Nat × Nat) : Option Cond := match e with
  | (ix, ci, k, ty, nest) => (match vwCl[ci]? with
    | some (_, Tk, N) => if k < N ∧ kft ci k = ty ∧ kNF[ci]? = some N then (if nest = 0 then some (.fieldLink (kRn own) ix (Tk k).1 (Tk k).2.1 (Tk k).2.2.1) else some (.fieldLinkNest (kRn own) ix (Tk k).1 (Tk k).2.1 (Tk k).2.2.1 "HatAtCouncil")) else none
    | none => none)
def kMc (own : Nat) (e : Nat × Nat × Nat × Nat) : Option Cond := match e with
  | (ix, z, n, nest) => if n = 100 then (if nest = 0 then some (.methodLink (kRn own) ix (kJn z)) else none) else (match kms[z]? with
    | some m => if (parseMethodDescriptor m.1.desc).map (fun d => d.parameters.length) = some n then (if nest = 0 then some (.methodLink (kRn own) ix m.1) else some (.methodLinkNest (kRn own) ix m.1 "HatAtCouncil")) else none
    | none => none)
def kchk {α : Type} (f : α → Option Cond) : List α → List Nat → Bool
  | [], _ => true
  | _ :: _, [] => false
  | e :: t, p :: ps => (match f e with | some w => decide (lw_tbl[p]? = some w) && kgw w | none => false) && kchk f t ps
theorem kchk_ok {α : Type} {f : α → Option Cond} : ∀ {l : List α} {ps : List Nat}, kchk f l ps = true → ∀ e ∈ l, ∃ w, f e = some w ∧ w ∈ lw_tbl ∧ kgw w = true
  | [], _, _, e, he => absurd he List.not_mem_nil
  | a :: t, [], h, _, _ => absurd h (by simp [kchk])
  | a :: t, p :: ps, h, e, he => by
    rw [kchk, Bool.and_eq_true] at h
    obtain ⟨h1, h2⟩ := h
    rcases List.mem_cons.mp he with rfl | he
    · cases hf : f e with
      | none => rw [hf] at h1; cases h1
      | some w =>
        rw [hf] at h1
        simp only [Bool.and_eq_true, decide_eq_true_eq] at h1
        exact ⟨w, rfl, List.mem_of_getElem? h1.1, h1.2⟩
    · exact kchk_ok h2 e he
theorem klk_mem {α : Type} {t : List (List (Nat × α))} {own ix : Nat} {v : α} (h : klk t own ix = some v) : ∃ r, t[own]? = some r ∧ (ix, v) ∈ r := by
  unfold klk at h
  cases ht : t[own]? with
  | none => rw [ht] at h; simp at h
  | some r =>
    rw [ht] at h
    refine ⟨r, rfl, ?_⟩
    have h2 : r.lookup ix = some v := h
    clear ht h
    revert h2
    induction r with
    | nil => intro h; simp at h
    | cons a t ih =>
      intro h
      obtain ⟨k, w⟩ := a
      rw [List.lookup_cons] at h
      by_cases e : (ix == k) = true
      · rw [e] at h
        have e2 : ix = k := by simpa using e
        cases h
        rw [e2]; exact List.mem_cons_self
      · have e : (ix == k) = false := by simpa using e
        rw [e] at h
        exact List.mem_cons_of_mem _ (ih h)
theorem kcF_0 : kchk (kFc 0) ((krF[0]?).getD []) ((kFp[0]?).getD []) = true := by decide +kernel
theorem kcM_0 : kchk (kMc 0) ((krM[0]?).getD []) ((kMp[0]?).getD []) = true := by decide +kernel
theorem kcF_1 : kchk (kFc 1) ((krF[1]?).getD []) ((kFp[1]?).getD []) = true := by decide +kernel
theorem kcM_1 : kchk (kMc 1) ((krM[1]?).getD []) ((kMp[1]?).getD []) = true := by decide +kernel
theorem kcF_2 : kchk (kFc 2) ((krF[2]?).getD []) ((kFp[2]?).getD []) = true := by decide +kernel
theorem kcM_2 : kchk (kMc 2) ((krM[2]?).getD []) ((kMp[2]?).getD []) = true := by decide +kernel
theorem kcF_3 : kchk (kFc 3) ((krF[3]?).getD []) ((kFp[3]?).getD []) = true := by decide +kernel
theorem kcM_3 : kchk (kMc 3) ((krM[3]?).getD []) ((kMp[3]?).getD []) = true := by decide +kernel
theorem kcF_4 : kchk (kFc 4) ((krF[4]?).getD []) ((kFp[4]?).getD []) = true := by decide +kernel
theorem kcM_4 : kchk (kMc 4) ((krM[4]?).getD []) ((kMp[4]?).getD []) = true := by decide +kernel
theorem kcF_5 : kchk (kFc 5) ((krF[5]?).getD []) ((kFp[5]?).getD []) = true := by decide +kernel
theorem kcM_5 : kchk (kMc 5) ((krM[5]?).getD []) ((kMp[5]?).getD []) = true := by decide +kernel
theorem kcF_6 : kchk (kFc 6) ((krF[6]?).getD []) ((kFp[6]?).getD []) = true := by decide +kernel
theorem kcM_6 : kchk (kMc 6) ((krM[6]?).getD []) ((kMp[6]?).getD []) = true := by decide +kernel
theorem kcF_7 : kchk (kFc 7) ((krF[7]?).getD []) ((kFp[7]?).getD []) = true := by decide +kernel
theorem kcM_7 : kchk (kMc 7) ((krM[7]?).getD []) ((kMp[7]?).getD []) = true := by decide +kernel
theorem kcF_8 : kchk (kFc 8) ((krF[8]?).getD []) ((kFp[8]?).getD []) = true := by decide +kernel
theorem kcM_8 : kchk (kMc 8) ((krM[8]?).getD []) ((kMp[8]?).getD []) = true := by decide +kernel
theorem kcF_9 : kchk (kFc 9) ((krF[9]?).getD []) ((kFp[9]?).getD []) = true := by decide +kernel
theorem kcM_9 : kchk (kMc 9) ((krM[9]?).getD []) ((kMp[9]?).getD []) = true := by decide +kernel
theorem kcF_10 : kchk (kFc 10) ((krF[10]?).getD []) ((kFp[10]?).getD []) = true := by decide +kernel
theorem kcM_10 : kchk (kMc 10) ((krM[10]?).getD []) ((kMp[10]?).getD []) = true := by decide +kernel
theorem kcF_11 : kchk (kFc 11) ((krF[11]?).getD []) ((kFp[11]?).getD []) = true := by decide +kernel
theorem kcM_11 : kchk (kMc 11) ((krM[11]?).getD []) ((kMp[11]?).getD []) = true := by decide +kernel
theorem kcF_12 : kchk (kFc 12) ((krF[12]?).getD []) ((kFp[12]?).getD []) = true := by decide +kernel
theorem kcM_12 : kchk (kMc 12) ((krM[12]?).getD []) ((kMp[12]?).getD []) = true := by decide +kernel
theorem kcF_13 : kchk (kFc 13) ((krF[13]?).getD []) ((kFp[13]?).getD []) = true := by decide +kernel
theorem kcM_13 : kchk (kMc 13) ((krM[13]?).getD []) ((kMp[13]?).getD []) = true := by decide +kernel
theorem kcF_all : ∀ own, own < 14 → kchk (kFc own) ((krF[own]?).getD []) ((kFp[own]?).getD []) = true
  | 0, _ => kcF_0
  | 1, _ => kcF_1
  | 2, _ => kcF_2
  | 3, _ => kcF_3
  | 4, _ => kcF_4
  | 5, _ => kcF_5
  | 6, _ => kcF_6
  | 7, _ => kcF_7
  | 8, _ => kcF_8
  | 9, _ => kcF_9
  | 10, _ => kcF_10
  | 11, _ => kcF_11
  | 12, _ => kcF_12
  | 13, _ => kcF_13
  | n + 14, h => absurd h (by omega)
theorem kcM_all : ∀ own, own < 14 → kchk (kMc own) ((krM[own]?).getD []) ((kMp[own]?).getD []) = true
  | 0, _ => kcM_0
  | 1, _ => kcM_1
  | 2, _ => kcM_2
  | 3, _ => kcM_3
  | 4, _ => kcM_4
  | 5, _ => kcM_5
  | 6, _ => kcM_6
  | 7, _ => kcM_7
  | 8, _ => kcM_8
  | 9, _ => kcM_9
  | 10, _ => kcM_10
  | 11, _ => kcM_11
  | 12, _ => kcM_12
  | 13, _ => kcM_13
  | n + 14, h => absurd h (by omega)
set_option maxRecDepth 20000 in
theorem kcs0 : ∀ q ∈ kms0, q.2.2.2.2 = 12 ∨ Cond.code q.1 q.2.1 q.2.2.1 q.2.2.2.1 ∈ kT := List.forall_mem_cons.mpr ⟨Or.inr (kT_at kc_X0_init rfl), List.forall_mem_cons.mpr ⟨Or.inr (kT_at kc_X0_start rfl), List.forall_mem_cons.mpr ⟨Or.inr (kT_at kc_X0_of rfl), List.forall_mem_cons.mpr ⟨Or.inr (kT_at kc_X1_init rfl), List.forall_mem_cons.mpr ⟨Or.inr (kT_at kc_X1_copy rfl), List.forall_mem_cons.mpr ⟨Or.inr (kT_at kc_X1_hadHat rfl), List.forall_mem_cons.mpr ⟨Or.inr (kT_at kc_X1_sayable rfl), List.forall_mem_cons.mpr ⟨Or.inr (kT_at kc_X1_sayers rfl), List.forall_mem_cons.mpr ⟨Or.inr (kT_at kc_X1_refusal rfl), List.forall_mem_cons.mpr ⟨Or.inr (kT_at kc_X1_goOn rfl), List.forall_mem_cons.mpr ⟨Or.inr (kT_at kc_X1_speaker rfl), List.forall_mem_cons.mpr ⟨Or.inr (kT_at kc_X1_takeTurn rfl), List.forall_mem_cons.mpr ⟨Or.inr (kT_at kc_X1_play rfl), List.forall_mem_cons.mpr ⟨Or.inr (kT_at kc_X1_canSay rfl), List.forall_mem_cons.mpr ⟨Or.inr (kT_at kc_X1_canTalk rfl), List.forall_mem_cons.mpr ⟨Or.inr (kT_at kc_X1_minutesOf rfl), List.forall_mem_cons.mpr ⟨Or.inr (kT_at kc_X1_wearerAfter rfl), List.forall_mem_cons.mpr ⟨Or.inr (kT_at kc_X1_markSaid rfl), List.forall_mem_cons.mpr ⟨Or.inr (kT_at kc_X1_pass rfl), List.forall_mem_cons.mpr ⟨Or.inr (kT_at kc_X1_strike rfl), List.forall_mem_cons.mpr ⟨Or.inr (kT_at kc_X2_init rfl), List.forall_mem_cons.mpr ⟨Or.inr (kT_at kc_X2_remember rfl), List.forall_mem_cons.mpr ⟨Or.inr (kT_at kc_X2_bringBack rfl), List.forall_mem_cons.mpr ⟨Or.inr (kT_at kc_X2_keepUnder rfl), List.forall_mem_cons.mpr ⟨Or.inr (kT_at kc_X2_takeAgain rfl), List.forall_mem_cons.mpr ⟨Or.inr (kT_at kc_X2_forgetAll rfl), List.forall_mem_cons.mpr ⟨Or.inr (kT_at kc_X2_dropOldest rfl), List.forall_mem_cons.mpr ⟨Or.inr (kT_at kc_X3_init rfl), List.forall_mem_cons.mpr ⟨Or.inr (kT_at kc_X3_has rfl), List.forall_mem_cons.mpr ⟨Or.inr (kT_at kc_X3_areTwo rfl), List.forall_mem_cons.mpr ⟨Or.inr (kT_at kc_X3_readLengths rfl), List.forall_mem_cons.mpr ⟨Or.inr (kT_at kc_X3_readLines rfl), List.forall_mem_cons.mpr ⟨Or.inr (kT_at kc_X3_takeSheet rfl), List.forall_mem_cons.mpr ⟨Or.inr (kT_at kc_X3_couldTogether rfl), List.forall_mem_cons.mpr ⟨Or.inr (kT_at kc_X3_wanting rfl), List.forall_mem_cons.mpr ⟨Or.inr (kT_at kc_X3_minutes rfl), List.forall_mem_cons.mpr ⟨Or.inr (kT_at kc_X3_settle rfl), List.forall_mem_cons.mpr ⟨Or.inr (kT_at kc_X3_weigh rfl), List.forall_mem_cons.mpr ⟨Or.inr (kT_at kc_X3_sheetEntry rfl), List.forall_mem_cons.mpr ⟨Or.inr (kT_at kc_X4_init rfl), fun _ h => absurd h List.not_mem_nil⟩⟩⟩⟩⟩⟩⟩⟩⟩⟩⟩⟩⟩⟩⟩⟩⟩⟩⟩⟩⟩⟩⟩⟩⟩⟩⟩⟩⟩⟩⟩⟩⟩⟩⟩⟩⟩⟩⟩⟩
set_option maxRecDepth 20000 in
theorem kcs1 : ∀ q ∈ kms1, q.2.2.2.2 = 12 ∨ Cond.code q.1 q.2.1 q.2.2.1 q.2.2.2.1 ∈ kT := List.forall_mem_cons.mpr ⟨Or.inr (kT_at kc_X4_start rfl), List.forall_mem_cons.mpr ⟨Or.inr (kT_at kc_X4_add rfl), List.forall_mem_cons.mpr ⟨Or.inr (kT_at kc_X4_addFraction rfl), List.forall_mem_cons.mpr ⟨Or.inr (kT_at kc_X5_init rfl), List.forall_mem_cons.mpr ⟨Or.inr (kT_at kc_X5_read rfl), List.forall_mem_cons.mpr ⟨Or.inr (kT_at kc_X5_eagerness rfl), List.forall_mem_cons.mpr ⟨Or.inr (kT_at kc_X5_takesPart rfl), List.forall_mem_cons.mpr ⟨Or.inr (kT_at kc_X5_takesJoin rfl), List.forall_mem_cons.mpr ⟨Or.inr (kT_at kc_X5_lengthensNumber rfl), List.forall_mem_cons.mpr ⟨Or.inr (kT_at kc_X5_closesBracket rfl), List.forall_mem_cons.mpr ⟨Or.inr (kT_at kc_X5_release rfl), List.forall_mem_cons.mpr ⟨Or.inr (kT_at kc_X5_bondOf rfl), List.forall_mem_cons.mpr ⟨Or.inr (kT_at kc_X5_waiting rfl), List.forall_mem_cons.mpr ⟨Or.inr (kT_at kc_X5_push rfl), List.forall_mem_cons.mpr ⟨Or.inr (kT_at kc_X5_pop rfl), List.forall_mem_cons.mpr ⟨Or.inr (kT_at kc_X5_put rfl), List.forall_mem_cons.mpr ⟨Or.inr (kT_at kc_X5_isLetter rfl), List.forall_mem_cons.mpr ⟨Or.inr (kT_at kc_X5_valueOf rfl), List.forall_mem_cons.mpr ⟨Or.inr (kT_at kc_X5_joined rfl), List.forall_mem_cons.mpr ⟨Or.inr (kT_at kc_X6_init rfl), List.forall_mem_cons.mpr ⟨Or.inr (kT_at kc_X6_add rfl), List.forall_mem_cons.mpr ⟨Or.inr (kT_at kc_X6_clear rfl), List.forall_mem_cons.mpr ⟨Or.inr (kT_at kc_X6_fitting rfl), List.forall_mem_cons.mpr ⟨Or.inr (kT_at kc_X6_fitsAll rfl), List.forall_mem_cons.mpr ⟨Or.inr (kT_at kc_X6_fitsOne rfl), List.forall_mem_cons.mpr ⟨Or.inr (kT_at kc_X6_canBe rfl), List.forall_mem_cons.mpr ⟨Or.inr (kT_at kc_X7_init rfl), List.forall_mem_cons.mpr ⟨Or.inr (kT_at kc_X7_fewestMinutes rfl), List.forall_mem_cons.mpr ⟨Or.inr (kT_at kc_X7_tellTalks rfl), List.forall_mem_cons.mpr ⟨Or.inr (kT_at kc_X7_mostShared rfl), List.forall_mem_cons.mpr ⟨Or.inr (kT_at kc_X7_tellShares rfl), List.forall_mem_cons.mpr ⟨Or.inr (kT_at kc_X7_fillPlains rfl), List.forall_mem_cons.mpr ⟨Or.inr (kT_at kc_X7_fillWithSneezes rfl), List.forall_mem_cons.mpr ⟨Or.inr (kT_at kc_X7_fewestIfFirst rfl), List.forall_mem_cons.mpr ⟨Or.inr (kT_at kc_X7_minutesBy rfl), List.forall_mem_cons.mpr ⟨Or.inr (kT_at kc_X7_leastTalk rfl), List.forall_mem_cons.mpr ⟨Or.inr (kT_at kc_X7_soonestOf rfl), List.forall_mem_cons.mpr ⟨Or.inr (kT_at kc_X7_fewestBeside rfl), List.forall_mem_cons.mpr ⟨Or.inr (kT_at kc_X7_mostWithTaker rfl), List.forall_mem_cons.mpr ⟨Or.inr (kT_at kc_X7_leastTaker rfl), fun _ h => absurd h List.not_mem_nil⟩⟩⟩⟩⟩⟩⟩⟩⟩⟩⟩⟩⟩⟩⟩⟩⟩⟩⟩⟩⟩⟩⟩⟩⟩⟩⟩⟩⟩⟩⟩⟩⟩⟩⟩⟩⟩⟩⟩⟩
set_option maxRecDepth 20000 in
theorem kcs2 : ∀ q ∈ kms2, q.2.2.2.2 = 12 ∨ Cond.code q.1 q.2.1 q.2.2.1 q.2.2.2.1 ∈ kT := List.forall_mem_cons.mpr ⟨Or.inr (kT_at kc_X7_canTake rfl), List.forall_mem_cons.mpr ⟨Or.inr (kT_at kc_X7_without rfl), List.forall_mem_cons.mpr ⟨Or.inr (kT_at kc_X7_place rfl), List.forall_mem_cons.mpr ⟨Or.inr (kT_at kc_X8_init rfl), List.forall_mem_cons.mpr ⟨Or.inr (kT_at kc_X8_fill rfl), List.forall_mem_cons.mpr ⟨Or.inr (kT_at kc_X8_opening rfl), List.forall_mem_cons.mpr ⟨Or.inr (kT_at kc_X8_winning rfl), List.forall_mem_cons.mpr ⟨Or.inr (kT_at kc_X9_init rfl), List.forall_mem_cons.mpr ⟨Or.inr (kT_at kc_X9_add rfl), List.forall_mem_cons.mpr ⟨Or.inr (kT_at kc_X9_tell rfl), List.forall_mem_cons.mpr ⟨Or.inr (kT_at kc_X9_cut rfl), List.forall_mem_cons.mpr ⟨Or.inr (kT_at kc_X9_empty rfl), List.forall_mem_cons.mpr ⟨Or.inr (kT_at kc_X9_at rfl), List.forall_mem_cons.mpr ⟨Or.inr (kT_at kc_X9_put rfl), List.forall_mem_cons.mpr ⟨Or.inr (kT_at kc_X10_init rfl), List.forall_mem_cons.mpr ⟨Or.inr (kT_at kc_X10_sign rfl), List.forall_mem_cons.mpr ⟨Or.inr (kT_at kc_X10_end rfl), List.forall_mem_cons.mpr ⟨Or.inr (kT_at kc_X10_lengths rfl), List.forall_mem_cons.mpr ⟨Or.inr (kT_at kc_X10_council rfl), List.forall_mem_cons.mpr ⟨Or.inr (kT_at kc_X10_rule rfl), List.forall_mem_cons.mpr ⟨Or.inr (kT_at kc_X10_man rfl), List.forall_mem_cons.mpr ⟨Or.inr (kT_at kc_X10_thing rfl), List.forall_mem_cons.mpr ⟨Or.inr (kT_at kc_X10_sheet rfl), List.forall_mem_cons.mpr ⟨Or.inr (kT_at kc_X10_talk rfl), List.forall_mem_cons.mpr ⟨Or.inr (kT_at kc_X10_turn rfl), List.forall_mem_cons.mpr ⟨Or.inr (kT_at kc_X10_midnight rfl), List.forall_mem_cons.mpr ⟨Or.inr (kT_at kc_X10_evening rfl), List.forall_mem_cons.mpr ⟨Or.inr (kT_at kc_X10_undo rfl), List.forall_mem_cons.mpr ⟨Or.inr (kT_at kc_X10_next rfl), List.forall_mem_cons.mpr ⟨Or.inr (kT_at kc_X10_ahead rfl), List.forall_mem_cons.mpr ⟨Or.inr (kT_at kc_X10_strikes rfl), List.forall_mem_cons.mpr ⟨Or.inr (kT_at kc_X10_pays rfl), List.forall_mem_cons.mpr ⟨Or.inr (kT_at kc_X10_vote rfl), List.forall_mem_cons.mpr ⟨Or.inr (kT_at kc_X10_mute rfl), List.forall_mem_cons.mpr ⟨Or.inr (kT_at kc_X10_when rfl), List.forall_mem_cons.mpr ⟨Or.inr (kT_at kc_X10_alike rfl), List.forall_mem_cons.mpr ⟨Or.inr (kT_at kc_X10_rivals rfl), List.forall_mem_cons.mpr ⟨Or.inr (kT_at kc_X10_order rfl), List.forall_mem_cons.mpr ⟨Or.inr (kT_at kc_X10_cover rfl), List.forall_mem_cons.mpr ⟨Or.inr (kT_at kc_X10_shares rfl), fun _ h => absurd h List.not_mem_nil⟩⟩⟩⟩⟩⟩⟩⟩⟩⟩⟩⟩⟩⟩⟩⟩⟩⟩⟩⟩⟩⟩⟩⟩⟩⟩⟩⟩⟩⟩⟩⟩⟩⟩⟩⟩⟩⟩⟩⟩
set_option maxRecDepth 20000 in
theorem kcs3 : ∀ q ∈ kms3, q.2.2.2.2 = 12 ∨ Cond.code q.1 q.2.1 q.2.2.1 q.2.2.2.1 ∈ kT := List.forall_mem_cons.mpr ⟨Or.inr (kT_at kc_X10_most rfl), List.forall_mem_cons.mpr ⟨Or.inr (kT_at kc_X10_fro rfl), List.forall_mem_cons.mpr ⟨Or.inr (kT_at kc_X10_game rfl), List.forall_mem_cons.mpr ⟨Or.inr (kT_at kc_X10_wins rfl), List.forall_mem_cons.mpr ⟨Or.inr (kT_at kc_X10_silent rfl), List.forall_mem_cons.mpr ⟨Or.inr (kT_at kc_X10_lot rfl), List.forall_mem_cons.mpr ⟨Or.inr (kT_at kc_X10_heard rfl), List.forall_mem_cons.mpr ⟨Or.inr (kT_at kc_X10_forget rfl), List.forall_mem_cons.mpr ⟨Or.inr (kT_at kc_X10_fits rfl), List.forall_mem_cons.mpr ⟨Or.inr (kT_at kc_X10_ask rfl), List.forall_mem_cons.mpr ⟨Or.inr (kT_at kc_X10_law rfl), List.forall_mem_cons.mpr ⟨Or.inr (kT_at kc_X10_rests rfl), List.forall_mem_cons.mpr ⟨Or.inr (kT_at kc_X10_years rfl), List.forall_mem_cons.mpr ⟨Or.inr (kT_at kc_X10_keep rfl), List.forall_mem_cons.mpr ⟨Or.inr (kT_at kc_X10_again rfl), List.forall_mem_cons.mpr ⟨Or.inr (kT_at kc_X10_count rfl), List.forall_mem_cons.mpr ⟨Or.inr (kT_at kc_X10_row rfl), List.forall_mem_cons.mpr ⟨Or.inr (kT_at kc_X10_readRule rfl), List.forall_mem_cons.mpr ⟨Or.inr (kT_at kc_X10_badEveningSign rfl), List.forall_mem_cons.mpr ⟨Or.inr (kT_at kc_X10_actSigns rfl), List.forall_mem_cons.mpr ⟨Or.inr (kT_at kc_X10_standsInAct rfl), List.forall_mem_cons.mpr ⟨Or.inr (kT_at kc_X10_kindOf rfl), List.forall_mem_cons.mpr ⟨Or.inr (kT_at kc_X10_act rfl), List.forall_mem_cons.mpr ⟨Or.inr (kT_at kc_X10_liveOn rfl), List.forall_mem_cons.mpr ⟨Or.inr (kT_at kc_X10_isMore rfl), List.forall_mem_cons.mpr ⟨Or.inr (kT_at kc_X10_isBestAgainst rfl), List.forall_mem_cons.mpr ⟨Or.inr (kT_at kc_X10_candleGain rfl), List.forall_mem_cons.mpr ⟨Or.inr (kT_at kc_X10_orNobody rfl), List.forall_mem_cons.mpr ⟨Or.inr (kT_at kc_X10_isThing rfl), List.forall_mem_cons.mpr ⟨Or.inr (kT_at kc_X10_areThings rfl), List.forall_mem_cons.mpr ⟨Or.inr (kT_at kc_X10_isLength rfl), List.forall_mem_cons.mpr ⟨Or.inr (kT_at kc_X10_isDigit rfl), List.forall_mem_cons.mpr ⟨Or.inr (kT_at kc_X10_firstOf rfl), List.forall_mem_cons.mpr ⟨Or.inr (kT_at kc_X10_sumOf rfl), List.forall_mem_cons.mpr ⟨Or.inr (kT_at kc_X10_power rfl), List.forall_mem_cons.mpr ⟨Or.inr (kT_at kc_X11_thrown rfl), List.forall_mem_cons.mpr ⟨Or.inr (kT_at kc_X11_refuse rfl), List.forall_mem_cons.mpr ⟨Or.inr (kT_at kc_X11_in rfl), List.forall_mem_cons.mpr ⟨Or.inr (kT_at kc_X11_has rfl), List.forall_mem_cons.mpr ⟨Or.inr (kT_at kc_X11_flag rfl), fun _ h => absurd h List.not_mem_nil⟩⟩⟩⟩⟩⟩⟩⟩⟩⟩⟩⟩⟩⟩⟩⟩⟩⟩⟩⟩⟩⟩⟩⟩⟩⟩⟩⟩⟩⟩⟩⟩⟩⟩⟩⟩⟩⟩⟩⟩
set_option maxRecDepth 20000 in
theorem kcs4 : ∀ q ∈ kms4, q.2.2.2.2 = 12 ∨ Cond.code q.1 q.2.1 q.2.2.1 q.2.2.2.1 ∈ kT := List.forall_mem_cons.mpr ⟨Or.inr (kT_at kc_X11_common rfl), List.forall_mem_cons.mpr ⟨Or.inr (kT_at kc_X11_enters rfl), List.forall_mem_cons.mpr ⟨Or.inr (kT_at kc_X11_tellsFraction rfl), List.forall_mem_cons.mpr ⟨Or.inr (kT_at kc_X11_init rfl), List.forall_mem_cons.mpr ⟨Or.inr (kT_at kc_X11_isMan rfl), List.forall_mem_cons.mpr ⟨Or.inr (kT_at kc_X11_isThing rfl), List.forall_mem_cons.mpr ⟨Or.inr (kT_at kc_X11_able rfl), List.forall_mem_cons.mpr ⟨Or.inr (kT_at kc_X11_canSay rfl), List.forall_mem_cons.mpr ⟨Or.inr (kT_at kc_X11_sumOf rfl), List.forall_mem_cons.mpr ⟨Or.inr (kT_at kc_X11_sign rfl), List.forall_mem_cons.mpr ⟨Or.inr (kT_at kc_X11_end rfl), List.forall_mem_cons.mpr ⟨Or.inr (kT_at kc_X11_begins rfl), List.forall_mem_cons.mpr ⟨Or.inr (kT_at kc_X11_takes rfl), List.forall_mem_cons.mpr ⟨Or.inr (kT_at kc_X11_isDigit rfl), List.forall_mem_cons.mpr ⟨Or.inr (kT_at kc_X11_among rfl), List.forall_mem_cons.mpr ⟨Or.inr (kT_at kc_X11_takesOf rfl), List.forall_mem_cons.mpr ⟨Or.inr (kT_at kc_X11_number rfl), List.forall_mem_cons.mpr ⟨Or.inr (kT_at kc_X11_digitIn rfl), List.forall_mem_cons.mpr ⟨Or.inr (kT_at kc_X11_faultOf rfl), List.forall_mem_cons.mpr ⟨Or.inr (kT_at kc_X11_lengths rfl), List.forall_mem_cons.mpr ⟨Or.inr (kT_at kc_X11_readsMan rfl), List.forall_mem_cons.mpr ⟨Or.inr (kT_at kc_X11_council rfl), List.forall_mem_cons.mpr ⟨Or.inr (kT_at kc_X11_codes rfl), List.forall_mem_cons.mpr ⟨Or.inr (kT_at kc_X11_readsThing rfl), List.forall_mem_cons.mpr ⟨Or.inr (kT_at kc_X11_readsRank rfl), List.forall_mem_cons.mpr ⟨Or.inr (kT_at kc_X11_readsRule rfl), List.forall_mem_cons.mpr ⟨Or.inr (kT_at kc_X11_laysCode rfl), List.forall_mem_cons.mpr ⟨Or.inr (kT_at kc_X11_rule rfl), List.forall_mem_cons.mpr ⟨Or.inr (kT_at kc_X11_worked rfl), List.forall_mem_cons.mpr ⟨Or.inr (kT_at kc_X11_ruled rfl), List.forall_mem_cons.mpr ⟨Or.inr (kT_at kc_X11_eager rfl), List.forall_mem_cons.mpr ⟨Or.inr (kT_at kc_X11_man rfl), List.forall_mem_cons.mpr ⟨Or.inr (kT_at kc_X11_thing rfl), List.forall_mem_cons.mpr ⟨Or.inr (kT_at kc_X11_sheet rfl), List.forall_mem_cons.mpr ⟨Or.inr (kT_at kc_X11_putsBy rfl), List.forall_mem_cons.mpr ⟨Or.inr (kT_at kc_X11_adds rfl), List.forall_mem_cons.mpr ⟨Or.inr (kT_at kc_X11_counted rfl), List.forall_mem_cons.mpr ⟨Or.inr (kT_at kc_X11_undo rfl), List.forall_mem_cons.mpr ⟨Or.inr (kT_at kc_X11_passes rfl), List.forall_mem_cons.mpr ⟨Or.inr (kT_at kc_X11_isPlainOf rfl), fun _ h => absurd h List.not_mem_nil⟩⟩⟩⟩⟩⟩⟩⟩⟩⟩⟩⟩⟩⟩⟩⟩⟩⟩⟩⟩⟩⟩⟩⟩⟩⟩⟩⟩⟩⟩⟩⟩⟩⟩⟩⟩⟩⟩⟩⟩
set_option maxRecDepth 20000 in
theorem kcs5 : ∀ q ∈ kms5, q.2.2.2.2 = 12 ∨ Cond.code q.1 q.2.1 q.2.2.1 q.2.2.2.1 ∈ kT := List.forall_mem_cons.mpr ⟨Or.inr (kT_at kc_X11_canTalk rfl), List.forall_mem_cons.mpr ⟨Or.inr (kT_at kc_X11_talks rfl), List.forall_mem_cons.mpr ⟨Or.inr (kT_at kc_X11_speaker rfl), List.forall_mem_cons.mpr ⟨Or.inr (kT_at kc_X11_turnGoes rfl), List.forall_mem_cons.mpr ⟨Or.inr (kT_at kc_X11_goesOn rfl), List.forall_mem_cons.mpr ⟨Or.inr (kT_at kc_X11_orNobody rfl), List.forall_mem_cons.mpr ⟨Or.inr (kT_at kc_X11_talk rfl), List.forall_mem_cons.mpr ⟨Or.inr (kT_at kc_X11_turn rfl), List.forall_mem_cons.mpr ⟨Or.inr (kT_at kc_X11_midnight rfl), List.forall_mem_cons.mpr ⟨Or.inr (kT_at kc_X11_readsAct rfl), List.forall_mem_cons.mpr ⟨Or.inr (kT_at kc_X11_does rfl), List.forall_mem_cons.mpr ⟨Or.inr (kT_at kc_X11_evening rfl), List.forall_mem_cons.mpr ⟨Or.inr (kT_at kc_X11_copies rfl), List.forall_mem_cons.mpr ⟨Or.inr (kT_at kc_X11_next rfl), List.forall_mem_cons.mpr ⟨Or.inr (kT_at kc_X11_ahead rfl), List.forall_mem_cons.mpr ⟨Or.inr (kT_at kc_X11_strikes rfl), List.forall_mem_cons.mpr ⟨Or.inr (kT_at kc_X11_pays rfl), List.forall_mem_cons.mpr ⟨Or.inr (kT_at kc_X11_when rfl), List.forall_mem_cons.mpr ⟨Or.inr (kT_at kc_X11_vote rfl), List.forall_mem_cons.mpr ⟨Or.inr (kT_at kc_X11_mute rfl), List.forall_mem_cons.mpr ⟨Or.inr (kT_at kc_X11_place rfl), List.forall_mem_cons.mpr ⟨Or.inr (kT_at kc_X11_goesBy rfl), List.forall_mem_cons.mpr ⟨Or.inr (kT_at kc_X11_laysYet rfl), List.forall_mem_cons.mpr ⟨Or.inr (kT_at kc_X11_order rfl), List.forall_mem_cons.mpr ⟨Or.inr (kT_at kc_X11_isFewer rfl), List.forall_mem_cons.mpr ⟨Or.inr (kT_at kc_X11_cover rfl), List.forall_mem_cons.mpr ⟨Or.inr (kT_at kc_X11_sharesFrom rfl), List.forall_mem_cons.mpr ⟨Or.inr (kT_at kc_X11_shares rfl), List.forall_mem_cons.mpr ⟨Or.inr (kT_at kc_X11_longOf rfl), List.forall_mem_cons.mpr ⟨Or.inr (kT_at kc_X11_most rfl), List.forall_mem_cons.mpr ⟨Or.inr (kT_at kc_X11_fro rfl), List.forall_mem_cons.mpr ⟨Or.inr (kT_at kc_X11_alike rfl), List.forall_mem_cons.mpr ⟨Or.inr (kT_at kc_X11_rivals rfl), List.forall_mem_cons.mpr ⟨Or.inr (kT_at kc_X11_laysGame rfl), List.forall_mem_cons.mpr ⟨Or.inr (kT_at kc_X11_game rfl), List.forall_mem_cons.mpr ⟨Or.inr (kT_at kc_X11_wins rfl), List.forall_mem_cons.mpr ⟨Or.inr (kT_at kc_X11_power rfl), List.forall_mem_cons.mpr ⟨Or.inr (kT_at kc_X11_silent rfl), List.forall_mem_cons.mpr ⟨Or.inr (kT_at kc_X11_lot rfl), List.forall_mem_cons.mpr ⟨Or.inr (kT_at kc_X11_heard rfl), fun _ h => absurd h List.not_mem_nil⟩⟩⟩⟩⟩⟩⟩⟩⟩⟩⟩⟩⟩⟩⟩⟩⟩⟩⟩⟩⟩⟩⟩⟩⟩⟩⟩⟩⟩⟩⟩⟩⟩⟩⟩⟩⟩⟩⟩⟩
set_option maxRecDepth 20000 in
theorem kcs6 : ∀ q ∈ kms6, q.2.2.2.2 = 12 ∨ Cond.code q.1 q.2.1 q.2.2.1 q.2.2.2.1 ∈ kT := List.forall_mem_cons.mpr ⟨Or.inr (kT_at kc_X11_forget rfl), List.forall_mem_cons.mpr ⟨Or.inr (kT_at kc_X11_isSo rfl), List.forall_mem_cons.mpr ⟨Or.inr (kT_at kc_X11_fitting rfl), List.forall_mem_cons.mpr ⟨Or.inr (kT_at kc_X11_fits rfl), List.forall_mem_cons.mpr ⟨Or.inr (kT_at kc_X11_ask rfl), List.forall_mem_cons.mpr ⟨Or.inr (kT_at kc_X11_law rfl), List.forall_mem_cons.mpr ⟨Or.inr (kT_at kc_X11_gets rfl), List.forall_mem_cons.mpr ⟨Or.inr (kT_at kc_X11_isRest rfl), List.forall_mem_cons.mpr ⟨Or.inr (kT_at kc_X11_rests rfl), List.forall_mem_cons.mpr ⟨Or.inr (kT_at kc_X11_draws rfl), List.forall_mem_cons.mpr ⟨Or.inr (kT_at kc_X11_years rfl), List.forall_mem_cons.mpr ⟨Or.inr (kT_at kc_X11_keep rfl), List.forall_mem_cons.mpr ⟨Or.inr (kT_at kc_X11_again rfl), List.forall_mem_cons.mpr ⟨Or.inr (kT_at kc_X11_count rfl), List.forall_mem_cons.mpr ⟨Or.inr (kT_at kc_X11_row rfl), List.forall_mem_cons.mpr ⟨Or.inr (kT_at kc_J6_numberOfTrailingZeros_0f7a4 rfl), List.forall_mem_cons.mpr ⟨Or.inr (kT_at kc_J6_bitCount_0f7a4 rfl), List.forall_mem_cons.mpr ⟨Or.inl rfl, List.forall_mem_cons.mpr ⟨Or.inl rfl, List.forall_mem_cons.mpr ⟨Or.inl rfl, List.forall_mem_cons.mpr ⟨Or.inl rfl, fun _ h => absurd h List.not_mem_nil⟩⟩⟩⟩⟩⟩⟩⟩⟩⟩⟩⟩⟩⟩⟩⟩⟩⟩⟩⟩⟩
theorem kcs : ∀ q ∈ kms, q.2.2.2.2 = 12 ∨ Cond.code q.1 q.2.1 q.2.2.1 q.2.2.2.1 ∈ kT := List.forall_mem_append.mpr ⟨kcs0, List.forall_mem_append.mpr ⟨kcs1, List.forall_mem_append.mpr ⟨kcs2, List.forall_mem_append.mpr ⟨kcs3, List.forall_mem_append.mpr ⟨kcs4, List.forall_mem_append.mpr ⟨kcs5, kcs6⟩⟩⟩⟩⟩⟩
