/-! one instruction: what a run from it comes to -/
def kIq (o : Option kI) (I : kI) : Bool := match o, I with
  | some (a, b, c, v, n, t), (a2, b2, c2, v2, n2, t2) => decide (a = a2) && (decide (b = b2) && (decide (c = c2) && (decide (v = v2) && (decide (n = n2) && decide (t = t2)))))
  | none, _ => false
theorem kIq_ok {o : Option kI} {I : kI} (h : kIq o I = true) : o = some I := by
  obtain ⟨a2, b2, c2, v2, n2, t2⟩ := I
  cases o with
  | none => exact absurd h (by simp [kIq])
  | some q =>
    obtain ⟨a, b, c, v, n, t⟩ := q
    simp only [kIq, Bool.and_eq_true, decide_eq_true_eq] at h
    obtain ⟨rfl, rfl, rfl, rfl, rfl, rfl⟩ := h
    rfl
theorem kF (y pc : Nat) (I : kI) (h : kIq (kfetch y pc) I = true) : kfetch y pc = some I := kIq_ok h
section KO
variable {sc : Nat × (Nat → Int32)} {d y pc n : Nat} {L L2 st : List Value} {S : kS} {u : kU} {i : Nat → Nat → Int32} {l : Nat → Nat → Int64} {r : Nat → Nat → Value} {K : Option (Option Value) → kS → Prop} {a b : Nat} {v : Int} {t : List (Int × Nat)}
theorem w_iconst {c : Int32} (hf : kfetch y pc = some (1, a, b, v, n, t)) (hc : Int32.ofInt v = c) : kWP sc d y pc L st S K = kWP sc d y n L (.int c :: st) S K := by subst hc; exact kWP_eq hf
theorem w_lconst {c : Int64} (hf : kfetch y pc = some (2, a, b, v, n, t)) (hc : Int64.ofInt v = c) : kWP sc d y pc L st S K = kWP sc d y n L (.long c :: st) S K := by subst hc; exact kWP_eq hf
theorem w_loadi {x : Int32} (hf : kfetch y pc = some (3, a, 0, v, n, t)) (h : kget L a = .int x) : kWP sc d y pc L st S K = kWP sc d y n L (.int x :: st) S K := by
  rw [kWP_eq hf]; show kwc sc (ks3 a 0 n L st S) d y K = _; unfold ks3; rw [h]; rfl
theorem w_loadl {x : Int64} (hf : kfetch y pc = some (3, a, 1, v, n, t)) (h : kget L a = .long x) : kWP sc d y pc L st S K = kWP sc d y n L (.long x :: st) S K := by
  rw [kWP_eq hf]; show kwc sc (ks3 a 1 n L st S) d y K = _; unfold ks3; rw [h]; rfl
theorem w_loada {x : Nat} (hf : kfetch y pc = some (3, a, 2, v, n, t)) (h : kget L a = .ref x) : kWP sc d y pc L st S K = kWP sc d y n L (.ref x :: st) S K := by
  rw [kWP_eq hf]; show kwc sc (ks3 a 2 n L st S) d y K = _; unfold ks3; rw [h]; rfl
theorem w_storei {x : Int32} (hf : kfetch y pc = some (4, a, 0, v, n, t)) (hl : a < L.length) (h : kset (kclr L a) a (.int x) = L2) : kWP sc d y pc L (.int x :: st) S K = kWP sc d y n L2 st S K := by
  rw [kWP_eq hf]; show kwc sc (if a < L.length then kgo n (kset (kclr L a) a (.int x)) st S else none) d y K = _; rw [if_pos hl, h]; rfl
theorem w_storel {x : Int64} (hf : kfetch y pc = some (4, a, 1, v, n, t)) (hl : a + 1 < L.length) (h : kset (kset (kclr L a) a (.long x)) (a + 1) (.retAddr 0) = L2) : kWP sc d y pc L (.long x :: st) S K = kWP sc d y n L2 st S K := by
  rw [kWP_eq hf]; show kwc sc (if a + 1 < L.length then kgo n (kset (kset (kclr L a) a (.long x)) (a + 1) (.retAddr 0)) st S else none) d y K = _; rw [if_pos hl, h]; rfl
theorem w_storea {x : Nat} (hf : kfetch y pc = some (4, a, 2, v, n, t)) (hl : a < L.length) (h : kset (kclr L a) a (.ref x) = L2) : kWP sc d y pc L (.ref x :: st) S K = kWP sc d y n L2 st S K := by
  rw [kWP_eq hf]; show kwc sc (if a < L.length then kgo n (kset (kclr L a) a (.ref x)) st S else none) d y K = _; rw [if_pos hl, h]; rfl
theorem w_iinc {x c : Int32} (hf : kfetch y pc = some (5, a, b, v, n, t)) (hl : a < L.length) (hg : kget L a = .int x) (hc : Int32.ofInt v = c) (h : kset L a (.int (x + c)) = L2) : kWP sc d y pc L st S K = kWP sc d y n L2 st S K := by
  subst hc; rw [kWP_eq hf]; show kwc sc (ks5 a v n L st S) d y K = _; rw [ks5, hg]; show kwc sc (if a < L.length then kgo n (kset L a (.int (x + Int32.ofInt v))) st S else none) d y K = _; rw [if_pos hl, h]; rfl
theorem w_iadd {x z : Int32} (hf : kfetch y pc = some (6, a, 0, v, n, t)) : kWP sc d y pc L (.int z :: .int x :: st) S K = kWP sc d y n L (.int (x + z) :: st) S K := kWP_eq hf
theorem w_isub {x z : Int32} (hf : kfetch y pc = some (6, a, 1, v, n, t)) : kWP sc d y pc L (.int z :: .int x :: st) S K = kWP sc d y n L (.int (x - z) :: st) S K := kWP_eq hf
theorem w_imul {x z : Int32} (hf : kfetch y pc = some (6, a, 2, v, n, t)) : kWP sc d y pc L (.int z :: .int x :: st) S K = kWP sc d y n L (.int (x * z) :: st) S K := kWP_eq hf
theorem w_idiv {x z : Int32} (hf : kfetch y pc = some (6, a, 3, v, n, t)) : kWP sc d y pc L (.int z :: .int x :: st) S K = (¬ z = 0 ∧ kWP sc d y n L (.int (x / z) :: st) S K) := (kWP_eq hf).trans kwc_nif
theorem w_irem {x z : Int32} (hf : kfetch y pc = some (6, a, 4, v, n, t)) : kWP sc d y pc L (.int z :: .int x :: st) S K = (¬ z = 0 ∧ kWP sc d y n L (.int (x - x / z * z) :: st) S K) := (kWP_eq hf).trans kwc_nif
theorem w_iand {x z : Int32} (hf : kfetch y pc = some (6, a, 5, v, n, t)) : kWP sc d y pc L (.int z :: .int x :: st) S K = kWP sc d y n L (.int (x &&& z) :: st) S K := kWP_eq hf
theorem w_ior {x z : Int32} (hf : kfetch y pc = some (6, a, 6, v, n, t)) : kWP sc d y pc L (.int z :: .int x :: st) S K = kWP sc d y n L (.int (x ||| z) :: st) S K := kWP_eq hf
theorem w_ixor {x z : Int32} (hf : kfetch y pc = some (6, a, 7, v, n, t)) : kWP sc d y pc L (.int z :: .int x :: st) S K = kWP sc d y n L (.int (x ^^^ z) :: st) S K := kWP_eq hf
theorem w_ishl {x z : Int32} (hf : kfetch y pc = some (6, a, 8, v, n, t)) : kWP sc d y pc L (.int z :: .int x :: st) S K = kWP sc d y n L (.int (x <<< (z &&& 31)) :: st) S K := kWP_eq hf
theorem w_ishr {x z : Int32} (hf : kfetch y pc = some (6, a, 9, v, n, t)) : kWP sc d y pc L (.int z :: .int x :: st) S K = kWP sc d y n L (.int (x >>> (z &&& 31)) :: st) S K := kWP_eq hf
theorem w_iushr {x z : Int32} (hf : kfetch y pc = some (6, a, 10, v, n, t)) : kWP sc d y pc L (.int z :: .int x :: st) S K = kWP sc d y n L (.int (x.toUInt32 >>> (z.toUInt32 &&& Int32.toUInt32 31)).toInt32 :: st) S K := kWP_eq hf
theorem w_ladd {x z : Int64} (hf : kfetch y pc = some (7, a, 0, v, n, t)) : kWP sc d y pc L (.long z :: .long x :: st) S K = kWP sc d y n L (.long (x + z) :: st) S K := kWP_eq hf
theorem w_lsub {x z : Int64} (hf : kfetch y pc = some (7, a, 1, v, n, t)) : kWP sc d y pc L (.long z :: .long x :: st) S K = kWP sc d y n L (.long (x - z) :: st) S K := kWP_eq hf
theorem w_lmul {x z : Int64} (hf : kfetch y pc = some (7, a, 2, v, n, t)) : kWP sc d y pc L (.long z :: .long x :: st) S K = kWP sc d y n L (.long (x * z) :: st) S K := kWP_eq hf
theorem w_ldiv {x z : Int64} (hf : kfetch y pc = some (7, a, 3, v, n, t)) : kWP sc d y pc L (.long z :: .long x :: st) S K = (¬ z = 0 ∧ kWP sc d y n L (.long (x / z) :: st) S K) := (kWP_eq hf).trans kwc_nif
theorem w_lrem {x z : Int64} (hf : kfetch y pc = some (7, a, 4, v, n, t)) : kWP sc d y pc L (.long z :: .long x :: st) S K = (¬ z = 0 ∧ kWP sc d y n L (.long (x - x / z * z) :: st) S K) := (kWP_eq hf).trans kwc_nif
theorem w_ineg {x : Int32} (hf : kfetch y pc = some (8, a, 0, v, n, t)) : kWP sc d y pc L (.int x :: st) S K = kWP sc d y n L (.int (-x) :: st) S K := kWP_eq hf
theorem w_i2l {x : Int32} (hf : kfetch y pc = some (8, a, 1, v, n, t)) : kWP sc d y pc L (.int x :: st) S K = kWP sc d y n L (.long x.toInt64 :: st) S K := kWP_eq hf
theorem w_i2b {x : Int32} (hf : kfetch y pc = some (8, a, 3, v, n, t)) : kWP sc d y pc L (.int x :: st) S K = kWP sc d y n L (.int x.toInt8.toInt32 :: st) S K := kWP_eq hf
theorem w_i2s {x : Int32} (hf : kfetch y pc = some (8, a, 4, v, n, t)) : kWP sc d y pc L (.int x :: st) S K = kWP sc d y n L (.int x.toInt16.toInt32 :: st) S K := kWP_eq hf
theorem w_i2c {x : Int32} (hf : kfetch y pc = some (8, a, 5, v, n, t)) : kWP sc d y pc L (.int x :: st) S K = kWP sc d y n L (.int (x.toUInt32 % 65536).toInt32 :: st) S K := kWP_eq hf
theorem w_lcmp {x z : Int64} (hf : kfetch y pc = some (9, a, b, v, n, t)) : kWP sc d y pc L (.long z :: .long x :: st) S K = kWP sc d y n L (.int (lg_cmp x z) :: st) S K := kWP_eq hf
theorem w_dupi {x : Int32} (hf : kfetch y pc = some (10, a, 0, v, n, t)) : kWP sc d y pc L (.int x :: st) S K = kWP sc d y n L (.int x :: .int x :: st) S K := kWP_eq hf
theorem w_dupa {x : Nat} (hf : kfetch y pc = some (10, a, 0, v, n, t)) : kWP sc d y pc L (.ref x :: st) S K = kWP sc d y n L (.ref x :: .ref x :: st) S K := kWP_eq hf
theorem w_popi {x : Int32} (hf : kfetch y pc = some (10, a, 1, v, n, t)) : kWP sc d y pc L (.int x :: st) S K = kWP sc d y n L st S K := kWP_eq hf
theorem w_dup2 {x : Int32} {q : Nat} (hf : kfetch y pc = some (10, a, 2, v, n, t)) : kWP sc d y pc L (.int x :: .ref q :: st) S K = kWP sc d y n L (.int x :: .ref q :: .int x :: .ref q :: st) S K := kWP_eq hf
theorem w_icmp {x z : Int32} (hf : kfetch y pc = some (11, a, b, v, n, t)) : kWP sc d y pc L (.int z :: .int x :: st) S K = kWP sc d y (kbr b x z a n) L st S K := kWP_eq hf
theorem w_ieq {x z : Int32} (hf : kfetch y pc = some (11, a, 0, v, n, t)) : kWP sc d y pc L (.int z :: .int x :: st) S K = if x = z then kWP sc d y a L st S K else kWP sc d y n L st S K := (w_icmp hf).trans kWP_if
theorem w_ine {x z : Int32} (hf : kfetch y pc = some (11, a, 1, v, n, t)) : kWP sc d y pc L (.int z :: .int x :: st) S K = if x = z then kWP sc d y n L st S K else kWP sc d y a L st S K := (w_icmp hf).trans kWP_if
theorem w_ilt {x z : Int32} (hf : kfetch y pc = some (11, a, 2, v, n, t)) : kWP sc d y pc L (.int z :: .int x :: st) S K = if x < z then kWP sc d y a L st S K else kWP sc d y n L st S K := (w_icmp hf).trans kWP_if
theorem w_ige {x z : Int32} (hf : kfetch y pc = some (11, a, 3, v, n, t)) : kWP sc d y pc L (.int z :: .int x :: st) S K = if z ≤ x then kWP sc d y a L st S K else kWP sc d y n L st S K := (w_icmp hf).trans kWP_if
theorem w_igt {x z : Int32} (hf : kfetch y pc = some (11, a, 4, v, n, t)) : kWP sc d y pc L (.int z :: .int x :: st) S K = if z < x then kWP sc d y a L st S K else kWP sc d y n L st S K := (w_icmp hf).trans kWP_if
theorem w_ile {x z : Int32} (hf : kfetch y pc = some (11, a, 5, v, n, t)) : kWP sc d y pc L (.int z :: .int x :: st) S K = if x ≤ z then kWP sc d y a L st S K else kWP sc d y n L st S K := (w_icmp hf).trans kWP_if
theorem w_zcmp {x : Int32} (hf : kfetch y pc = some (12, a, b, v, n, t)) : kWP sc d y pc L (.int x :: st) S K = kWP sc d y (kbr b x 0 a n) L st S K := kWP_eq hf
theorem w_zeq {x : Int32} (hf : kfetch y pc = some (12, a, 0, v, n, t)) : kWP sc d y pc L (.int x :: st) S K = if x = 0 then kWP sc d y a L st S K else kWP sc d y n L st S K := (w_zcmp hf).trans kWP_if
theorem w_zne {x : Int32} (hf : kfetch y pc = some (12, a, 1, v, n, t)) : kWP sc d y pc L (.int x :: st) S K = if x = 0 then kWP sc d y n L st S K else kWP sc d y a L st S K := (w_zcmp hf).trans kWP_if
theorem w_zlt {x : Int32} (hf : kfetch y pc = some (12, a, 2, v, n, t)) : kWP sc d y pc L (.int x :: st) S K = if x < 0 then kWP sc d y a L st S K else kWP sc d y n L st S K := (w_zcmp hf).trans kWP_if
theorem w_zge {x : Int32} (hf : kfetch y pc = some (12, a, 3, v, n, t)) : kWP sc d y pc L (.int x :: st) S K = if 0 ≤ x then kWP sc d y a L st S K else kWP sc d y n L st S K := (w_zcmp hf).trans kWP_if
theorem w_zgt {x : Int32} (hf : kfetch y pc = some (12, a, 4, v, n, t)) : kWP sc d y pc L (.int x :: st) S K = if 0 < x then kWP sc d y a L st S K else kWP sc d y n L st S K := (w_zcmp hf).trans kWP_if
theorem w_zle {x : Int32} (hf : kfetch y pc = some (12, a, 5, v, n, t)) : kWP sc d y pc L (.int x :: st) S K = if x ≤ 0 then kWP sc d y a L st S K else kWP sc d y n L st S K := (w_zcmp hf).trans kWP_if
theorem w_goto (hf : kfetch y pc = some (13, a, b, v, n, t)) : kWP sc d y pc L st S K = kWP sc d y a L st S K := kWP_eq hf
theorem w_switch {x : Int32} (hf : kfetch y pc = some (14, a, b, v, n, t)) : kWP sc d y pc L (.int x :: st) S K = kWP sc d y (ksw x a t) L st S K := kWP_eq hf
theorem w_getr {q : Nat} (hf : kfetch y pc = some (15, a, b, 2, n, t)) : kWP sc d y pc L (.ref q :: st) (u, i, l, r) K = (kob u q a ∧ kWP sc d y n L (r q b :: st) (u, i, l, r) K) := (kWP_eq hf).trans kwc_if
theorem w_geti {q : Nat} (hf : kfetch y pc = some (15, a, b, 0, n, t)) : kWP sc d y pc L (.ref q :: st) (u, i, l, r) K = (kob u q a ∧ kWP sc d y n L (.int (i q b) :: st) (u, i, l, r) K) := (kWP_eq hf).trans kwc_if
theorem w_getz {q : Nat} (hf : kfetch y pc = some (15, a, b, 3, n, t)) : kWP sc d y pc L (.ref q :: st) (u, i, l, r) K = (kob u q a ∧ kWP sc d y n L (.int (i q b) :: st) (u, i, l, r) K) := (kWP_eq hf).trans kwc_if
theorem w_puti {q : Nat} {x : Int32} (hf : kfetch y pc = some (16, a, b, 0, n, t)) : kWP sc d y pc L (.int x :: .ref q :: st) (u, i, l, r) K = (kob u q a ∧ kWP sc d y n L st (u, kupi i q b x, l, r) K) := (kWP_eq hf).trans kwc_if
theorem w_putz {q : Nat} {x : Int32} (hf : kfetch y pc = some (16, a, b, 3, n, t)) : kWP sc d y pc L (.int x :: .ref q :: st) (u, i, l, r) K = ((kob u q a ∧ (x = 0 ∨ x = 1)) ∧ kWP sc d y n L st (u, kupi i q b x, l, r) K) := (kWP_eq hf).trans kwc_if
theorem w_putr {q : Nat} {x : Nat} (hf : kfetch y pc = some (16, a, b, 2, n, t)) : kWP sc d y pc L (.ref x :: .ref q :: st) (u, i, l, r) K = (kob u q a ∧ kWP sc d y n L st (u, i, l, kupr r q b (.ref x)) K) := (kWP_eq hf).trans kwc_if
theorem w_iald {q : Nat} {j : Int32} (hf : kfetch y pc = some (17, a, 0, v, n, t)) : kWP sc d y pc L (.int j :: .ref q :: st) (u, i, l, r) K = (kar u q 0 j ∧ kWP sc d y n L (.int (i q j.toNatClampNeg) :: st) (u, i, l, r) K) := (kWP_eq hf).trans kwc_if
theorem w_cald {q : Nat} {j : Int32} (hf : kfetch y pc = some (17, a, 1, v, n, t)) : kWP sc d y pc L (.int j :: .ref q :: st) (u, i, l, r) K = (kar u q 1 j ∧ kWP sc d y n L (.int (i q j.toNatClampNeg) :: st) (u, i, l, r) K) := (kWP_eq hf).trans kwc_if
theorem w_zald {q : Nat} {j : Int32} (hf : kfetch y pc = some (17, a, 2, v, n, t)) : kWP sc d y pc L (.int j :: .ref q :: st) (u, i, l, r) K = (kar u q 2 j ∧ kWP sc d y n L (.int (i q j.toNatClampNeg) :: st) (u, i, l, r) K) := (kWP_eq hf).trans kwc_if
theorem w_lald {q : Nat} {j : Int32} (hf : kfetch y pc = some (17, a, 3, v, n, t)) : kWP sc d y pc L (.int j :: .ref q :: st) (u, i, l, r) K = (kar u q 3 j ∧ kWP sc d y n L (.long (l q j.toNatClampNeg) :: st) (u, i, l, r) K) := (kWP_eq hf).trans kwc_if
theorem w_aald {q : Nat} {j : Int32} (hf : kfetch y pc = some (17, a, 4, v, n, t)) : kWP sc d y pc L (.int j :: .ref q :: st) (u, i, l, r) K = (kar u q 4 j ∧ kWP sc d y n L (r q j.toNatClampNeg :: st) (u, i, l, r) K) := (kWP_eq hf).trans kwc_if
theorem w_iast {q : Nat} {j x : Int32} (hf : kfetch y pc = some (18, a, 0, v, n, t)) : kWP sc d y pc L (.int x :: .int j :: .ref q :: st) (u, i, l, r) K = (kar u q 0 j ∧ kWP sc d y n L st (u, kupi i q j.toNatClampNeg x, l, r) K) := (kWP_eq hf).trans kwc_if
theorem w_cast {q : Nat} {j x : Int32} (hf : kfetch y pc = some (18, a, 1, v, n, t)) : kWP sc d y pc L (.int x :: .int j :: .ref q :: st) (u, i, l, r) K = (kar u q 1 j ∧ kWP sc d y n L st (u, kupi i q j.toNatClampNeg (kchar x), l, r) K) := (kWP_eq hf).trans kwc_if
theorem w_zast {q : Nat} {j x : Int32} (hf : kfetch y pc = some (18, a, 2, v, n, t)) : kWP sc d y pc L (.int x :: .int j :: .ref q :: st) (u, i, l, r) K = (kar u q 2 j ∧ kWP sc d y n L st (u, kupi i q j.toNatClampNeg (kbool x), l, r) K) := (kWP_eq hf).trans kwc_if
theorem w_last {q : Nat} {j : Int32} {x : Int64} (hf : kfetch y pc = some (18, a, 3, v, n, t)) : kWP sc d y pc L (.long x :: .int j :: .ref q :: st) (u, i, l, r) K = (kar u q 3 j ∧ kWP sc d y n L st (u, i, kupl l q j.toNatClampNeg x, r) K) := (kWP_eq hf).trans kwc_if
theorem w_aast {q x : Nat} {j : Int32} (hf : kfetch y pc = some (18, a, 4, v, n, t)) : kWP sc d y pc L (.ref x :: .int j :: .ref q :: st) (u, i, l, r) K = ((kar u q 4 j ∧ kob u x 1) ∧ kWP sc d y n L st (u, i, l, kupr r q j.toNatClampNeg (.ref x)) K) := (kWP_eq hf).trans kwc_if
theorem w_alen {q m k : Nat} (hs : kSH q = .inr (k, m)) (hf : kfetch y pc = some (19, a, b, v, n, t)) : kWP sc d y pc L (.ref q :: st) (u, i, l, r) K = (q < u.1 ∧ kWP sc d y n L (.int (Int32.ofNat m) :: st) (u, i, l, r) K) := by
  rw [kWP_eq hf]
  show kwc sc (if q < u.1 then (match kSH q with | .inr (_, m) => kgo n L (.int (Int32.ofNat m) :: st) (u, i, l, r) | .inl _ => none) else none) d y K = _
  rw [kwc_if, hs]; rfl
theorem w_ret0 (hf : kfetch y pc = some (24, a, 0, v, n, t)) : kWP sc d y pc L [] S K = K (some none) S := kWP_eq hf
theorem w_ret1 {x : Int32} (hf : kfetch y pc = some (24, a, 1, v, n, t)) : kWP sc d y pc L [.int x] S K = K (some (some (.int x))) S := kWP_eq hf
theorem w_ret2 {x : Int32} (hf : kfetch y pc = some (24, a, 2, v, n, t)) : kWP sc d y pc L [.int x] S K = (kbool x = x ∧ K (some (some (.int x))) S) := (kWP_eq hf).trans kwc_if
theorem w_ret3 {x : Int64} (hf : kfetch y pc = some (24, a, 3, v, n, t)) : kWP sc d y pc L [.long x] S K = K (some (some (.long x))) S := kWP_eq hf
theorem w_str (hf : kfetch y pc = some (25, a, b, v, n, t)) : kWP sc d y pc L st S K = kWP sc d y n L (.ref (kStA + a) :: st) S K := kWP_eq hf
theorem w_throw (hf : kfetch y pc = some (26, a, b, v, n, t)) (hs : 2 * st.length ≤ 8) : kWP sc d y pc L st (u, i, l, r) K = K none ((u.1, u.2.1 + 1, u.2.2 + 6), i, l, r) := by
  rw [kWP_eq hf]; show kwc sc (if 2 * st.length ≤ 8 then _ else none) d y K = _; rw [if_pos hs]; rfl
theorem w_slen {q m : Nat} (hf : kfetch y pc = some (27, a, 10, v, n, t)) (hq : kStA ≤ q ∧ q < kStA + kStr.length) (hm : kstl q = m) (hs : 2 * st.length ≤ 8) : kWP sc d y pc L (.ref q :: st) S K = kWP sc d y n L (.int (Int32.ofNat m) :: st) S K := by
  subst hm; rw [kWP_eq hf]; show kwc sc (if kStA ≤ q ∧ q < kStA + kStr.length ∧ 2 * st.length ≤ 8 then _ else none) d y K = _; rw [if_pos ⟨hq.1, hq.2, hs⟩]; rfl
theorem w_schr {q : Nat} {j : Int32} (hf : kfetch y pc = some (27, a, 11, v, n, t)) (hs : 2 * st.length ≤ 8) : kWP sc d y pc L (.int j :: .ref q :: st) S K = (kin j (kstl q) ∧ kWP sc d y n L (.int (kchr q j.toNatClampNeg) :: st) S K) := by
  rw [kWP_eq hf]; show kwc sc (if kin j (kstl q) ∧ 2 * st.length ≤ 8 then kgo n L (.int (kchr q j.toNatClampNeg) :: st) S else none) d y K = _
  by_cases h : kin j (kstl q)
  · rw [if_pos ⟨h, hs⟩]; exact propext ⟨fun z => ⟨h, z⟩, fun z => z.2⟩
  · rw [if_neg (fun z => h z.1)]; exact propext ⟨fun z => z.elim, fun z => h z.1⟩
theorem w_copy {s0 d0 : Nat} {x dp sp : Int32} (hf : kfetch y pc = some (27, a, 12, v, n, t)) (hc : s0 < u.1 ∧ d0 < u.1 ∧ s0 ≠ d0 ∧ ¬ x < 0 ∧ ¬ dp < 0 ∧ ¬ sp < 0 ∧ sp.toNatClampNeg + x.toNatClampNeg ≤ klen s0 0 ∧ dp.toNatClampNeg + x.toNatClampNeg ≤ klen d0 0 ∧ (0 < klen s0 0 ∧ 0 < klen d0 0) ∧ 2 * st.length ≤ 8) :
    kWP sc d y pc L (.int x :: .int dp :: .ref d0 :: .int sp :: .ref s0 :: st) (u, i, l, r) K = kWP sc d y n L st (u, kcop i s0 sp.toNatClampNeg d0 dp.toNatClampNeg x.toNatClampNeg, l, r) K := by
  rw [kWP_eq hf]; show kwc sc (if _ then _ else none) d y K = _; rw [if_pos hc]; rfl
theorem w_obj {q : Nat} (hf : kfetch y pc = some (27, a, 13, v, n, t)) (hs : 2 * st.length ≤ 8) : kWP sc d y pc L (.ref q :: st) S K = kWP sc d y n L st S K := by
  rw [kWP_eq hf]; show kwc sc (if 2 * st.length ≤ 8 then kgo n L st S else none) d y K = _; rw [if_pos hs]; rfl
theorem w_mmax {x z : Int32} (hf : kfetch y pc = some (27, a, 14, v, n, t)) (hs : 2 * st.length ≤ 8) : kWP sc d y pc L (.int z :: .int x :: st) S K = kWP sc d y n L (.int (if x < z then z else x) :: st) S K := by
  rw [kWP_eq hf]; show kwc sc (if 2 * st.length ≤ 8 then _ else none) d y K = _; rw [if_pos hs]; rfl
theorem w_mmin {x z : Int32} (hf : kfetch y pc = some (27, a, 15, v, n, t)) (hs : 2 * st.length ≤ 8) : kWP sc d y pc L (.int z :: .int x :: st) S K = kWP sc d y n L (.int (if z < x then z else x) :: st) S K := by
  rw [kWP_eq hf]; show kwc sc (if 2 * st.length ≤ 8 then _ else none) d y K = _; rw [if_pos hs]; rfl
theorem w_sclen (hf : kfetch y pc = some (30, a, b, v, n, t)) : kWP sc d y pc L (.ref kScA :: st) S K = kWP sc d y n L (.int (Int32.ofNat sc.1) :: st) S K := by
  rw [kWP_eq hf]; show kwc sc (if kScA = kScA then _ else none) d y K = _; rw [if_pos rfl]; rfl
theorem w_sclod {j : Int32} (hf : kfetch y pc = some (31, a, b, v, n, t)) : kWP sc d y pc L (.int j :: .ref kScA :: st) S K = (kin j sc.1 ∧ kWP sc d y n L (.int (sc.2 j.toNatClampNeg) :: st) S K) := by
  rw [kWP_eq hf]; show kwc sc (if kScA = kScA ∧ kin j sc.1 then kgo n L (.int (sc.2 j.toNatClampNeg) :: st) S else none) d y K = _
  by_cases h : kin j sc.1
  · rw [if_pos ⟨rfl, h⟩]; exact propext ⟨fun z => ⟨h, z⟩, fun z => z.2⟩
  · rw [if_neg (fun z => h z.2)]; exact propext ⟨fun z => z.elim, fun z => h z.1⟩
/-- a call: static, or on an object -/
theorem w_calls {z : Nat} {as : List Value} {st2 : List Value} (hf : kfetch y pc = some (23, z, 1, v, n, t)) (hp : kpop v.toNat [] st2 = some (as, st)) (hs : 2 * st.length ≤ 8) (hm : kaok z as = true) : kWP sc d y pc L st2 S K = kCA sc d z as y n t L st S K := by
  rw [kWP_eq hf]; show kwc sc (ks23 z 1 v n t L st2 S) d y K = _
  rw [ks23, if_pos rfl, hp]; show kwc sc (if 2 * st.length ≤ 8 ∧ kaok z as = true then _ else none) d y K = _; rw [if_pos ⟨hs, hm⟩]; rfl
theorem w_callv {z q : Nat} {as : List Value} {st2 : List Value} {ci : Nat} (hf : kfetch y pc = some (23, z, 0, v, n, t)) (hp : kpop (v.toNat + 1) [] st2 = some (.ref q :: as, st)) (hs : 2 * st.length ≤ 8) (hm : kaok z (.ref q :: as) = true) (ho : kow z = ci) : kWP sc d y pc L st2 (u, i, l, r) K = (kob u q ci ∧ kCA sc d z (.ref q :: as) y n t L st (u, i, l, r) K) := by
  subst ho
  rw [kWP_eq hf]; show kwc sc (ks23 z 0 v n t L st2 (u, i, l, r)) d y K = _
  rw [ks23, if_neg (by decide), hp]; show kwc sc (if 2 * st.length ≤ 8 ∧ kaok z (.ref q :: as) = true then (if kob u q (kow z) then _ else none) else none) d y K = _; rw [if_pos ⟨hs, hm⟩]; exact kwc_if
theorem w_calli {z q : Nat} {as : List Value} {st2 : List Value} {ci : Nat} (hf : kfetch y pc = some (23, z, 2, v, n, t)) (hp : kpop (v.toNat + 1) [] st2 = some (.ref q :: as, st)) (hs : 2 * st.length ≤ 8) (hm : kaok z (.ref q :: as) = true) (ho : kow z = ci) : kWP sc d y pc L st2 (u, i, l, r) K = (kob u q ci ∧ kCA sc d z (.ref q :: as) y n t L st (u, i, l, r) K) := by
  subst ho
  rw [kWP_eq hf]; show kwc sc (ks23 z 2 v n t L st2 (u, i, l, r)) d y K = _
  rw [ks23, if_neg (by decide), hp]; show kwc sc (if 2 * st.length ≤ 8 ∧ kaok z (.ref q :: as) = true then (if kob u q (kow z) then _ else none) else none) d y K = _; rw [if_pos ⟨hs, hm⟩]; exact kwc_if
theorem w_newa {x : Int32} {m : Nat} (hf : kfetch y pc = some (20, a, b, v, n, t)) (hm : x.toNatClampNeg = m) (h : u.2.1 = u.1 ∧ ¬ x < 0 ∧ m ≤ 65536 ∧ kSH u.1 = .inr (b, m)) : kWP sc d y pc L (.int x :: st) (u, i, l, r) K = kWP sc d y n L (.ref u.1 :: st) (kfresh (u, i, l, r) m) K := by
  subst hm; rw [kWP_eq hf]; show kwc sc (if _ then _ else none) d y K = _; rw [if_pos h]; rfl
theorem w_newr {x : Int32} {m : Nat} (hf : kfetch y pc = some (21, a, b, v, n, t)) (hm : x.toNatClampNeg = m) (h : u.2.1 = u.1 ∧ ¬ x < 0 ∧ m ≤ 65536 ∧ kSH u.1 = .inr (4, m)) : kWP sc d y pc L (.int x :: st) (u, i, l, r) K = kWP sc d y n L (.ref u.1 :: st) (kfresh (u, i, l, r) m) K := by
  subst hm; rw [kWP_eq hf]; show kwc sc (if _ then _ else none) d y K = _; rw [if_pos h]; rfl
theorem w_new {w : Nat} (hf : kfetch y pc = some (22, a, b, v, n, t)) (hw : kNF[a]? = some w) (h : u.2.1 = u.1 ∧ kSH u.1 = .inl a) : kWP sc d y pc L st (u, i, l, r) K = kWP sc d y n L (.ref u.1 :: st) (kfresh (u, i, l, r) w) K := by
  rw [kWP_eq hf]; show kwc sc (ks22 a n L st (u, i, l, r)) d y K = _; rw [ks22, hw]; show kwc sc (if _ then _ else none) d y K = _; rw [if_pos h]; rfl
end KO
