/-! THE ABSTRACT MACHINE: the same bytecode over numbered cells. A cell is its number: a shape (kSH), int cells i, long cells l, references r. -/
abbrev kI : Type := Nat × Nat × Nat × Int × Nat × List (Int × Nat)
abbrev kU : Type := Nat × Nat × Nat
abbrev kS : Type := kU × (Nat → Nat → Int32) × (Nat → Nat → Int64) × (Nat → Nat → Value)
abbrev kin (j : Int32) (n : Nat) : Prop := ¬ (j < 0 ∨ n ≤ j.toNatClampNeg)
def kcn (c : Jvm.ClassFile.Cond) : Nat := match c with | .eq => 0 | .ne => 1 | .lt => 2 | .ge => 3 | .gt => 4 | .le => 5
def kat (t : ArrayType) : Option Nat := match t with | .int => some 0 | .char => some 1 | .boolean => some 2 | .long => some 3 | _ => none
/-- how long an instruction is (0: any) -/
def kil (ins : Instr) : Nat := match ins with
  | .bipush _ => 2
  | .ldc _ => 2
  | .newarray _ => 2
  | .iload _ => 2
  | .lload _ => 2
  | .aload _ => 2
  | .istore _ => 2
  | .lstore _ => 2
  | .astore _ => 2
  | .sipush _ => 3
  | .ldc_w _ => 3
  | .ldc2_w _ => 3
  | .iinc _ _ => 3
  | .if_icmp _ _ => 3
  | .ifCond _ _ => 3
  | .goto _ => 3
  | .getfield _ => 3
  | .putfield _ => 3
  | .anewarray _ => 3
  | .new _ => 3
  | .invokevirtual _ => 3
  | .invokestatic _ => 3
  | .invokespecial _ => 3
  | .tableswitch _ _ _ _ => 0
  | .lookupswitch _ _ => 0
  | _ => 1
def kjo (pc : Nat) (off : Int) : Bool := decide ((0 : Int) ≤ (pc : Int) + off)
def k32 (k : Int) : Bool := decide (-2147483648 ≤ k) && decide (k < 2147483648)
def kjm (pc : Nat) (off : Int) : Nat := ((pc : Int) + off).toNat
def ktb (pc : Nat) : List Int → Int → List (Int × Nat)
  | [], _ => []
  | o :: r, k => (k, kjm pc o) :: ktb pc r (k + 1)
def khd (y pc : Nat) : List (Int × Nat) := match kHL.find? (fun q => q.1 == y && q.2.1 == pc) with
  | some q => [((q.2.2.1 : Int), q.2.2.2)]
  | none => []
def kthr (own : Nat) (cc : ByteArray) (pc : Nat) : Bool := match decode cc (pc + 3) with
  | .ok (.dup, 1) => (match decode cc (pc + 4) with
    | .ok (.ldc is, 2) => (match decode cc (pc + 6), decode cc (pc + 9) with
      | .ok (.invokespecial ic, 3), .ok (.athrow, 1) => ic == 130 && (match klk krK own is with | some (2, _) => true | _ => false)
      | _, _ => false)
    | .ok (.ldc_w is, 3) => (match decode cc (pc + 7), decode cc (pc + 10) with
      | .ok (.invokespecial ic, 3), .ok (.athrow, 1) => ic == 130 && (match klk krK own is with | some (2, _) => true | _ => false)
      | _, _ => false)
    | _ => false)
  | _ => false
def kkon (own ix nx : Nat) (kinds : List Nat) : Option kI := match klk krK own ix with
  | some (0, v) => if kinds.contains 0 then some (1, 0, 0, v, nx, []) else none
  | some (1, v) => if kinds.contains 1 then some (2, 0, 0, v, nx, []) else none
  | some (2, v) => if kinds.contains 2 then some (25, v.toNat, 0, 0, nx, []) else none
  | _ => none
def kinv (own y pc ix kind nx : Nat) : Option kI := match klk krM own ix with
  | some (z, n, _) => if n = 100 then (if (z = 10 ∨ z = 11) ∧ kind = 0 ∨ (z = 12 ∨ z = 14 ∨ z = 15) ∧ kind = 1 ∨ z = 13 ∧ kind = 2 then some (27, 0, z, 0, nx, []) else none) else if kkd[z]? = some kind then some (23, z, kind, (n : Int), nx, khd y pc) else none
  | none => none
/-- a real instruction, its entries looked up, as an abstract one -/
def ktr (own y : Nat) (init : Bool) (ret : Option FieldType) (cc : ByteArray) (ins : Instr) (len pc : Nat) : Option kI := match ins with
  | .iconst n => some (1, 0, 0, n, pc + len, [])
  | .bipush n => some (1, 0, 0, (Int8.ofInt n).toInt, pc + len, [])
  | .sipush n => some (1, 0, 0, (Int16.ofInt n).toInt, pc + len, [])
  | .lconst n => some (2, 0, 0, ((n : Nat) : Int), pc + len, [])
  | .ldc ix => kkon own ix (pc + len) [0, 2]
  | .ldc_w ix => kkon own ix (pc + len) [0, 2]
  | .ldc2_w ix => kkon own ix (pc + len) [1]
  | .iload_n k => some (3, k, 0, 0, pc + len, [])
  | .iload k => some (3, k, 0, 0, pc + len, [])
  | .lload_n k => some (3, k, 1, 0, pc + len, [])
  | .lload k => some (3, k, 1, 0, pc + len, [])
  | .aload_n k => some (3, k, 2, 0, pc + len, [])
  | .aload k => some (3, k, 2, 0, pc + len, [])
  | .istore_n k => some (4, k, 0, 0, pc + len, [])
  | .istore k => some (4, k, 0, 0, pc + len, [])
  | .lstore_n k => some (4, k, 1, 0, pc + len, [])
  | .lstore k => some (4, k, 1, 0, pc + len, [])
  | .astore_n k => some (4, k, 2, 0, pc + len, [])
  | .astore k => some (4, k, 2, 0, pc + len, [])
  | .iinc k n => some (5, k, 0, n, pc + len, [])
  | .iadd => some (6, 0, 0, 0, pc + len, [])
  | .isub => some (6, 0, 1, 0, pc + len, [])
  | .imul => some (6, 0, 2, 0, pc + len, [])
  | .idiv => some (6, 0, 3, 0, pc + len, [])
  | .irem => some (6, 0, 4, 0, pc + len, [])
  | .iand => some (6, 0, 5, 0, pc + len, [])
  | .ior => some (6, 0, 6, 0, pc + len, [])
  | .ixor => some (6, 0, 7, 0, pc + len, [])
  | .ishl => some (6, 0, 8, 0, pc + len, [])
  | .ishr => some (6, 0, 9, 0, pc + len, [])
  | .iushr => some (6, 0, 10, 0, pc + len, [])
  | .ladd => some (7, 0, 0, 0, pc + len, [])
  | .lsub => some (7, 0, 1, 0, pc + len, [])
  | .lmul => some (7, 0, 2, 0, pc + len, [])
  | .ldiv => some (7, 0, 3, 0, pc + len, [])
  | .lrem => some (7, 0, 4, 0, pc + len, [])
  | .ineg => some (8, 0, 0, 0, pc + len, [])
  | .i2l => some (8, 0, 1, 0, pc + len, [])
  | .i2b => some (8, 0, 3, 0, pc + len, [])
  | .i2s => some (8, 0, 4, 0, pc + len, [])
  | .i2c => some (8, 0, 5, 0, pc + len, [])
  | .lcmp => some (9, 0, 0, 0, pc + len, [])
  | .dup => some (10, 0, 0, 0, pc + len, [])
  | .pop => some (10, 0, 1, 0, pc + len, [])
  | .dup2 => some (10, 0, 2, 0, pc + len, [])
  | .if_icmp c off => if kjo pc off then some (11, kjm pc off, kcn c, 0, pc + len, []) else none
  | .ifCond c off => if kjo pc off then some (12, kjm pc off, kcn c, 0, pc + len, []) else none
  | .goto off => if kjo pc off then some (13, kjm pc off, 0, 0, pc + len, []) else none
  | .tableswitch d lo hi offs => if (kjo pc d && (offs.toList.all (kjo pc) && (k32 lo && (k32 hi && decide (hi + 1 = lo + (offs.toList.length : Int)))))) = true then some (14, kjm pc d, 0, 0, pc + len, ktb pc offs.toList lo) else none
  | .lookupswitch d ps => if (kjo pc d && (ps.toList.all (fun q => kjo pc q.2 && k32 q.1) && (ps.toList.zip (ps.toList.drop 1)).all (fun (a, next) => decide (a.1 < next.1)))) = true then some (14, kjm pc d, 0, 0, pc + len, ps.toList.map fun q => (q.1, kjm pc q.2)) else none
  | .getfield ix => (match klk krF own ix with | some (ci, k, ty, _) => some (15, ci, k, (ty : Int), pc + len, []) | none => none)
  | .putfield ix => (match klk krF own ix with | some (ci, k, ty, _) => (match vwCl[ci]? with | some (_, Tk, _) => if (Tk k).2.2.2 = true → init = true ∧ ci = own then some (16, ci, k, (ty : Int), pc + len, []) else none | none => none) | none => none)
  | .iaload => if y = kLaw then some (31, 0, 0, 0, pc + len, []) else some (17, 0, 0, 0, pc + len, [])
  | .caload => some (17, 0, 1, 0, pc + len, [])
  | .baload => some (17, 0, 2, 0, pc + len, [])
  | .laload => some (17, 0, 3, 0, pc + len, [])
  | .aaload => some (17, 0, 4, 0, pc + len, [])
  | .iastore => some (18, 0, 0, 0, pc + len, [])
  | .castore => some (18, 0, 1, 0, pc + len, [])
  | .bastore => some (18, 0, 2, 0, pc + len, [])
  | .lastore => some (18, 0, 3, 0, pc + len, [])
  | .aastore => some (18, 0, 4, 0, pc + len, [])
  | .arraylength => if y = kLaw then some (30, 0, 0, 0, pc + len, []) else some (19, 0, 0, 0, pc + len, [])
  | .newarray t => (match kat t with | some b => some (20, 0, b, 0, pc + len, []) | none => none)
  | .anewarray ix => (match klk krC own ix with | some 1 => some (21, 0, 0, 0, pc + len, []) | _ => none)
  | .new ix => (match klk krC own ix with | some ci => if ci = 99 then (if kthr own cc pc then some (26, 0, 0, 0, pc + len, []) else none) else some (22, ci, 0, 0, pc + len, []) | none => none)
  | .invokevirtual ix => kinv own y pc ix 0 (pc + len)
  | .invokestatic ix => kinv own y pc ix 1 (pc + len)
  | .invokespecial ix => kinv own y pc ix 2 (pc + len)
  | .ireturn => (match ret with | some .int => some (24, 0, 1, 0, pc + len, []) | some .boolean => some (24, 0, 2, 0, pc + len, []) | _ => none)
  | .lreturn => (match ret with | some .long => some (24, 0, 3, 0, pc + len, []) | _ => none)
  | .return_ => (match ret with | none => some (24, 0, 0, 0, pc + len, []) | _ => none)
  | _ => none
def kfetch (y pc : Nat) : Option kI := match kms[y]? with
  | some (nm, cc, _, ret, own) => (match decode cc pc with
    | .ok (ins, len) => if kil ins = len ∨ kil ins = 0 then ktr own y (nm.name == "<init>") ret cc ins len pc else none
    | .error _ => none)
  | none => none
def kmx (y : Nat) : Nat := match kms[y]? with | some (_, _, n, _, _) => n | none => 0
def kow (y : Nat) : Nat := match kms[y]? with | some (_, _, _, _, o) => o | none => 99
/-- locals: a list by places; what isn't known is .retAddr 0 -/
def kget : List Value → Nat → Value
  | [], _ => .retAddr 0
  | v :: _, 0 => v
  | _ :: t, n + 1 => kget t n
def kset : List Value → Nat → Value → List Value
  | [], _, _ => []
  | _ :: t, 0, v => v :: t
  | x :: t, n + 1, v => x :: kset t n v
def kcl (v : Value) : Value := match v with | .long _ => .retAddr 0 | .double _ => .retAddr 0 | v => v
def kclr (L : List Value) (a : Nat) : List Value := match a with
  | 0 => L
  | b + 1 => kset L b (kcl (kget L b))
def kpad : Nat → List Value → List Value
  | 0, _ => []
  | n + 1, [] => .retAddr 0 :: kpad n []
  | 1, .long v :: _ => [.long v]
  | n + 2, .long v :: t => .long v :: .retAddr 0 :: kpad n t
  | n + 1, v :: t => v :: kpad n t
def kpop : Nat → List Value → List Value → Option (List Value × List Value)
  | 0, acc, st => some (acc, st)
  | _ + 1, _, [] => none
  | n + 1, acc, v :: st => kpop n (v :: acc) st
def kupi (i : Nat → Nat → Int32) (a k : Nat) (v : Int32) : Nat → Nat → Int32 := fun b j => if b = a ∧ j = k then v else i b j
def kupl (i : Nat → Nat → Int64) (a k : Nat) (v : Int64) : Nat → Nat → Int64 := fun b j => if b = a ∧ j = k then v else i b j
def kupr (i : Nat → Nat → Value) (a k : Nat) (v : Value) : Nat → Nat → Value := fun b j => if b = a ∧ j = k then v else i b j
def kcop (i : Nat → Nat → Int32) (s sp d dp n : Nat) : Nat → Nat → Int32 := fun b j => if b = d ∧ dp ≤ j ∧ j < dp + n then i s (sp + (j - dp)) else i b j
def kchar (x : Int32) : Int32 := vp_nar .char x
def kbool (x : Int32) : Int32 := vp_nar .boolean x
def ksw (x : Int32) (d : Nat) : List (Int × Nat) → Nat
  | [] => d
  | (k, t) :: r => if x = Int32.ofInt k then t else ksw x d r
def kbr (c : Nat) (x y : Int32) (t n : Nat) : Nat := match c with
  | 0 => if x = y then t else n
  | 1 => if x = y then n else t
  | 2 => if x < y then t else n
  | 3 => if y ≤ x then t else n
  | 4 => if y < x then t else n
  | _ => if x ≤ y then t else n
/-- what comes of an instruction: the end (a value returned; or thrown: none), the next place, a call -/
abbrev kC : Type := (Option (Option Value) × kS) ⊕ ((Nat × List Value × List Value × kS) ⊕ (Nat × List Value × Nat × List (Int × Nat) × List Value × List Value × kS))
def kgo (pc : Nat) (L st : List Value) (S : kS) : Option kC := some (.inr (.inl (pc, L, st, S)))
def kend (v : Option (Option Value)) (S : kS) : Option kC := some (.inl (v, S))
def ks3 (a b n : Nat) (L st : List Value) (S : kS) : Option kC := match b, kget L a with
  | 0, .int x => kgo n L (.int x :: st) S
  | 1, .long x => kgo n L (.long x :: st) S
  | 2, .ref x => kgo n L (.ref x :: st) S
  | _, _ => none
def ks4 (a b n : Nat) (L st : List Value) (S : kS) : Option kC := match b, st with
  | 0, .int x :: st => if a < L.length then kgo n (kset (kclr L a) a (.int x)) st S else none
  | 1, .long x :: st => if a + 1 < L.length then kgo n (kset (kset (kclr L a) a (.long x)) (a + 1) (.retAddr 0)) st S else none
  | 2, .ref x :: st => if a < L.length then kgo n (kset (kclr L a) a (.ref x)) st S else none
  | _, _ => none
def ks5 (a : Nat) (v : Int) (n : Nat) (L st : List Value) (S : kS) : Option kC := match kget L a with
  | .int x => if a < L.length then kgo n (kset L a (.int (x + Int32.ofInt v))) st S else none
  | _ => none
def ks6 (b n : Nat) (L st : List Value) (S : kS) : Option kC := match b, st with
  | 0, .int y :: .int x :: st => kgo n L (.int (x + y) :: st) S
  | 1, .int y :: .int x :: st => kgo n L (.int (x - y) :: st) S
  | 2, .int y :: .int x :: st => kgo n L (.int (x * y) :: st) S
  | 3, .int y :: .int x :: st => if y = 0 then none else kgo n L (.int (x / y) :: st) S
  | 4, .int y :: .int x :: st => if y = 0 then none else kgo n L (.int (x - x / y * y) :: st) S
  | 5, .int y :: .int x :: st => kgo n L (.int (x &&& y) :: st) S
  | 6, .int y :: .int x :: st => kgo n L (.int (x ||| y) :: st) S
  | 7, .int y :: .int x :: st => kgo n L (.int (x ^^^ y) :: st) S
  | 8, .int y :: .int x :: st => kgo n L (.int (x <<< (y &&& 31)) :: st) S
  | 9, .int y :: .int x :: st => kgo n L (.int (x >>> (y &&& 31)) :: st) S
  | 10, .int y :: .int x :: st => kgo n L (.int (x.toUInt32 >>> (y.toUInt32 &&& Int32.toUInt32 31)).toInt32 :: st) S
  | _, _ => none
def ks7 (b n : Nat) (L st : List Value) (S : kS) : Option kC := match b, st with
  | 0, .long y :: .long x :: st => kgo n L (.long (x + y) :: st) S
  | 1, .long y :: .long x :: st => kgo n L (.long (x - y) :: st) S
  | 2, .long y :: .long x :: st => kgo n L (.long (x * y) :: st) S
  | 3, .long y :: .long x :: st => if y = 0 then none else kgo n L (.long (x / y) :: st) S
  | 4, .long y :: .long x :: st => if y = 0 then none else kgo n L (.long (x - x / y * y) :: st) S
  | _, _ => none
def ks8 (b n : Nat) (L st : List Value) (S : kS) : Option kC := match b, st with
  | 0, .int x :: st => kgo n L (.int (-x) :: st) S
  | 1, .int x :: st => kgo n L (.long x.toInt64 :: st) S
  | 3, .int x :: st => kgo n L (.int x.toInt8.toInt32 :: st) S
  | 4, .int x :: st => kgo n L (.int x.toInt16.toInt32 :: st) S
  | 5, .int x :: st => kgo n L (.int (x.toUInt32 % 65536).toInt32 :: st) S
  | _, _ => none
def ks9 (n : Nat) (L st : List Value) (S : kS) : Option kC := match st with
  | .long y :: .long x :: st => kgo n L (.int (lg_cmp x y) :: st) S
  | _ => none
def kc1 (v : Value) : Bool := v.category == 1
def ks10 (b n : Nat) (L st : List Value) (S : kS) : Option kC := match b, st with
  | 0, v :: st => if kc1 v then kgo n L (v :: v :: st) S else none
  | 1, v :: st => if kc1 v then kgo n L st S else none
  | 2, v :: w :: st => if kc1 v && kc1 w then kgo n L (v :: w :: v :: w :: st) S else none
  | _, _ => none
def ks11 (a b n : Nat) (L st : List Value) (S : kS) : Option kC := match st with
  | .int y :: .int x :: st => kgo (kbr b x y a n) L st S
  | _ => none
def ks12 (a b n : Nat) (L st : List Value) (S : kS) : Option kC := match st with
  | .int x :: st => kgo (kbr b x 0 a n) L st S
  | _ => none
def ks14 (a : Nat) (tb : List (Int × Nat)) (L st : List Value) (S : kS) : Option kC := match st with
  | .int x :: st => kgo (ksw x a tb) L st S
  | _ => none
abbrev kob (u : kU) (a ci : Nat) : Prop := a < u.1 ∧ kSH a = .inl ci
def klen (a : Nat) (b : Nat) : Nat := match kSH a with | .inr (t, n) => if t = b then n else 0 | .inl _ => 0
abbrev kar (u : kU) (a b : Nat) (j : Int32) : Prop := a < u.1 ∧ kin j (klen a b)
def ks15 (ci k : Nat) (ty : Int) (n : Nat) (L st : List Value) (S : kS) : Option kC := match st, ty with
  | .ref a :: st, 2 => if kob S.1 a ci then kgo n L (S.2.2.2 a k :: st) S else none
  | .ref a :: st, _ => if kob S.1 a ci then kgo n L (.int (S.2.1 a k) :: st) S else none
  | _, _ => none
def ks16 (ci k : Nat) (ty : Int) (n : Nat) (L st : List Value) (S : kS) : Option kC := match ty, st with
  | 0, .int x :: .ref a :: st => if kob S.1 a ci then kgo n L st (S.1, kupi S.2.1 a k x, S.2.2) else none
  | 3, .int x :: .ref a :: st => if kob S.1 a ci ∧ (x = 0 ∨ x = 1) then kgo n L st (S.1, kupi S.2.1 a k x, S.2.2) else none
  | 2, .ref x :: .ref a :: st => if kob S.1 a ci then kgo n L st (S.1, S.2.1, S.2.2.1, kupr S.2.2.2 a k (.ref x)) else none
  | _, _ => none
def ks17 (b n : Nat) (L st : List Value) (S : kS) : Option kC := match b, st with
  | 3, .int j :: .ref a :: st => if kar S.1 a 3 j then kgo n L (.long (S.2.2.1 a j.toNatClampNeg) :: st) S else none
  | 4, .int j :: .ref a :: st => if kar S.1 a 4 j then kgo n L (S.2.2.2 a j.toNatClampNeg :: st) S else none
  | b, .int j :: .ref a :: st => if kar S.1 a b j then kgo n L (.int (S.2.1 a j.toNatClampNeg) :: st) S else none
  | _, _ => none
def ks18 (b n : Nat) (L st : List Value) (S : kS) : Option kC := match b, st with
  | 0, .int x :: .int j :: .ref a :: st => if kar S.1 a 0 j then kgo n L st (S.1, kupi S.2.1 a j.toNatClampNeg x, S.2.2) else none
  | 1, .int x :: .int j :: .ref a :: st => if kar S.1 a 1 j then kgo n L st (S.1, kupi S.2.1 a j.toNatClampNeg (kchar x), S.2.2) else none
  | 2, .int x :: .int j :: .ref a :: st => if kar S.1 a 2 j then kgo n L st (S.1, kupi S.2.1 a j.toNatClampNeg (kbool x), S.2.2) else none
  | 3, .long x :: .int j :: .ref a :: st => if kar S.1 a 3 j then kgo n L st (S.1, S.2.1, kupl S.2.2.1 a j.toNatClampNeg x, S.2.2.2) else none
  | 4, .ref x :: .int j :: .ref a :: st => if kar S.1 a 4 j ∧ kob S.1 x 1 then kgo n L st (S.1, S.2.1, S.2.2.1, kupr S.2.2.2 a j.toNatClampNeg (.ref x)) else none
  | _, _ => none
def ks19 (n : Nat) (L st : List Value) (S : kS) : Option kC := match st with
  | .ref a :: st => if a < S.1.1 then (match kSH a with | .inr (_, m) => kgo n L (.int (Int32.ofNat m) :: st) S | .inl _ => none) else none
  | _ => none
/-- a fresh cell: all of it 0, null -/
def kfresh (S : kS) (w : Nat) : kS := ((S.1.1 + 1, S.1.2.1 + 1, S.1.2.2 + w), (fun a k => if a = S.1.1 then 0 else S.2.1 a k), (fun a k => if a = S.1.1 then 0 else S.2.2.1 a k), (fun a k => if a = S.1.1 then .null else S.2.2.2 a k))
def ks20 (b n : Nat) (L st : List Value) (S : kS) : Option kC := match st with
  | .int x :: st => if S.1.2.1 = S.1.1 ∧ ¬ x < 0 ∧ x.toNatClampNeg ≤ 65536 ∧ kSH S.1.1 = .inr (b, x.toNatClampNeg) then kgo n L (.ref S.1.1 :: st) (kfresh S x.toNatClampNeg) else none
  | _ => none
def ks22 (ci n : Nat) (L st : List Value) (S : kS) : Option kC := match kNF[ci]? with
  | some w => if S.1.2.1 = S.1.1 ∧ kSH S.1.1 = .inl ci then kgo n L (.ref S.1.1 :: st) (kfresh S w) else none
  | none => none
def kargok (v : Value) : Bool := match v with | .int _ => true | .long _ => true | .ref _ => true | .null => true | _ => false
def kasz : List Value → Nat
  | [] => 0
  | v :: t => v.category + kasz t
def kaok (z : Nat) (as : List Value) : Bool := as.all kargok && decide (kasz as ≤ kmx z)
def ks23 (z kind : Nat) (np : Int) (n : Nat) (hd : List (Int × Nat)) (L st : List Value) (S : kS) : Option kC := match kpop (if kind = 1 then np.toNat else np.toNat + 1) [] st with
  | some (as, rest) => if 2 * rest.length ≤ 8 ∧ kaok z as = true then (match kind, as with
    | 1, _ => some (.inr (.inr (z, as, n, hd, L, rest, S)))
    | _, .ref a :: _ => if kob S.1 a (kow z) then some (.inr (.inr (z, as, n, hd, L, rest, S))) else none
    | _, _ => none) else none
  | none => none
def ks24 (b : Nat) (st : List Value) (S : kS) : Option kC := match b, st with
  | 0, [] => kend (some none) S
  | 1, [.int x] => kend (some (some (.int x))) S
  | 2, [.int x] => if kbool x = x then kend (some (some (.int x))) S else none
  | 3, [.long x] => kend (some (some (.long x))) S
  | _, _ => none
def kchr (a : Nat) (j : Nat) : Int32 := Int32.ofNat (((kStr[a - kStA]?).getD []).getD j 0)
def kstl (a : Nat) : Nat := if kStA ≤ a ∧ a < kStA + kStr.length then ((kStr[a - kStA]?).getD []).length else 0
def ks27 (b n : Nat) (L st : List Value) (S : kS) : Option kC := match b, st with
  | 10, .ref a :: st => if kStA ≤ a ∧ a < kStA + kStr.length ∧ 2 * st.length ≤ 8 then kgo n L (.int (Int32.ofNat (kstl a)) :: st) S else none
  | 11, .int j :: .ref a :: st => if kin j (kstl a) ∧ 2 * st.length ≤ 8 then kgo n L (.int (kchr a j.toNatClampNeg) :: st) S else none
  | 12, .int x :: .int dp :: .ref d :: .int sp :: .ref s :: st => if s < S.1.1 ∧ d < S.1.1 ∧ s ≠ d ∧ ¬ x < 0 ∧ ¬ dp < 0 ∧ ¬ sp < 0 ∧ sp.toNatClampNeg + x.toNatClampNeg ≤ klen s 0 ∧ dp.toNatClampNeg + x.toNatClampNeg ≤ klen d 0 ∧ (0 < klen s 0 ∧ 0 < klen d 0) ∧ 2 * st.length ≤ 8 then
      kgo n L st (S.1, kcop S.2.1 s sp.toNatClampNeg d dp.toNatClampNeg x.toNatClampNeg, S.2.2) else none
  | 13, .ref _ :: st => if 2 * st.length ≤ 8 then kgo n L st S else none
  | 14, .int y :: .int x :: st => if 2 * st.length ≤ 8 then kgo n L (.int (if x < y then y else x) :: st) S else none
  | 15, .int y :: .int x :: st => if 2 * st.length ≤ 8 then kgo n L (.int (if y < x then y else x) :: st) S else none
  | _, _ => none
section KM
variable (sc : Nat × (Nat → Int32))
def ks30 (n : Nat) (L st : List Value) (S : kS) : Option kC := match st with
  | .ref a :: st => if a = kScA then kgo n L (.int (Int32.ofNat sc.1) :: st) S else none
  | _ => none
def ks31 (n : Nat) (L st : List Value) (S : kS) : Option kC := match st with
  | .int j :: .ref a :: st => if a = kScA ∧ kin j sc.1 then kgo n L (.int (sc.2 j.toNatClampNeg) :: st) S else none
  | _ => none
def kstep (I : kI) (L st : List Value) (S : kS) : Option kC := match I with
  | (1, _, _, v, n, _) => kgo n L (.int (Int32.ofInt v) :: st) S
  | (2, _, _, v, n, _) => kgo n L (.long (Int64.ofInt v) :: st) S
  | (3, a, b, _, n, _) => ks3 a b n L st S
  | (4, a, b, _, n, _) => ks4 a b n L st S
  | (5, a, _, v, n, _) => ks5 a v n L st S
  | (6, _, b, _, n, _) => ks6 b n L st S
  | (7, _, b, _, n, _) => ks7 b n L st S
  | (8, _, b, _, n, _) => ks8 b n L st S
  | (9, _, _, _, n, _) => ks9 n L st S
  | (10, _, b, _, n, _) => ks10 b n L st S
  | (11, a, b, _, n, _) => ks11 a b n L st S
  | (12, a, b, _, n, _) => ks12 a b n L st S
  | (13, a, _, _, _, _) => kgo a L st S
  | (14, a, _, _, _, tb) => ks14 a tb L st S
  | (15, a, b, v, n, _) => ks15 a b v n L st S
  | (16, a, b, v, n, _) => ks16 a b v n L st S
  | (17, _, b, _, n, _) => ks17 b n L st S
  | (18, _, b, _, n, _) => ks18 b n L st S
  | (19, _, _, _, n, _) => ks19 n L st S
  | (20, _, b, _, n, _) => ks20 b n L st S
  | (21, _, _, _, n, _) => ks20 4 n L st S
  | (22, a, _, _, n, _) => ks22 a n L st S
  | (23, a, b, v, n, tb) => ks23 a b v n tb L st S
  | (24, _, b, _, _, _) => ks24 b st S
  | (25, a, _, _, n, _) => kgo n L (.ref (kStA + a) :: st) S
  | (26, _, _, _, _, _) => if 2 * st.length ≤ 8 then kend none ((S.1.1, S.1.2.1 + 1, S.1.2.2 + 6), S.2) else none
  | (27, _, b, _, n, _) => ks27 b n L st S
  | (30, _, _, _, n, _) => ks30 sc n L st S
  | (31, _, _, _, n, _) => ks31 sc n L st S
  | _ => none
/-- n steps at most, calls at most d deep -/
def krun : Nat → Nat → Nat → Nat → List Value → List Value → kS → Option (Option (Option Value) × kS)
  | 0, _, _, _, _, _, _ => none
  | n + 1, d, y, pc, L, st, S => match kfetch y pc with
    | none => none
    | some I => match kstep sc I L st S with
      | none => none
      | some (.inl r) => some r
      | some (.inr (.inl (pc', L', st', S'))) => krun n d y pc' L' st' S'
      | some (.inr (.inr (z, as, nx, hd, L', st', S'))) => match d with
        | 0 => none
        | d' + 1 => match krun n d' z 0 (kpad (kmx z) as) [] S' with
          | none => none
          | some (some v, S2) => krun n (d' + 1) y nx L' (v.toList ++ st') S2
          | some (none, S2) => match hd with
            | [] => none
            | (k, h) :: _ => krun n (d' + 1) y h (kset (kclr L' k.toNat) k.toNat (.retAddr 0)) [] S2
end KM
